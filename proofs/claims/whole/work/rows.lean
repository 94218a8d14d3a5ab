section
-- ===== PART A: goes FIRST, ahead of the names: the tables' words, and 'selects' of the private methods out of them =====
/-- a private method of a class that the tables say can be made, by its rows of tables_1 -/
def lw_okq (q : MethodName × Nat) : Prop := (q.1.cls ≠ "java/lang/invoke/MethodHandle" ∧ q.1.cls ≠ "java/lang/invoke/VarHandle") ∧ Cond.instantiable q.1.cls q.2 ∈ tables_1 ∧ Cond.privateMethod q.1 ∈ tables_1 ∧ Cond.instanceMethod q.1 ∈ tables_1
theorem lw_p0 : lw_okq (⟨"FountainShow$LandingSorter", "takeLandings", "(LFountainShow$Jets;)V"⟩, 2) := ⟨⟨by decide +kernel, by decide +kernel⟩, List.mem_of_getElem? (i := 146) (by decide +kernel), List.mem_of_getElem? (i := 308) (by decide +kernel), List.mem_of_getElem? (i := 309) (by decide +kernel)⟩
theorem lw_p1 : lw_okq (⟨"FountainShow$Jets", "rankOf", "(I)I"⟩, 5) := ⟨⟨by decide +kernel, by decide +kernel⟩, List.mem_of_getElem? (i := 50) (by decide +kernel), List.mem_of_getElem? (i := 313) (by decide +kernel), List.mem_of_getElem? (i := 314) (by decide +kernel)⟩
theorem lw_p2 : lw_okq (⟨"FountainShow$LandingSorter", "merge", "(III)I"⟩, 2) := ⟨⟨by decide +kernel, by decide +kernel⟩, List.mem_of_getElem? (i := 146) (by decide +kernel), List.mem_of_getElem? (i := 321) (by decide +kernel), List.mem_of_getElem? (i := 322) (by decide +kernel)⟩
theorem lw_p3 : lw_okq (⟨"FountainShow", "remember", "()V"⟩, 12) := ⟨⟨by decide +kernel, by decide +kernel⟩, List.mem_of_getElem? (i := 36) (by decide +kernel), List.mem_of_getElem? (i := 332) (by decide +kernel), List.mem_of_getElem? (i := 333) (by decide +kernel)⟩
theorem lw_p4 : lw_okq (⟨"FountainShow$Jets", "findFirstWild", "()I"⟩, 5) := ⟨⟨by decide +kernel, by decide +kernel⟩, List.mem_of_getElem? (i := 50) (by decide +kernel), List.mem_of_getElem? (i := 356) (by decide +kernel), List.mem_of_getElem? (i := 357) (by decide +kernel)⟩
theorem lw_p5 : lw_okq (⟨"FountainShow$Stage", "openingFromLastStep", "(II)I"⟩, 8) := ⟨⟨by decide +kernel, by decide +kernel⟩, List.mem_of_getElem? (i := 44) (by decide +kernel), List.mem_of_getElem? (i := 425) (by decide +kernel), List.mem_of_getElem? (i := 426) (by decide +kernel)⟩
theorem lw_p6 : lw_okq (⟨"FountainShow$Stage", "happenDueSteps", "(I)V"⟩, 8) := ⟨⟨by decide +kernel, by decide +kernel⟩, List.mem_of_getElem? (i := 44) (by decide +kernel), List.mem_of_getElem? (i := 436) (by decide +kernel), List.mem_of_getElem? (i := 437) (by decide +kernel)⟩
theorem lw_p7 : lw_okq (⟨"FountainShow$Stage", "dropFinishedEntries", "()I"⟩, 8) := ⟨⟨by decide +kernel, by decide +kernel⟩, List.mem_of_getElem? (i := 44) (by decide +kernel), List.mem_of_getElem? (i := 440) (by decide +kernel), List.mem_of_getElem? (i := 441) (by decide +kernel)⟩
theorem lw_p8 : lw_okq (⟨"FountainShow$Stage", "moveEntry", "(II)V"⟩, 8) := ⟨⟨by decide +kernel, by decide +kernel⟩, List.mem_of_getElem? (i := 44) (by decide +kernel), List.mem_of_getElem? (i := 444) (by decide +kernel), List.mem_of_getElem? (i := 445) (by decide +kernel)⟩
theorem lw_p9 : lw_okq (⟨"FountainShow$Jets", "isTaken", "(I)Z"⟩, 5) := ⟨⟨by decide +kernel, by decide +kernel⟩, List.mem_of_getElem? (i := 50) (by decide +kernel), List.mem_of_getElem? (i := 474) (by decide +kernel), List.mem_of_getElem? (i := 475) (by decide +kernel)⟩
theorem lw_p10 : lw_okq (⟨"java/lang/Throwable", "fillInStackTrace", "(I)Ljava/lang/Throwable;"⟩, 6) := ⟨⟨by decide +kernel, by decide +kernel⟩, List.mem_of_getElem? (i := 538) (by decide +kernel), List.mem_of_getElem? (i := 536) (by decide +kernel), List.mem_of_getElem? (i := 537) (by decide +kernel)⟩
theorem lw_p11 : lw_okq (⟨"FountainShow", "requireJet", "(I)V"⟩, 12) := ⟨⟨by decide +kernel, by decide +kernel⟩, List.mem_of_getElem? (i := 36) (by decide +kernel), List.mem_of_getElem? (i := 647) (by decide +kernel), List.mem_of_getElem? (i := 648) (by decide +kernel)⟩
theorem lw_p12 : lw_okq (⟨"FountainShow$Figures", "forgetJetIn", "(II)I"⟩, 5) := ⟨⟨by decide +kernel, by decide +kernel⟩, List.mem_of_getElem? (i := 81) (by decide +kernel), List.mem_of_getElem? (i := 668) (by decide +kernel), List.mem_of_getElem? (i := 669) (by decide +kernel)⟩
theorem lw_p13 : lw_okq (⟨"FountainShow$Figures", "moveStep", "(II)V"⟩, 5) := ⟨⟨by decide +kernel, by decide +kernel⟩, List.mem_of_getElem? (i := 81) (by decide +kernel), List.mem_of_getElem? (i := 673) (by decide +kernel), List.mem_of_getElem? (i := 674) (by decide +kernel)⟩
theorem lw_p14 : lw_okq (⟨"FountainShow", "requireAnyJet", "()V"⟩, 12) := ⟨⟨by decide +kernel, by decide +kernel⟩, List.mem_of_getElem? (i := 36) (by decide +kernel), List.mem_of_getElem? (i := 741) (by decide +kernel), List.mem_of_getElem? (i := 742) (by decide +kernel)⟩
theorem lw_p15 : lw_okq (⟨"FountainShow$Jets", "distance", "(III)J"⟩, 5) := ⟨⟨by decide +kernel, by decide +kernel⟩, List.mem_of_getElem? (i := 50) (by decide +kernel), List.mem_of_getElem? (i := 789) (by decide +kernel), List.mem_of_getElem? (i := 790) (by decide +kernel)⟩
def lw_privs_1 : List (MethodName × Nat) := [(⟨"FountainShow$LandingSorter", "takeLandings", "(LFountainShow$Jets;)V"⟩, 2), (⟨"FountainShow$Jets", "rankOf", "(I)I"⟩, 5), (⟨"FountainShow$LandingSorter", "merge", "(III)I"⟩, 2), (⟨"FountainShow", "remember", "()V"⟩, 12), (⟨"FountainShow$Jets", "findFirstWild", "()I"⟩, 5), (⟨"FountainShow$Stage", "openingFromLastStep", "(II)I"⟩, 8), (⟨"FountainShow$Stage", "happenDueSteps", "(I)V"⟩, 8), (⟨"FountainShow$Stage", "dropFinishedEntries", "()I"⟩, 8), (⟨"FountainShow$Stage", "moveEntry", "(II)V"⟩, 8), (⟨"FountainShow$Jets", "isTaken", "(I)Z"⟩, 5), (⟨"java/lang/Throwable", "fillInStackTrace", "(I)Ljava/lang/Throwable;"⟩, 6), (⟨"FountainShow", "requireJet", "(I)V"⟩, 12), (⟨"FountainShow$Figures", "forgetJetIn", "(II)I"⟩, 5), (⟨"FountainShow$Figures", "moveStep", "(II)V"⟩, 5), (⟨"FountainShow", "requireAnyJet", "()V"⟩, 12), (⟨"FountainShow$Jets", "distance", "(III)J"⟩, 5)]
theorem lw_r1 : ∀ q ∈ lw_privs_1, lw_okq q := List.forall_mem_cons.mpr ⟨lw_p0, List.forall_mem_cons.mpr ⟨lw_p1, List.forall_mem_cons.mpr ⟨lw_p2, List.forall_mem_cons.mpr ⟨lw_p3, List.forall_mem_cons.mpr ⟨lw_p4, List.forall_mem_cons.mpr ⟨lw_p5, List.forall_mem_cons.mpr ⟨lw_p6, List.forall_mem_cons.mpr ⟨lw_p7, List.forall_mem_cons.mpr ⟨lw_p8, List.forall_mem_cons.mpr ⟨lw_p9, List.forall_mem_cons.mpr ⟨lw_p10, List.forall_mem_cons.mpr ⟨lw_p11, List.forall_mem_cons.mpr ⟨lw_p12, List.forall_mem_cons.mpr ⟨lw_p13, List.forall_mem_cons.mpr ⟨lw_p14, List.forall_mem_cons.mpr ⟨lw_p15, fun _ h => absurd h List.not_mem_nil⟩⟩⟩⟩⟩⟩⟩⟩⟩⟩⟩⟩⟩⟩⟩⟩
theorem lw_p16 : lw_okq (⟨"FountainShow", "requireStep", "(II)V"⟩, 12) := ⟨⟨by decide +kernel, by decide +kernel⟩, List.mem_of_getElem? (i := 36) (by decide +kernel), List.mem_of_getElem? (i := 893) (by decide +kernel), List.mem_of_getElem? (i := 894) (by decide +kernel)⟩
theorem lw_p17 : lw_okq (⟨"FountainShow", "requireFigure", "(I)V"⟩, 12) := ⟨⟨by decide +kernel, by decide +kernel⟩, List.mem_of_getElem? (i := 36) (by decide +kernel), List.mem_of_getElem? (i := 914) (by decide +kernel), List.mem_of_getElem? (i := 915) (by decide +kernel)⟩
theorem lw_p18 : lw_okq (⟨"FountainShow$Figures", "uses", "(II)Z"⟩, 5) := ⟨⟨by decide +kernel, by decide +kernel⟩, List.mem_of_getElem? (i := 81) (by decide +kernel), List.mem_of_getElem? (i := 961) (by decide +kernel), List.mem_of_getElem? (i := 962) (by decide +kernel)⟩
theorem lw_p19 : lw_okq (⟨"FountainShow", "requireEntry", "(I)V"⟩, 12) := ⟨⟨by decide +kernel, by decide +kernel⟩, List.mem_of_getElem? (i := 36) (by decide +kernel), List.mem_of_getElem? (i := 987) (by decide +kernel), List.mem_of_getElem? (i := 988) (by decide +kernel)⟩
theorem lw_p20 : lw_okq (⟨"FountainShow", "writeStep", "(I)V"⟩, 12) := ⟨⟨by decide +kernel, by decide +kernel⟩, List.mem_of_getElem? (i := 36) (by decide +kernel), List.mem_of_getElem? (i := 1341) (by decide +kernel), List.mem_of_getElem? (i := 1342) (by decide +kernel)⟩
theorem lw_p21 : lw_okq (⟨"FountainShow$Script", "fits", "(Ljava/lang/String;)Z"⟩, 7) := ⟨⟨by decide +kernel, by decide +kernel⟩, List.mem_of_getElem? (i := 159) (by decide +kernel), List.mem_of_getElem? (i := 1420) (by decide +kernel), List.mem_of_getElem? (i := 1421) (by decide +kernel)⟩
theorem lw_p22 : lw_okq (⟨"FountainShow$Script", "takePart", "(C)Z"⟩, 7) := ⟨⟨by decide +kernel, by decide +kernel⟩, List.mem_of_getElem? (i := 159) (by decide +kernel), List.mem_of_getElem? (i := 1440) (by decide +kernel), List.mem_of_getElem? (i := 1441) (by decide +kernel)⟩
theorem lw_p23 : lw_okq (⟨"FountainShow$Script", "takeNumber", "(I)Z"⟩, 7) := ⟨⟨by decide +kernel, by decide +kernel⟩, List.mem_of_getElem? (i := 159) (by decide +kernel), List.mem_of_getElem? (i := 1444) (by decide +kernel), List.mem_of_getElem? (i := 1445) (by decide +kernel)⟩
theorem lw_p24 : lw_okq (⟨"FountainShow$Script", "standsAtDigit", "()Z"⟩, 7) := ⟨⟨by decide +kernel, by decide +kernel⟩, List.mem_of_getElem? (i := 159) (by decide +kernel), List.mem_of_getElem? (i := 1448) (by decide +kernel), List.mem_of_getElem? (i := 1449) (by decide +kernel)⟩
theorem lw_p25 : lw_okq (⟨"FountainShow$Script", "keepNumber", "(I)V"⟩, 7) := ⟨⟨by decide +kernel, by decide +kernel⟩, List.mem_of_getElem? (i := 159) (by decide +kernel), List.mem_of_getElem? (i := 1452) (by decide +kernel), List.mem_of_getElem? (i := 1453) (by decide +kernel)⟩
theorem lw_p26 : lw_okq (⟨"FountainShow$Script", "takeSign", "()Z"⟩, 7) := ⟨⟨by decide +kernel, by decide +kernel⟩, List.mem_of_getElem? (i := 159) (by decide +kernel), List.mem_of_getElem? (i := 1456) (by decide +kernel), List.mem_of_getElem? (i := 1457) (by decide +kernel)⟩
theorem lw_p27 : lw_okq (⟨"FountainShow$Script", "takeCharacter", "(C)Z"⟩, 7) := ⟨⟨by decide +kernel, by decide +kernel⟩, List.mem_of_getElem? (i := 159) (by decide +kernel), List.mem_of_getElem? (i := 1460) (by decide +kernel), List.mem_of_getElem? (i := 1461) (by decide +kernel)⟩
theorem lw_p28 : lw_okq (⟨"FountainShow", "performUntilProblem", "()I"⟩, 12) := ⟨⟨by decide +kernel, by decide +kernel⟩, List.mem_of_getElem? (i := 36) (by decide +kernel), List.mem_of_getElem? (i := 1470) (by decide +kernel), List.mem_of_getElem? (i := 1471) (by decide +kernel)⟩
theorem lw_p29 : lw_okq (⟨"FountainShowModel", "remembers", "()V"⟩, 20) := ⟨⟨by decide +kernel, by decide +kernel⟩, List.mem_of_getElem? (i := 1540) (by decide +kernel), List.mem_of_getElem? (i := 1615) (by decide +kernel), List.mem_of_getElem? (i := 1616) (by decide +kernel)⟩
theorem lw_p30 : lw_okq (⟨"FountainShowModel", "addsJet", "(I)I"⟩, 20) := ⟨⟨by decide +kernel, by decide +kernel⟩, List.mem_of_getElem? (i := 1540) (by decide +kernel), List.mem_of_getElem? (i := 1619) (by decide +kernel), List.mem_of_getElem? (i := 1620) (by decide +kernel)⟩
theorem lw_p31 : lw_okq (⟨"FountainShowModel", "place", "(I)I"⟩, 20) := ⟨⟨by decide +kernel, by decide +kernel⟩, List.mem_of_getElem? (i := 1540) (by decide +kernel), List.mem_of_getElem? (i := 1626) (by decide +kernel), List.mem_of_getElem? (i := 1627) (by decide +kernel)⟩
def lw_privs_2 : List (MethodName × Nat) := [(⟨"FountainShow", "requireStep", "(II)V"⟩, 12), (⟨"FountainShow", "requireFigure", "(I)V"⟩, 12), (⟨"FountainShow$Figures", "uses", "(II)Z"⟩, 5), (⟨"FountainShow", "requireEntry", "(I)V"⟩, 12), (⟨"FountainShow", "writeStep", "(I)V"⟩, 12), (⟨"FountainShow$Script", "fits", "(Ljava/lang/String;)Z"⟩, 7), (⟨"FountainShow$Script", "takePart", "(C)Z"⟩, 7), (⟨"FountainShow$Script", "takeNumber", "(I)Z"⟩, 7), (⟨"FountainShow$Script", "standsAtDigit", "()Z"⟩, 7), (⟨"FountainShow$Script", "keepNumber", "(I)V"⟩, 7), (⟨"FountainShow$Script", "takeSign", "()Z"⟩, 7), (⟨"FountainShow$Script", "takeCharacter", "(C)Z"⟩, 7), (⟨"FountainShow", "performUntilProblem", "()I"⟩, 12), (⟨"FountainShowModel", "remembers", "()V"⟩, 20), (⟨"FountainShowModel", "addsJet", "(I)I"⟩, 20), (⟨"FountainShowModel", "place", "(I)I"⟩, 20)]
theorem lw_r2 : ∀ q ∈ lw_privs_2, lw_okq q := List.forall_mem_cons.mpr ⟨lw_p16, List.forall_mem_cons.mpr ⟨lw_p17, List.forall_mem_cons.mpr ⟨lw_p18, List.forall_mem_cons.mpr ⟨lw_p19, List.forall_mem_cons.mpr ⟨lw_p20, List.forall_mem_cons.mpr ⟨lw_p21, List.forall_mem_cons.mpr ⟨lw_p22, List.forall_mem_cons.mpr ⟨lw_p23, List.forall_mem_cons.mpr ⟨lw_p24, List.forall_mem_cons.mpr ⟨lw_p25, List.forall_mem_cons.mpr ⟨lw_p26, List.forall_mem_cons.mpr ⟨lw_p27, List.forall_mem_cons.mpr ⟨lw_p28, List.forall_mem_cons.mpr ⟨lw_p29, List.forall_mem_cons.mpr ⟨lw_p30, List.forall_mem_cons.mpr ⟨lw_p31, fun _ h => absurd h List.not_mem_nil⟩⟩⟩⟩⟩⟩⟩⟩⟩⟩⟩⟩⟩⟩⟩⟩
theorem lw_p32 : lw_okq (⟨"FountainShowModel", "done", "(I)I"⟩, 20) := ⟨⟨by decide +kernel, by decide +kernel⟩, List.mem_of_getElem? (i := 1540) (by decide +kernel), List.mem_of_getElem? (i := 1630) (by decide +kernel), List.mem_of_getElem? (i := 1631) (by decide +kernel)⟩
theorem lw_p33 : lw_okq (⟨"FountainShowModel", "ends", "(I)I"⟩, 20) := ⟨⟨by decide +kernel, by decide +kernel⟩, List.mem_of_getElem? (i := 1540) (by decide +kernel), List.mem_of_getElem? (i := 1634) (by decide +kernel), List.mem_of_getElem? (i := 1635) (by decide +kernel)⟩
theorem lw_p34 : lw_okq (⟨"FountainShowModel", "changed", "(I)I"⟩, 20) := ⟨⟨by decide +kernel, by decide +kernel⟩, List.mem_of_getElem? (i := 1540) (by decide +kernel), List.mem_of_getElem? (i := 1638) (by decide +kernel), List.mem_of_getElem? (i := 1639) (by decide +kernel)⟩
theorem lw_p35 : lw_okq (⟨"FountainShowModel", "fails", "(I)I"⟩, 20) := ⟨⟨by decide +kernel, by decide +kernel⟩, List.mem_of_getElem? (i := 1540) (by decide +kernel), List.mem_of_getElem? (i := 1642) (by decide +kernel), List.mem_of_getElem? (i := 1643) (by decide +kernel)⟩
theorem lw_p36 : lw_okq (⟨"FountainShowModel", "removesJet", "(I)I"⟩, 20) := ⟨⟨by decide +kernel, by decide +kernel⟩, List.mem_of_getElem? (i := 1540) (by decide +kernel), List.mem_of_getElem? (i := 1650) (by decide +kernel), List.mem_of_getElem? (i := 1651) (by decide +kernel)⟩
theorem lw_p37 : lw_okq (⟨"FountainShowModel", "isJet", "(I)Z"⟩, 20) := ⟨⟨by decide +kernel, by decide +kernel⟩, List.mem_of_getElem? (i := 1540) (by decide +kernel), List.mem_of_getElem? (i := 1654) (by decide +kernel), List.mem_of_getElem? (i := 1655) (by decide +kernel)⟩
theorem lw_p38 : lw_okq (⟨"FountainShowModel", "steps", "(I)I"⟩, 20) := ⟨⟨by decide +kernel, by decide +kernel⟩, List.mem_of_getElem? (i := 1540) (by decide +kernel), List.mem_of_getElem? (i := 1658) (by decide +kernel), List.mem_of_getElem? (i := 1659) (by decide +kernel)⟩
theorem lw_p39 : lw_okq (⟨"FountainShowModel", "at", "(III)I"⟩, 20) := ⟨⟨by decide +kernel, by decide +kernel⟩, List.mem_of_getElem? (i := 1540) (by decide +kernel), List.mem_of_getElem? (i := 1662) (by decide +kernel), List.mem_of_getElem? (i := 1663) (by decide +kernel)⟩
theorem lw_p40 : lw_okq (⟨"FountainShowModel", "cuts", "(II)V"⟩, 20) := ⟨⟨by decide +kernel, by decide +kernel⟩, List.mem_of_getElem? (i := 1540) (by decide +kernel), List.mem_of_getElem? (i := 1666) (by decide +kernel), List.mem_of_getElem? (i := 1667) (by decide +kernel)⟩
theorem lw_p41 : lw_okq (⟨"FountainShowModel", "opens", "(II)I"⟩, 20) := ⟨⟨by decide +kernel, by decide +kernel⟩, List.mem_of_getElem? (i := 1540) (by decide +kernel), List.mem_of_getElem? (i := 1674) (by decide +kernel), List.mem_of_getElem? (i := 1675) (by decide +kernel)⟩
theorem lw_p42 : lw_okq (⟨"FountainShowModel", "valve", "(I)I"⟩, 20) := ⟨⟨by decide +kernel, by decide +kernel⟩, List.mem_of_getElem? (i := 1540) (by decide +kernel), List.mem_of_getElem? (i := 1678) (by decide +kernel), List.mem_of_getElem? (i := 1679) (by decide +kernel)⟩
theorem lw_p43 : lw_okq (⟨"FountainShowModel", "isAsked", "(I)Z"⟩, 20) := ⟨⟨by decide +kernel, by decide +kernel⟩, List.mem_of_getElem? (i := 1540) (by decide +kernel), List.mem_of_getElem? (i := 1690) (by decide +kernel), List.mem_of_getElem? (i := 1691) (by decide +kernel)⟩
theorem lw_p44 : lw_okq (⟨"FountainShowModel", "high", "(I)I"⟩, 20) := ⟨⟨by decide +kernel, by decide +kernel⟩, List.mem_of_getElem? (i := 1540) (by decide +kernel), List.mem_of_getElem? (i := 1702) (by decide +kernel), List.mem_of_getElem? (i := 1703) (by decide +kernel)⟩
theorem lw_p45 : lw_okq (⟨"FountainShowModel", "asked", "()I"⟩, 20) := ⟨⟨by decide +kernel, by decide +kernel⟩, List.mem_of_getElem? (i := 1540) (by decide +kernel), List.mem_of_getElem? (i := 1706) (by decide +kernel), List.mem_of_getElem? (i := 1707) (by decide +kernel)⟩
theorem lw_p46 : lw_okq (⟨"FountainShowModel", "lands", "(I)I"⟩, 20) := ⟨⟨by decide +kernel, by decide +kernel⟩, List.mem_of_getElem? (i := 1540) (by decide +kernel), List.mem_of_getElem? (i := 1714) (by decide +kernel), List.mem_of_getElem? (i := 1715) (by decide +kernel)⟩
theorem lw_p47 : lw_okq (⟨"FountainShowModel", "wild", "(I)Z"⟩, 20) := ⟨⟨by decide +kernel, by decide +kernel⟩, List.mem_of_getElem? (i := 1540) (by decide +kernel), List.mem_of_getElem? (i := 1722) (by decide +kernel), List.mem_of_getElem? (i := 1723) (by decide +kernel)⟩
def lw_privs_3 : List (MethodName × Nat) := [(⟨"FountainShowModel", "done", "(I)I"⟩, 20), (⟨"FountainShowModel", "ends", "(I)I"⟩, 20), (⟨"FountainShowModel", "changed", "(I)I"⟩, 20), (⟨"FountainShowModel", "fails", "(I)I"⟩, 20), (⟨"FountainShowModel", "removesJet", "(I)I"⟩, 20), (⟨"FountainShowModel", "isJet", "(I)Z"⟩, 20), (⟨"FountainShowModel", "steps", "(I)I"⟩, 20), (⟨"FountainShowModel", "at", "(III)I"⟩, 20), (⟨"FountainShowModel", "cuts", "(II)V"⟩, 20), (⟨"FountainShowModel", "opens", "(II)I"⟩, 20), (⟨"FountainShowModel", "valve", "(I)I"⟩, 20), (⟨"FountainShowModel", "isAsked", "(I)Z"⟩, 20), (⟨"FountainShowModel", "high", "(I)I"⟩, 20), (⟨"FountainShowModel", "asked", "()I"⟩, 20), (⟨"FountainShowModel", "lands", "(I)I"⟩, 20), (⟨"FountainShowModel", "wild", "(I)Z"⟩, 20)]
theorem lw_r3 : ∀ q ∈ lw_privs_3, lw_okq q := List.forall_mem_cons.mpr ⟨lw_p32, List.forall_mem_cons.mpr ⟨lw_p33, List.forall_mem_cons.mpr ⟨lw_p34, List.forall_mem_cons.mpr ⟨lw_p35, List.forall_mem_cons.mpr ⟨lw_p36, List.forall_mem_cons.mpr ⟨lw_p37, List.forall_mem_cons.mpr ⟨lw_p38, List.forall_mem_cons.mpr ⟨lw_p39, List.forall_mem_cons.mpr ⟨lw_p40, List.forall_mem_cons.mpr ⟨lw_p41, List.forall_mem_cons.mpr ⟨lw_p42, List.forall_mem_cons.mpr ⟨lw_p43, List.forall_mem_cons.mpr ⟨lw_p44, List.forall_mem_cons.mpr ⟨lw_p45, List.forall_mem_cons.mpr ⟨lw_p46, List.forall_mem_cons.mpr ⟨lw_p47, fun _ h => absurd h List.not_mem_nil⟩⟩⟩⟩⟩⟩⟩⟩⟩⟩⟩⟩⟩⟩⟩⟩
theorem lw_p48 : lw_okq (⟨"FountainShowModel", "away", "(II)J"⟩, 20) := ⟨⟨by decide +kernel, by decide +kernel⟩, List.mem_of_getElem? (i := 1540) (by decide +kernel), List.mem_of_getElem? (i := 1742) (by decide +kernel), List.mem_of_getElem? (i := 1743) (by decide +kernel)⟩
theorem lw_p49 : lw_okq (⟨"FountainShowModel", "pumps", "(I)I"⟩, 20) := ⟨⟨by decide +kernel, by decide +kernel⟩, List.mem_of_getElem? (i := 1540) (by decide +kernel), List.mem_of_getElem? (i := 1759) (by decide +kernel), List.mem_of_getElem? (i := 1760) (by decide +kernel)⟩
theorem lw_p50 : lw_okq (⟨"FountainShowModel", "blows", "(I)I"⟩, 20) := ⟨⟨by decide +kernel, by decide +kernel⟩, List.mem_of_getElem? (i := 1540) (by decide +kernel), List.mem_of_getElem? (i := 1767) (by decide +kernel), List.mem_of_getElem? (i := 1768) (by decide +kernel)⟩
theorem lw_p51 : lw_okq (⟨"FountainShowModel", "trims", "()I"⟩, 20) := ⟨⟨by decide +kernel, by decide +kernel⟩, List.mem_of_getElem? (i := 1540) (by decide +kernel), List.mem_of_getElem? (i := 1775) (by decide +kernel), List.mem_of_getElem? (i := 1776) (by decide +kernel)⟩
theorem lw_p52 : lw_okq (⟨"FountainShowModel", "given", "()I"⟩, 20) := ⟨⟨by decide +kernel, by decide +kernel⟩, List.mem_of_getElem? (i := 1540) (by decide +kernel), List.mem_of_getElem? (i := 1795) (by decide +kernel), List.mem_of_getElem? (i := 1796) (by decide +kernel)⟩
theorem lw_p53 : lw_okq (⟨"FountainShowModel", "addsFigure", "()I"⟩, 20) := ⟨⟨by decide +kernel, by decide +kernel⟩, List.mem_of_getElem? (i := 1540) (by decide +kernel), List.mem_of_getElem? (i := 1811) (by decide +kernel), List.mem_of_getElem? (i := 1812) (by decide +kernel)⟩
theorem lw_p54 : lw_okq (⟨"FountainShowModel", "removesFigure", "(I)I"⟩, 20) := ⟨⟨by decide +kernel, by decide +kernel⟩, List.mem_of_getElem? (i := 1540) (by decide +kernel), List.mem_of_getElem? (i := 1819) (by decide +kernel), List.mem_of_getElem? (i := 1820) (by decide +kernel)⟩
theorem lw_p55 : lw_okq (⟨"FountainShowModel", "isFigure", "(I)Z"⟩, 20) := ⟨⟨by decide +kernel, by decide +kernel⟩, List.mem_of_getElem? (i := 1540) (by decide +kernel), List.mem_of_getElem? (i := 1823) (by decide +kernel), List.mem_of_getElem? (i := 1824) (by decide +kernel)⟩
theorem lw_p56 : lw_okq (⟨"FountainShowModel", "addsStep", "(IIII)I"⟩, 20) := ⟨⟨by decide +kernel, by decide +kernel⟩, List.mem_of_getElem? (i := 1540) (by decide +kernel), List.mem_of_getElem? (i := 1831) (by decide +kernel), List.mem_of_getElem? (i := 1832) (by decide +kernel)⟩
theorem lw_p57 : lw_okq (⟨"FountainShowModel", "removesStep", "(II)I"⟩, 20) := ⟨⟨by decide +kernel, by decide +kernel⟩, List.mem_of_getElem? (i := 1540) (by decide +kernel), List.mem_of_getElem? (i := 1839) (by decide +kernel), List.mem_of_getElem? (i := 1840) (by decide +kernel)⟩
theorem lw_p58 : lw_okq (⟨"FountainShowModel", "isStep", "(II)Z"⟩, 20) := ⟨⟨by decide +kernel, by decide +kernel⟩, List.mem_of_getElem? (i := 1540) (by decide +kernel), List.mem_of_getElem? (i := 1843) (by decide +kernel), List.mem_of_getElem? (i := 1844) (by decide +kernel)⟩
theorem lw_p59 : lw_okq (⟨"FountainShowModel", "askedStep", "(III)I"⟩, 20) := ⟨⟨by decide +kernel, by decide +kernel⟩, List.mem_of_getElem? (i := 1540) (by decide +kernel), List.mem_of_getElem? (i := 1859) (by decide +kernel), List.mem_of_getElem? (i := 1860) (by decide +kernel)⟩
theorem lw_p60 : lw_okq (⟨"FountainShowModel", "lasts", "(I)I"⟩, 20) := ⟨⟨by decide +kernel, by decide +kernel⟩, List.mem_of_getElem? (i := 1540) (by decide +kernel), List.mem_of_getElem? (i := 1875) (by decide +kernel), List.mem_of_getElem? (i := 1876) (by decide +kernel)⟩
theorem lw_p61 : lw_okq (⟨"FountainShowModel", "uses", "(II)Z"⟩, 20) := ⟨⟨by decide +kernel, by decide +kernel⟩, List.mem_of_getElem? (i := 1540) (by decide +kernel), List.mem_of_getElem? (i := 1883) (by decide +kernel), List.mem_of_getElem? (i := 1884) (by decide +kernel)⟩
theorem lw_p62 : lw_okq (⟨"FountainShowModel", "plays", "(II)I"⟩, 20) := ⟨⟨by decide +kernel, by decide +kernel⟩, List.mem_of_getElem? (i := 1540) (by decide +kernel), List.mem_of_getElem? (i := 1891) (by decide +kernel), List.mem_of_getElem? (i := 1892) (by decide +kernel)⟩
theorem lw_p63 : lw_okq (⟨"FountainShowModel", "cancels", "(I)I"⟩, 20) := ⟨⟨by decide +kernel, by decide +kernel⟩, List.mem_of_getElem? (i := 1540) (by decide +kernel), List.mem_of_getElem? (i := 1899) (by decide +kernel), List.mem_of_getElem? (i := 1900) (by decide +kernel)⟩
def lw_privs_4 : List (MethodName × Nat) := [(⟨"FountainShowModel", "away", "(II)J"⟩, 20), (⟨"FountainShowModel", "pumps", "(I)I"⟩, 20), (⟨"FountainShowModel", "blows", "(I)I"⟩, 20), (⟨"FountainShowModel", "trims", "()I"⟩, 20), (⟨"FountainShowModel", "given", "()I"⟩, 20), (⟨"FountainShowModel", "addsFigure", "()I"⟩, 20), (⟨"FountainShowModel", "removesFigure", "(I)I"⟩, 20), (⟨"FountainShowModel", "isFigure", "(I)Z"⟩, 20), (⟨"FountainShowModel", "addsStep", "(IIII)I"⟩, 20), (⟨"FountainShowModel", "removesStep", "(II)I"⟩, 20), (⟨"FountainShowModel", "isStep", "(II)Z"⟩, 20), (⟨"FountainShowModel", "askedStep", "(III)I"⟩, 20), (⟨"FountainShowModel", "lasts", "(I)I"⟩, 20), (⟨"FountainShowModel", "uses", "(II)Z"⟩, 20), (⟨"FountainShowModel", "plays", "(II)I"⟩, 20), (⟨"FountainShowModel", "cancels", "(I)I"⟩, 20)]
theorem lw_r4 : ∀ q ∈ lw_privs_4, lw_okq q := List.forall_mem_cons.mpr ⟨lw_p48, List.forall_mem_cons.mpr ⟨lw_p49, List.forall_mem_cons.mpr ⟨lw_p50, List.forall_mem_cons.mpr ⟨lw_p51, List.forall_mem_cons.mpr ⟨lw_p52, List.forall_mem_cons.mpr ⟨lw_p53, List.forall_mem_cons.mpr ⟨lw_p54, List.forall_mem_cons.mpr ⟨lw_p55, List.forall_mem_cons.mpr ⟨lw_p56, List.forall_mem_cons.mpr ⟨lw_p57, List.forall_mem_cons.mpr ⟨lw_p58, List.forall_mem_cons.mpr ⟨lw_p59, List.forall_mem_cons.mpr ⟨lw_p60, List.forall_mem_cons.mpr ⟨lw_p61, List.forall_mem_cons.mpr ⟨lw_p62, List.forall_mem_cons.mpr ⟨lw_p63, fun _ h => absurd h List.not_mem_nil⟩⟩⟩⟩⟩⟩⟩⟩⟩⟩⟩⟩⟩⟩⟩⟩
theorem lw_p64 : lw_okq (⟨"FountainShowModel", "isEntry", "(I)Z"⟩, 20) := ⟨⟨by decide +kernel, by decide +kernel⟩, List.mem_of_getElem? (i := 1540) (by decide +kernel), List.mem_of_getElem? (i := 1903) (by decide +kernel), List.mem_of_getElem? (i := 1904) (by decide +kernel)⟩
theorem lw_p65 : lw_okq (⟨"FountainShowModel", "drops", "(I)V"⟩, 20) := ⟨⟨by decide +kernel, by decide +kernel⟩, List.mem_of_getElem? (i := 1540) (by decide +kernel), List.mem_of_getElem? (i := 1907) (by decide +kernel), List.mem_of_getElem? (i := 1908) (by decide +kernel)⟩
theorem lw_p66 : lw_okq (⟨"FountainShowModel", "passes", "(I)I"⟩, 20) := ⟨⟨by decide +kernel, by decide +kernel⟩, List.mem_of_getElem? (i := 1540) (by decide +kernel), List.mem_of_getElem? (i := 1915) (by decide +kernel), List.mem_of_getElem? (i := 1916) (by decide +kernel)⟩
theorem lw_p67 : lw_okq (⟨"FountainShowModel", "oneBeat", "()I"⟩, 20) := ⟨⟨by decide +kernel, by decide +kernel⟩, List.mem_of_getElem? (i := 1540) (by decide +kernel), List.mem_of_getElem? (i := 1919) (by decide +kernel), List.mem_of_getElem? (i := 1920) (by decide +kernel)⟩
theorem lw_p68 : lw_okq (⟨"FountainShowModel", "due", "(I)I"⟩, 20) := ⟨⟨by decide +kernel, by decide +kernel⟩, List.mem_of_getElem? (i := 1540) (by decide +kernel), List.mem_of_getElem? (i := 1923) (by decide +kernel), List.mem_of_getElem? (i := 1924) (by decide +kernel)⟩
theorem lw_p69 : lw_okq (⟨"FountainShowModel", "askedEntry", "(II)I"⟩, 20) := ⟨⟨by decide +kernel, by decide +kernel⟩, List.mem_of_getElem? (i := 1540) (by decide +kernel), List.mem_of_getElem? (i := 1939) (by decide +kernel), List.mem_of_getElem? (i := 1940) (by decide +kernel)⟩
theorem lw_p70 : lw_okq (⟨"FountainShowModel", "thinks", "()V"⟩, 20) := ⟨⟨by decide +kernel, by decide +kernel⟩, List.mem_of_getElem? (i := 1540) (by decide +kernel), List.mem_of_getElem? (i := 1955) (by decide +kernel), List.mem_of_getElem? (i := 1956) (by decide +kernel)⟩
theorem lw_p71 : lw_okq (⟨"FountainShowModel", "forgets", "()V"⟩, 20) := ⟨⟨by decide +kernel, by decide +kernel⟩, List.mem_of_getElem? (i := 1540) (by decide +kernel), List.mem_of_getElem? (i := 1959) (by decide +kernel), List.mem_of_getElem? (i := 1960) (by decide +kernel)⟩
theorem lw_p72 : lw_okq (⟨"FountainShowModel", "writes", "(I)V"⟩, 20) := ⟨⟨by decide +kernel, by decide +kernel⟩, List.mem_of_getElem? (i := 1540) (by decide +kernel), List.mem_of_getElem? (i := 1984) (by decide +kernel), List.mem_of_getElem? (i := 1985) (by decide +kernel)⟩
theorem lw_p73 : lw_okq (⟨"FountainShowModel", "writesNumber", "(I)V"⟩, 20) := ⟨⟨by decide +kernel, by decide +kernel⟩, List.mem_of_getElem? (i := 1540) (by decide +kernel), List.mem_of_getElem? (i := 1988) (by decide +kernel), List.mem_of_getElem? (i := 1989) (by decide +kernel)⟩
theorem lw_p74 : lw_okq (⟨"FountainShowModel", "readsOne", "()V"⟩, 20) := ⟨⟨by decide +kernel, by decide +kernel⟩, List.mem_of_getElem? (i := 1540) (by decide +kernel), List.mem_of_getElem? (i := 2008) (by decide +kernel), List.mem_of_getElem? (i := 2009) (by decide +kernel)⟩
theorem lw_p75 : lw_okq (⟨"FountainShowModel", "here", "(I)I"⟩, 20) := ⟨⟨by decide +kernel, by decide +kernel⟩, List.mem_of_getElem? (i := 1540) (by decide +kernel), List.mem_of_getElem? (i := 2012) (by decide +kernel), List.mem_of_getElem? (i := 2013) (by decide +kernel)⟩
theorem lw_p76 : lw_okq (⟨"FountainShowModel", "one", "(ILjava/lang/String;I)V"⟩, 20) := ⟨⟨by decide +kernel, by decide +kernel⟩, List.mem_of_getElem? (i := 1540) (by decide +kernel), List.mem_of_getElem? (i := 2017) (by decide +kernel), List.mem_of_getElem? (i := 2018) (by decide +kernel)⟩
theorem lw_p77 : lw_okq (⟨"FountainShowModel", "says", "(Ljava/lang/String;)V"⟩, 20) := ⟨⟨by decide +kernel, by decide +kernel⟩, List.mem_of_getElem? (i := 1540) (by decide +kernel), List.mem_of_getElem? (i := 2021) (by decide +kernel), List.mem_of_getElem? (i := 2022) (by decide +kernel)⟩
theorem lw_p78 : lw_okq (⟨"FountainShowModel", "number", "(II)V"⟩, 20) := ⟨⟨by decide +kernel, by decide +kernel⟩, List.mem_of_getElem? (i := 1540) (by decide +kernel), List.mem_of_getElem? (i := 2027) (by decide +kernel), List.mem_of_getElem? (i := 2028) (by decide +kernel)⟩
theorem lw_p79 : lw_okq (⟨"FountainShowModel", "two", "(ILjava/lang/String;Ljava/lang/String;)V"⟩, 20) := ⟨⟨by decide +kernel, by decide +kernel⟩, List.mem_of_getElem? (i := 1540) (by decide +kernel), List.mem_of_getElem? (i := 2033) (by decide +kernel), List.mem_of_getElem? (i := 2034) (by decide +kernel)⟩
def lw_privs_5 : List (MethodName × Nat) := [(⟨"FountainShowModel", "isEntry", "(I)Z"⟩, 20), (⟨"FountainShowModel", "drops", "(I)V"⟩, 20), (⟨"FountainShowModel", "passes", "(I)I"⟩, 20), (⟨"FountainShowModel", "oneBeat", "()I"⟩, 20), (⟨"FountainShowModel", "due", "(I)I"⟩, 20), (⟨"FountainShowModel", "askedEntry", "(II)I"⟩, 20), (⟨"FountainShowModel", "thinks", "()V"⟩, 20), (⟨"FountainShowModel", "forgets", "()V"⟩, 20), (⟨"FountainShowModel", "writes", "(I)V"⟩, 20), (⟨"FountainShowModel", "writesNumber", "(I)V"⟩, 20), (⟨"FountainShowModel", "readsOne", "()V"⟩, 20), (⟨"FountainShowModel", "here", "(I)I"⟩, 20), (⟨"FountainShowModel", "one", "(ILjava/lang/String;I)V"⟩, 20), (⟨"FountainShowModel", "says", "(Ljava/lang/String;)V"⟩, 20), (⟨"FountainShowModel", "number", "(II)V"⟩, 20), (⟨"FountainShowModel", "two", "(ILjava/lang/String;Ljava/lang/String;)V"⟩, 20)]
theorem lw_r5 : ∀ q ∈ lw_privs_5, lw_okq q := List.forall_mem_cons.mpr ⟨lw_p64, List.forall_mem_cons.mpr ⟨lw_p65, List.forall_mem_cons.mpr ⟨lw_p66, List.forall_mem_cons.mpr ⟨lw_p67, List.forall_mem_cons.mpr ⟨lw_p68, List.forall_mem_cons.mpr ⟨lw_p69, List.forall_mem_cons.mpr ⟨lw_p70, List.forall_mem_cons.mpr ⟨lw_p71, List.forall_mem_cons.mpr ⟨lw_p72, List.forall_mem_cons.mpr ⟨lw_p73, List.forall_mem_cons.mpr ⟨lw_p74, List.forall_mem_cons.mpr ⟨lw_p75, List.forall_mem_cons.mpr ⟨lw_p76, List.forall_mem_cons.mpr ⟨lw_p77, List.forall_mem_cons.mpr ⟨lw_p78, List.forall_mem_cons.mpr ⟨lw_p79, fun _ h => absurd h List.not_mem_nil⟩⟩⟩⟩⟩⟩⟩⟩⟩⟩⟩⟩⟩⟩⟩⟩
theorem lw_p80 : lw_okq (⟨"FountainShowModel", "breeze", "()V"⟩, 20) := ⟨⟨by decide +kernel, by decide +kernel⟩, List.mem_of_getElem? (i := 1540) (by decide +kernel), List.mem_of_getElem? (i := 2041) (by decide +kernel), List.mem_of_getElem? (i := 2042) (by decide +kernel)⟩
theorem lw_p81 : lw_okq (⟨"FountainShowModel", "does", "(I)I"⟩, 20) := ⟨⟨by decide +kernel, by decide +kernel⟩, List.mem_of_getElem? (i := 1540) (by decide +kernel), List.mem_of_getElem? (i := 2050) (by decide +kernel), List.mem_of_getElem? (i := 2051) (by decide +kernel)⟩
def lw_privs_6 : List (MethodName × Nat) := [(⟨"FountainShowModel", "breeze", "()V"⟩, 20), (⟨"FountainShowModel", "does", "(I)I"⟩, 20)]
theorem lw_r6 : ∀ q ∈ lw_privs_6, lw_okq q := List.forall_mem_cons.mpr ⟨lw_p80, List.forall_mem_cons.mpr ⟨lw_p81, fun _ h => absurd h List.not_mem_nil⟩⟩
def lw_privs : List (MethodName × Nat) := lw_privs_1 ++ (lw_privs_2 ++ (lw_privs_3 ++ (lw_privs_4 ++ (lw_privs_5 ++ (lw_privs_6)))))
def lw_tbl : List Cond := k2_sels lw_privs ++ tables_1
theorem lw_privs_ok : ∀ q ∈ lw_privs, lw_okq q := by
  show ∀ q ∈ lw_privs_1 ++ (lw_privs_2 ++ (lw_privs_3 ++ (lw_privs_4 ++ (lw_privs_5 ++ (lw_privs_6))))), lw_okq q
  exact List.forall_mem_append.mpr ⟨lw_r1, List.forall_mem_append.mpr ⟨lw_r2, List.forall_mem_append.mpr ⟨lw_r3, List.forall_mem_append.mpr ⟨lw_r4, List.forall_mem_append.mpr ⟨lw_r5, lw_r6⟩⟩⟩⟩⟩
/-- the streams that the claim lets the run draw from -/
abbrev lw_cs : List Choice := [Jvm.Choice.named "NaN.bits"]
theorem lw_bits : nanBits ∈ lw_cs := by first | decide | exact List.mem_cons_self | simp [lw_cs, nanBits]
-- ===== end of PART A; then your names; then what follows =====
end
section
/-! ===== BEGIN words of one list among another's, by their places ===== -/
theorem goodIn_r {big : List Cond} (ws : List Cond) (ps : List Nat) (hp : ws = ps.filterMap (fun i => big[i]?)) (h : ws.all goodWord = true) : GoodIn big ws := by
  intro w hw
  have h1 := List.all_eq_true.mp h w hw
  rw [hp] at hw
  obtain ⟨i, -, hi⟩ := List.mem_filterMap.mp hw
  have hm : w ∈ big := by first | exact List.mem_of_getElem? hi | exact List.getElem?_mem hi
  exact ⟨hm, good_of_word h1⟩
theorem goodIn_app {big a b : List Cond} (ha : GoodIn big a) (hb : GoodIn big b) : GoodIn big (a ++ b) := fun w h => (List.mem_append.mp h).elim (ha w) (hb w)
theorem goodIn_ca {big a b : List Cond} {c : Cond} (ha : GoodIn big (c :: a)) (hb : GoodIn big b) : GoodIn big (c :: (a ++ b)) := fun w h => (List.mem_cons.mp h).elim (fun e => ha w (List.mem_cons.mpr (Or.inl e))) (fun h => (List.mem_append.mp h).elim (fun h => ha w (List.mem_cons.mpr (Or.inr h))) (hb w))
theorem goodIn_sub {big ws : List Cond} (hm : ∀ w ∈ ws, w ∈ big) (h : ws.all goodWord = true) : GoodIn big ws := fun w hw => ⟨hm w hw, good_of_word (List.all_eq_true.mp h w hw)⟩
/-! ===== END ===== -/

/-! ===== BEGIN exceptions that leave a method, and their catching by the caller (launches without stack traces) ===== -/
section VXA
/-! The laws vx_back, vx_callV, vx_callS, vx_callSW, vx_throw0, vx_throwS follow proofs of the library, with one case more: JvmDerived/Free/Laws.lean (Back.of_free), Shelf42/LK1.lean (callV, callS), Shelf/KitTraced.lean (throwNew0V, throwNewS). -/
/-- where a method has thrown q: the class by its name, the cell, what was written, the world -/
def vx_T (XC : String → State → State → Prop) (st : State) (q : Addr) (t : State) (mc ms : Nat) (free : Addr → Prop) : Prop :=
  ∃ (E : String) (ce : Cell) (L : List Loc), XC E st t ∧ t.heap[q]? = some ce ∧ ce.vm = .none ∧ st.vm.findClass E = some ce.cls ∧ st.WarmedH t.vm ∧ st.sameButNew ({ t with vm := st.vm } : State) L mc ms ∧ ∀ z ∈ L, free z.base
def vx_Q (Qc : Array Value → State → Outcome → State → Prop) (XC : String → State → State → Prop) (mc ms : Nat) (free : Addr → Prop) : Array Value → State → Outcome → State → Prop := fun a st o t =>
  (Qc a st o t ∧ ∃ L, FrameEnd st o t L mc ms ∧ ∀ q ∈ L, free q.base) ∨ ∃ q, o = .threw q ∧ vx_T XC st q t mc ms free
/-- a callee that returns or throws -/
def vx_Met (l : Launch) (y : MethodName) (ws : List Cond) (rm : Room) (Pc : Array Value → State → Prop) (Qc : Array Value → State → Outcome → State → Prop) (XC : String → State → State → Prop) (mc ms : Nat) (free : Addr → Prop) : Prop :=
  MetFree l y (headSpec ws rm) Pc (fun _ _ _ _ _ => True) (vx_Q Qc XC mc ms free)
def vx_Post (XC : String → State → State → Prop) (mc ms : Nat) (free : Addr → Prop) : Pt → Array Value → Addr → Pt → Prop := fun A a q B =>
  ∃ (g : JFrame) (mk : MethodId) (t : State) (L : List Loc) (E : String) (ce : Cell), B.U.heap = t.heap ∧ B.U.vm = t.vm ∧ XC E (A.U.calling g mk a) t ∧ t.heap[q]? = some ce ∧ ce.vm = .none ∧ A.U.vm.findClass E = some ce.cls ∧ B.locs = A.locs ++ L ∧ (∀ z ∈ L, free z.base) ∧ B.cells = A.cells + mc ∧ B.slots = A.slots + ms
def vx_Back (l : Launch) (R : Room) (p : Program) (e : Env) (below : List Frame) (s : State) (sargs : Array Value) (y : MethodName) (len W9 : Nat)
    (Pre : Pt → Array Value → Prop) (Post : Pt → Array Value → Option Value → Pt → Prop) (PostX : Pt → Array Value → Addr → Pt → Prop) : Prop :=
  ∀ (m : MethodId) (meth : Method) (c : Code) (A : Pt) (g : JFrame) (ig : Instr) (mk : MethodId) (a : Array Value),
    Stand p l e R s m sargs below meth c A.U A.locs A.cells A.slots → g.method = m → g.locals.size = c.maxLocals → decode c.code g.pc = .ok (ig, len) →
    2 * g.monitorRoom + (g.stack.map fun v => v.category).sum ≤ W9 → A.U.methodNamed? y = some mk → Pre A a →
    (∃ (v : Option Value) (B : Pt), Stand p l e R s m sargs below meth c B.U B.locs B.cells B.slots ∧ Post A a v B ∧
      Steps p.tables e below (doInvoke e (A.U.setTop g) [] mk a).1 (B.U.setTop { g with pc := g.pc + len, stack := v.toList ++ g.stack })) ∨
    (∃ (q : Addr) (B : Pt), Stand p l e R s m sargs below meth c B.U B.locs B.cells B.slots ∧ PostX A a q B ∧
      Steps p.tables e below (doInvoke e (A.U.setTop g) [] mk a).1 ((B.U.setTop g).pushFrame (.throwing q)))
section Payer
variable {l : Launch} {R : Room} {p : Program} {e : Env} {below : List Frame} {s : State} {sargs : Array Value} {y : MethodName} {len W9 : Nat}
theorem vx_back {ws : List Cond} {rm : Room} {Pc : Array Value → State → Prop} {Qc : Array Value → State → Outcome → State → Prop} {XC : String → State → State → Prop} {mc ms : Nat} {free : Addr → Prop} {bytes : ByteArray} {maxL : Nat} {ret : Option FieldType}
    (hM : vx_Met l y ws rm Pc Qc XC mc ms free) (hblind : FrameBlind Pc) (hrc : rm.cells = mc) (hrs : rm.slots = ms)
    (hframes : rm.frames + 1 ≤ R.frames) (hlocals : W9 + (maxL + 11) + rm.locals ≤ R.locals)
    (hws : ∀ w ∈ ws, ∀ a' U, s.WarmedH U.vm → w.before a' U = true) (hcode : Cond.code y bytes maxL ret ∈ ws) (hinit : ∀ a' U, s.WarmedH U.vm → (Cond.initialized y.cls).before a' U = true) :
    vx_Back l R p e below s sargs y len W9 (PreOf R mc ms Pc) (PostOf Qc mc ms free) (vx_Post XC mc ms free) := by
  intro m meth c A g ig mk a X hg hsize hdg hW hn hp
  have h1 : (headSpec ws rm).pre.before a A.U = true := atoms_intro fun w hw => hws w hw _ _ X.warmed
  have h2 : (Cond.code y bytes maxL ret).before a A.U = true := hws _ hcode _ _ X.warmed
  have h3 : (Cond.initialized y.cls).before a A.U = true := hinit _ _ X.warmed
  have h4 : A.cells + (headSpec ws rm).room.cells ≤ R.cells := by rw [show (headSpec ws rm).room.cells = mc from hrc]; exact hp.1
  have h5 : A.slots + (headSpec ws rm).room.slots ≤ R.slots := by rw [show (headSpec ws rm).room.slots = ms from hrs]; exact hp.2.1
  have hPc : Pc a (A.U.calling g mk a) := hblind _ _ _ _ hp.2.2
  obtain ⟨U, Ls, c0, s0⟩ := A
  dsimp only [Pt.U, Pt.locs, Pt.cells, Pt.slots] at h1 h2 h3 h4 h5 X hn hPc ⊢
  obtain ⟨methY, cY, hmY, hcY, -, hlY, -, -, -, -⟩ := Cond.code_spec hn h2
  obtain ⟨kY, hkY, -⟩ := className_of_methodNamed hn
  have hinitY : kY.init = .initialized := Cond.initialized_spec (findClass_of_methodNamed hn) hkY h3
  have h : At U g.method c below := by rw [hg]; exact X.here
  have hlocals9 : W9 + (maxL + 11) + (headSpec ws rm).room.locals ≤ R.locals := hlocals
  have happ : (headSpec ws rm).appliesLoose y e.platform (U.calling g mk a) = true :=
    Spec.appliesLoose_calling (g := g) h hdg hn hkY hinitY
      (X.room_calling (g := g) (R' := (headSpec ws rm).room) hsize hmY hcY hframes (by rw [hlY]; omega) h4 h5) h1
  obtain ⟨mid, hmid⟩ := h.above
  have hfr : (U.setTop g).frames = (.java g :: mid) ++ below := by rw [State.frames_setTop' g h.top, hmid]; rfl
  obtain ⟨o, s₂, hsteps, -, hend, hq⟩ := Steps.callFree hM p X.admits X.cas X.clock (acts := []) hfr happ hPc trivial
  have hq' : vx_Q Qc XC mc ms free a (U.calling g mk a) o s₂ := hq
  rw [State.frames_setTop' g h.top] at hend
  obtain ⟨g₀, hg0⟩ := Option.isSome_iff_exists.mp h.top
  obtain ⟨r, hr⟩ := State.topJava?_eq_some.mp hg0
  have hr' : (({ U with heap := s₂.heap, slotsUsed := s₂.slotsUsed } : State).setVm s₂.vm).frames = .java g₀ :: r := hr
  rcases hq' with ⟨hqc, L, hfe, hL⟩ | ⟨q, rfl, E, ce, L, hx, hce, hcv, hcl, hW₂, hsm, hL⟩
  · obtain ⟨⟨v, rfl⟩, hW₂, e2, q2, q3, q4, q5, q6⟩ := id hfe
    have e3 : s₂ = ({ (U.calling g mk a).setFrames s₂.frames with heap := s₂.heap, slotsUsed := s₂.slotsUsed } : State).setVm s₂.vm := by
      have : s₂ = ({ s₂ with vm := (U.calling g mk a).vm } : State).setVm s₂.vm := rfl
      rw [e2] at this
      exact this
    obtain ⟨c₂, i₂, len₂, hc₂, hd₂, hf₂⟩ := hend
    have hW' : U.WarmedH s₂.vm := hW₂
    have hcc : c₂ = c := by
      have h1 : s₂.code? g.method = U.code? g.method := by
        rw [State.code?_eq, State.code?_eq, hW'.alike.method?]
      exact Option.some.inj (hc₂.symm.trans (h1.trans h.code))
    subst hcc
    have hlen : len₂ = len := by rw [hdg] at hd₂; cases hd₂; rfl
    subst hlen
    have hs₂ : s₂ = (({ U with heap := s₂.heap, slotsUsed := s₂.slotsUsed } : State).setVm s₂.vm).setTop { g with pc := g.pc + len₂, stack := v.toList ++ g.stack } := by
      refine e3.trans ?_
      rw [hf₂, State.calling_eq h.top, State.setFrames_setFrames, State.setTop_of_frames _ hr', hr]
      rfl
    have hsame : U.sameButNew ({ U with heap := s₂.heap, slotsUsed := s₂.slotsUsed } : State) L mc ms := by
      refine ⟨?_, q2, q3, q4, q5, q6⟩
      obtain ⟨t, ht, -⟩ := State.frames_cons hr
      show ({ U with heap := s₂.heap, slotsUsed := s₂.slotsUsed } : State) = { U.setFrames U.frames with heap := s₂.heap, slotsUsed := s₂.slotsUsed }
      rw [State.setFrames_self ht]
    subst hg
    refine Or.inl ⟨v, ⟨(({ U with heap := s₂.heap, slotsUsed := s₂.slotsUsed } : State).setVm s₂.vm), Ls ++ L, c0 + mc, s0 + ms⟩,
      ⟨X.admits, X.cas, X.clock, X.frames, X.room, X.hears, X.method, X.code, (X.here.setHeapUsed s₂.heap s₂.slotsUsed).setVm hW'.alike, X.tail, State.WarmedH.trans X.warmed hW', X.limits, X.bytes, X.same.trans (hsame.setVm s.vm)⟩,
      ⟨g, mk, s₂, L, rfl, rfl, hqc, rfl, hL, rfl, rfl⟩, ?_⟩
    show Steps p.tables e below _ ((({ U with heap := s₂.heap, slotsUsed := s₂.slotsUsed } : State).setVm s₂.vm).setTop { g with pc := g.pc + len₂, stack := v.toList ++ g.stack })
    rw [← hs₂]
    exact hsteps
  · obtain ⟨e2, q2, q3, q4, q5, q6⟩ := id hsm
    have e3 : s₂ = ({ (U.calling g mk a).setFrames s₂.frames with heap := s₂.heap, slotsUsed := s₂.slotsUsed } : State).setVm s₂.vm := by
      have : s₂ = ({ s₂ with vm := (U.calling g mk a).vm } : State).setVm s₂.vm := rfl
      rw [e2] at this
      exact this
    have hf₂ : s₂.frames = .throwing q :: .java g :: U.frames.tail := hend
    have hW' : U.WarmedH s₂.vm := hW₂
    have hs₂ : s₂ = ((({ U with heap := s₂.heap, slotsUsed := s₂.slotsUsed } : State).setVm s₂.vm).setTop g).pushFrame (.throwing q) := by
      refine e3.trans ?_
      rw [hf₂, State.calling_eq h.top, State.setFrames_setFrames, State.pushFrame, State.frames_setTop _ hr', State.setTop_of_frames _ hr', State.setFrames_setFrames, hr]
      rfl
    have hsame : U.sameButNew ({ U with heap := s₂.heap, slotsUsed := s₂.slotsUsed } : State) L mc ms := by
      refine ⟨?_, q2, q3, q4, q5, q6⟩
      obtain ⟨t, ht, -⟩ := State.frames_cons hr
      show ({ U with heap := s₂.heap, slotsUsed := s₂.slotsUsed } : State) = { U.setFrames U.frames with heap := s₂.heap, slotsUsed := s₂.slotsUsed }
      rw [State.setFrames_self ht]
    subst hg
    refine Or.inr ⟨q, ⟨(({ U with heap := s₂.heap, slotsUsed := s₂.slotsUsed } : State).setVm s₂.vm), Ls ++ L, c0 + mc, s0 + ms⟩,
      ⟨X.admits, X.cas, X.clock, X.frames, X.room, X.hears, X.method, X.code, (X.here.setHeapUsed s₂.heap s₂.slotsUsed).setVm hW'.alike, X.tail, State.WarmedH.trans X.warmed hW', X.limits, X.bytes, X.same.trans (hsame.setVm s.vm)⟩,
      ⟨g, mk, s₂, L, E, ce, rfl, rfl, hx, hce, hcv, hcl, rfl, hL, rfl, rfl⟩, ?_⟩
    show Steps p.tables e below _ (((({ U with heap := s₂.heap, slotsUsed := s₂.slotsUsed } : State).setVm s₂.vm).setTop g).pushFrame (.throwing q))
    rw [← hs₂]
    exact hsteps
end Payer
section Calls
variable {p : Program} {l : Launch} {e : Env} {R : Room} {s : State} {m : MethodId} {args : Array Value} {below : List Frame} {meth : Method} {c : Code} {T : State} {locs : List Loc} {cells slots : Nat}
theorem vx_callV (X : Stand p l e R s m args below meth c T locs cells slots) (hexec : p.tables.exec = Jvm.exec) {own C : String} {index : Nat} {y : MethodName} {bytes : ByteArray} {maxL : Nat} {ret : Option FieldType}
    (hown : s.vm.findClass own = some m.cls) (hlink : (Cond.methodLink own index y).before args s = true) (hinst : (Cond.instanceMethod y).before args s = true) (hsel : (Cond.selects C y y).before args s = true)
    (hcode : (Cond.code y bytes maxL ret).before args s = true) (hy : y.cls ≠ "java/lang/invoke/MethodHandle" ∧ y.cls ≠ "java/lang/invoke/VarHandle")
    {W9 : Nat} {Pre : Pt → Array Value → Prop} {Post : Pt → Array Value → Option Value → Pt → Prop} {PostX : Pt → Array Value → Addr → Pt → Prop} (hK : vx_Back l R p e below s args y 3 W9 Pre Post PostX)
    {b : Addr} {cellB : Cell} (hcell : T.heap[b]? = some cellB) (hobj : cellB.vm.isStatics = false) (hcls : s.vm.findClass C = some cellB.cls)
    {g : JFrame} (hg : g.method = m) (hsize : g.locals.size = c.maxLocals) {argsL rest : List Value} (hlen : ∀ sig, parseMethodDescriptor y.desc = some sig → argsL.length = sig.parameters.length)
    (hstack : g.stack = argsL.reverse ++ .ref b :: rest) (hW : 2 * g.monitorRoom + (rest.map fun v => v.category).sum ≤ W9) (hdg : decode c.code g.pc = .ok (.invokevirtual index, 3))
    (hpre : ∀ vm₁, s.WarmedH vm₁ → Pre ⟨T.setVm vm₁, locs, cells, slots⟩ (Value.ref b :: argsL).toArray) :
    (∃ (v : Option Value) (vm₁ : Vm) (B : Pt), s.WarmedH vm₁ ∧ Stand p l e R s m args below meth c B.U B.locs B.cells B.slots ∧ Post ⟨T.setVm vm₁, locs, cells, slots⟩ (Value.ref b :: argsL).toArray v B ∧
      ∀ target, Steps p.tables e below (B.U.setTop { g with pc := g.pc + 3, stack := v.toList ++ rest }) target → Steps p.tables e below (T.setTop g) target) ∨
    (∃ (q : Addr) (vm₁ : Vm) (B : Pt), s.WarmedH vm₁ ∧ Stand p l e R s m args below meth c B.U B.locs B.cells B.slots ∧ PostX ⟨T.setVm vm₁, locs, cells, slots⟩ (Value.ref b :: argsL).toArray q B ∧
      Steps p.tables e below (T.setTop g) ((B.U.setTop { g with stack := rest }).pushFrame (.throwing q))) := by
  obtain ⟨mk, methM, hnamed, hmethM, hstM, habM⟩ := Cond.instanceMethod_spec hinst
  obtain ⟨methM', cM, hmethM', -, -, -, -, -, -, hsigM⟩ := Cond.code_spec hnamed hcode
  cases hmethM.symm.trans hmethM'
  obtain ⟨c2, r2, m2, q1, q2, q3, q4, kP, hkP, hkPi⟩ := Cond.selects_spec hsel
  cases hcls.symm.trans q1
  cases (State.methodFound?_of_named hnamed hy).symm.trans q2
  cases hnamed.symm.trans q3
  have hselP : selectMethod e.platform s.vm cellB.cls mk = .method mk := by rw [Launch.admits_selectMethod X.admits]; exact q4
  obtain ⟨vm₁, X₁, hstep₁⟩ := X.invokevirtual hexec hown hlink hnamed hmethM hstM hkP hkPi hy (a := b) (cell := cellB) hcell
    (fun z h => by rw [h] at hobj; cases hobj) hselP hmethM habM hkP hkPi (g := g) hg (argsL := argsL) (rest := rest) (hlen _ hsigM) hstack hdg
  rcases hK m meth c ⟨T.setVm vm₁, locs, cells, slots⟩ { g with stack := rest } (.invokevirtual index) mk (Value.ref b :: argsL).toArray X₁ hg hsize hdg hW (X₁.named hnamed) (hpre vm₁ X₁.warmed) with ⟨v, B, X', hpost, hsteps⟩ | ⟨q, B, X', hpost, hsteps⟩
  · exact Or.inl ⟨v, vm₁, B, X₁.warmed, X', hpost, fun target h => hstep₁ _ fun acts => by rw [doInvoke_state]; exact hsteps.trans h⟩
  · exact Or.inr ⟨q, vm₁, B, X₁.warmed, X', hpost, hstep₁ _ fun acts => by rw [doInvoke_state]; exact hsteps⟩
theorem vx_callS (X : Stand p l e R s m args below meth c T locs cells slots) (hexec : p.tables.exec = Jvm.exec) {own : String} {index : Nat} {y : MethodName} {bytes : ByteArray} {maxL : Nat} {ret : Option FieldType}
    (hown : s.vm.findClass own = some m.cls) (hlink : (Cond.methodLink own index y).before args s = true) (hstat : (Cond.static y).before args s = true) (hinit : (Cond.initialized y.cls).before args s = true)
    (hcode : (Cond.code y bytes maxL ret).before args s = true) (hy : y.cls ≠ "java/lang/invoke/MethodHandle" ∧ y.cls ≠ "java/lang/invoke/VarHandle")
    {W9 : Nat} {Pre : Pt → Array Value → Prop} {Post : Pt → Array Value → Option Value → Pt → Prop} {PostX : Pt → Array Value → Addr → Pt → Prop} (hK : vx_Back l R p e below s args y 3 W9 Pre Post PostX)
    {g : JFrame} (hg : g.method = m) (hsize : g.locals.size = c.maxLocals) {argsL rest : List Value} (hlen : ∀ sig, parseMethodDescriptor y.desc = some sig → argsL.length = sig.parameters.length)
    (hstack : g.stack = argsL.reverse ++ rest) (hW : 2 * g.monitorRoom + (rest.map fun v => v.category).sum ≤ W9) (hdg : decode c.code g.pc = .ok (.invokestatic index, 3))
    (hpre : ∀ vm₁, s.WarmedH vm₁ → Pre ⟨T.setVm vm₁, locs, cells, slots⟩ argsL.toArray) :
    (∃ (v : Option Value) (vm₁ : Vm) (B : Pt), s.WarmedH vm₁ ∧ Stand p l e R s m args below meth c B.U B.locs B.cells B.slots ∧ Post ⟨T.setVm vm₁, locs, cells, slots⟩ argsL.toArray v B ∧
      ∀ target, Steps p.tables e below (B.U.setTop { g with pc := g.pc + 3, stack := v.toList ++ rest }) target → Steps p.tables e below (T.setTop g) target) ∨
    (∃ (q : Addr) (vm₁ : Vm) (B : Pt), s.WarmedH vm₁ ∧ Stand p l e R s m args below meth c B.U B.locs B.cells B.slots ∧ PostX ⟨T.setVm vm₁, locs, cells, slots⟩ argsL.toArray q B ∧
      Steps p.tables e below (T.setTop g) ((B.U.setTop { g with stack := rest }).pushFrame (.throwing q))) := by
  obtain ⟨mk, hnamed⟩ := Cond.code_named hcode
  obtain ⟨methM, cM, hmethM, -, -, -, -, -, -, hsigM⟩ := Cond.code_spec hnamed hcode
  have hstatic : methM.isStatic = true := Cond.static_spec hnamed hmethM hstat
  obtain ⟨kP, hkP, -⟩ := className_of_methodNamed hnamed
  have hinitP : kP.init = .initialized := Cond.initialized_spec (findClass_of_methodNamed hnamed) hkP hinit
  obtain ⟨vm₁, X₁, hstep₁⟩ := X.invokestatic hexec hown hlink hnamed hmethM hstatic hkP hinitP hy (g := g) hg (argsL := argsL) (rest := rest) (hlen _ hsigM) hstack hdg
  rcases hK m meth c ⟨T.setVm vm₁, locs, cells, slots⟩ { g with stack := rest } (.invokestatic index) mk argsL.toArray X₁ hg hsize hdg hW (X₁.named hnamed) (hpre vm₁ X₁.warmed) with ⟨v, B, X', hpost, hsteps⟩ | ⟨q, B, X', hpost, hsteps⟩
  · exact Or.inl ⟨v, vm₁, B, X₁.warmed, X', hpost, fun target h => hstep₁ _ fun acts => by rw [doInvoke_state]; exact hsteps.trans h⟩
  · exact Or.inr ⟨q, vm₁, B, X₁.warmed, X', hpost, hstep₁ _ fun acts => by rw [doInvoke_state]; exact hsteps⟩
end Calls
theorem vx_cls {s : State} {T : State} {vm₁ : Vm} {E : String} {k : ClassId} (hW : s.WarmedH vm₁) (h : (T.setVm vm₁).vm.findClass E = some k) : s.vm.findClass E = some k := by
  have h1 : vm₁.findClass E = some k := h
  rw [hW.alike.findClass] at h1
  exact h1
/-- the method's frame g, with q thrown over it -/
def vx_W (p : Program) (l : Launch) (e : Env) (R : Room) (s : State) (m : MethodId) (args : Array Value) (below : List Frame) (meth : Method) (c : Code) (H : Heap) (locs : List Loc) (cells slots : Nat) (Q : State → Prop) (g : JFrame) (q : Addr) : Prop :=
  ∀ T : State, T.heap = H → Stand p l e R s m args below meth c T locs cells slots → ∃ t, Steps p.tables e below ((T.setTop g).pushFrame (.throwing q)) t ∧ Q t
def vx_Run (p : Program) (l : Launch) (e : Env) (R : Room) (s : State) (m : MethodId) (args : Array Value) (below : List Frame) (meth : Method) (c : Code) (H : Heap) (locs : List Loc) (cells slots mc ms : Nat) (g : JFrame) (rest : List Value) (Qa : State → Outcome → State → Prop) (XC : String → State → State → Prop) (free : Addr → Prop) : Prop :=
  ∀ T : State, T.heap = H → Stand p l e R s m args below meth c T locs cells slots →
    (∃ (v : Option Value) (st₀ t T' : State) (L : List Loc), st₀.heap = H ∧ Stand p l e R s m args below meth c T' (locs ++ L) (cells + mc) (slots + ms) ∧ (∀ q ∈ L, free q.base) ∧ T'.heap = t.heap ∧ T'.vm = t.vm ∧ Qa st₀ (.returned v) t ∧
      Goes p e below T g T' { g with pc := g.pc + 3, stack := v.toList ++ rest }) ∨
    (∃ (q : Addr) (st₀ t T' : State) (L : List Loc) (E : String) (ce : Cell), st₀.heap = H ∧ Stand p l e R s m args below meth c T' (locs ++ L) (cells + mc) (slots + ms) ∧ (∀ z ∈ L, free z.base) ∧ T'.heap = t.heap ∧ T'.vm = t.vm ∧ XC E st₀ t ∧ t.heap[q]? = some ce ∧ ce.vm = .none ∧ s.vm.findClass E = some ce.cls ∧
      Steps p.tables e below (T.setTop g) ((T'.setTop { g with stack := rest }).pushFrame (.throwing q)))
def vx_X {S : Type} (px : S → Prop) (B : String → S → State → Prop) (A : Nat → Prop) : String → State → State → Prop := fun E st t => ∃ u : S, px u ∧ B E u t ∧ va_F A st t
section Runs
variable {p : Program} {l : Launch} {e : Env} {R : Room} {s : State} {m : MethodId} {args : Array Value} {below : List Frame} {meth : Method} {c : Code} {H : Heap} {locs : List Loc} {cells slots : Nat}
variable {y : MethodName} {bytes cc : ByteArray} {maxL nL mc ms n index : Nat} {ret : Option FieldType} {ws : List Cond} {rm : Room} {Pc : Array Value → State → Prop} {Qc : Array Value → State → Outcome → State → Prop} {XC : String → State → State → Prop} {free : Addr → Prop} {Ts : List Cond} {own C : String} {b : Addr} {As rest : List Value} {g : JFrame}
theorem vx_callBack (cb : CallB R s args own index y bytes maxL ret ws rm mc ms n) (hM : vx_Met l y ws rm Pc Qc XC mc ms free) (hbl : FrameBlind Pc) : vx_Back l R p e below s args y 3 8 (PreOf R mc ms Pc) (PostOf Qc mc ms free) (vx_Post XC mc ms free) := by
  obtain ⟨hrc, hrs, hfr, hlo, hws, hcw, -, hini, -⟩ := cb
  exact vx_back (bytes := bytes) (maxL := maxL) (ret := ret) hM hbl hrc hrs hfr hlo hws hcw (fun a' U hW => word_at hW (Or.inl (by first | rfl | simp [Cond.onTables, Cond.keeps, Cond.steady])) hini)
theorem vx_runV (S : CallFix p m c cc nL s args Ts own) (hM : vx_Met l y ws rm Pc Qc XC mc ms free) (cw : CallW R s args own C index y bytes maxL ret ws rm mc ms n) (hp : PreV s H C b Pc As)
    (hg : g.method = m) (hn : As.length = n) (hsize : g.locals.size = nL) (hstack : g.stack = As.reverse ++ .ref b :: rest) (hW : 2 * g.monitorRoom + (rest.map fun v => v.category).sum ≤ 8) (hdg : decode cc g.pc = .ok (.invokevirtual index, 3)) (hf : cells + mc ≤ R.cells ∧ slots + ms ≤ R.slots) :
    vx_Run p l e R s m args below meth c H locs cells slots mc ms g rest (Qc (Value.ref b :: As).toArray) XC free := by
  have hK : vx_Back l R p e below s args y 3 8 (PreOf R mc ms Pc) (PostOf Qc mc ms free) (vx_Post XC mc ms free) := vx_callBack cw.1 hM hp.1
  obtain ⟨⟨-, -, -, -, -, -, hcode, -, hy, hlen, hl⟩, hin, hse⟩ := cw
  obtain ⟨hx, hb, hml, ho, -⟩ := S
  obtain ⟨-, ⟨cellB, hcB, hoB, hclB⟩, hPc⟩ := hp
  intro T hT X
  rcases vx_callV X hx (C := C) (bytes := bytes) (maxL := maxL) (ret := ret) ho hl hin hse hcode hy hK (by rw [hT]; exact hcB) hoB hclB hg (hsize.trans hml.symm) (argsL := As) (rest := rest) (fun sig h => hn.trans (hlen sig h)) hstack hW (by rw [hb]; exact hdg)
    (fun vm₁ hW₁ => ⟨hf.1, hf.2, hPc (T.setVm vm₁) hT hW₁⟩) with ⟨v, vm₁, ⟨U', l2, c2, s2⟩, hW₁, X', ⟨g', mk, t, L, e1, e2, hq, h1, hL, h2, h3⟩, st⟩ | ⟨q, vm₁, ⟨U', l2, c2, s2⟩, hW₁, X', ⟨g', mk, t, L, E, ce, e1, e2, hq, hce, hcv, hcl, h1, hL, h2, h3⟩, st⟩
  · dsimp only [Pt.U, Pt.locs, Pt.cells, Pt.slots] at X' e1 e2 h1 h2 h3 st
    subst h1; subst h2; subst h3
    exact Or.inl ⟨v, (T.setVm vm₁).calling g' mk (Value.ref b :: As).toArray, t, U', L, hT, X', hL, e1, e2, hq, st⟩
  · dsimp only [Pt.U, Pt.locs, Pt.cells, Pt.slots] at X' e1 e2 h1 h2 h3 st hcl
    subst h1; subst h2; subst h3
    exact Or.inr ⟨q, (T.setVm vm₁).calling g' mk (Value.ref b :: As).toArray, t, U', L, E, ce, hT, X', hL, e1, e2, hq, hce, hcv, vx_cls hW₁ hcl, st⟩
theorem vx_runS (S : CallFix p m c cc nL s args Ts own) (hM : vx_Met l y ws rm Pc Qc XC mc ms free) (cw : CallB R s args own index y bytes maxL ret ws rm mc ms n ∧ (Cond.static y).before args s = true) (hp : PreS s H Pc As)
    (hg : g.method = m) (hn : As.length = n) (hsize : g.locals.size = nL) (hstack : g.stack = As.reverse ++ rest) (hW : 2 * g.monitorRoom + (rest.map fun v => v.category).sum ≤ 8) (hdg : decode cc g.pc = .ok (.invokestatic index, 3)) (hf : cells + mc ≤ R.cells ∧ slots + ms ≤ R.slots) :
    vx_Run p l e R s m args below meth c H locs cells slots mc ms g rest (Qc As.toArray) XC free := by
  have hK : vx_Back l R p e below s args y 3 8 (PreOf R mc ms Pc) (PostOf Qc mc ms free) (vx_Post XC mc ms free) := vx_callBack cw.1 hM hp.1
  obtain ⟨⟨-, -, -, -, -, -, hcode, hini, hy, hlen, hl⟩, hstt⟩ := cw
  obtain ⟨hx, hb, hml, ho, -⟩ := S
  intro T hT X
  rcases vx_callS X hx (bytes := bytes) (maxL := maxL) (ret := ret) ho hl hstt hini hcode hy hK hg (hsize.trans hml.symm) (argsL := As) (rest := rest) (fun sig h => hn.trans (hlen sig h)) hstack hW (by rw [hb]; exact hdg)
    (fun vm₁ hW₁ => ⟨hf.1, hf.2, hp.2 (T.setVm vm₁) hT hW₁⟩) with ⟨v, vm₁, ⟨U', l2, c2, s2⟩, hW₁, X', ⟨g', mk, t, L, e1, e2, hq, h1, hL, h2, h3⟩, st⟩ | ⟨q, vm₁, ⟨U', l2, c2, s2⟩, hW₁, X', ⟨g', mk, t, L, E, ce, e1, e2, hq, hce, hcv, hcl, h1, hL, h2, h3⟩, st⟩
  · dsimp only [Pt.U, Pt.locs, Pt.cells, Pt.slots] at X' e1 e2 h1 h2 h3 st
    subst h1; subst h2; subst h3
    exact Or.inl ⟨v, (T.setVm vm₁).calling g' mk As.toArray, t, U', L, hT, X', hL, e1, e2, hq, st⟩
  · dsimp only [Pt.U, Pt.locs, Pt.cells, Pt.slots] at X' e1 e2 h1 h2 h3 st hcl
    subst h1; subst h2; subst h3
    exact Or.inr ⟨q, (T.setVm vm₁).calling g' mk As.toArray, t, U', L, E, ce, hT, X', hL, e1, e2, hq, hce, hcv, vx_cls hW₁ hcl, st⟩
end Runs
section Rows
variable {p : Program} {l : Launch} {e : Env} {R : Room} {s : State} {m : MethodId} {args : Array Value} {below : List Frame} {meth : Method} {c : Code} {H : Heap} {locs : List Loc} {cells slots : Nat} {Q : State → Prop}
variable {mc ms : Nat} {free : Addr → Prop} {A0 A1 : Nat → Prop} {H0 : Heap} {a : Array Value} {pc : Nat} {ls : Array Slot} {st0 rest : List Value}
theorem vx_keep {st₀ t T' : State} {L : List Loc} (h0 : st₀.heap = H) (e1 : T'.heap = t.heap) (hS : va_S A0 H0 H locs) (hA : ∀ q, q < H.size → A1 q → A0 q) (hf : ∀ q, free q → A0 q) (hL : ∀ q ∈ L, free q.base) (hF : va_F A1 st₀ t) :
    H.size ≤ T'.heap.size ∧ (∀ q : Nat, q < H.size → ¬ A1 q → T'.heap[q]? = H[q]?) ∧ va_S A0 H0 T'.heap (locs ++ L) := by
  obtain ⟨hz, hk⟩ := hF
  rw [h0] at hz hk
  exact ⟨by rw [e1]; exact hz, fun q h1 h2 => by rw [e1]; exact hk q h1 h2,
    ⟨Nat.le_trans hS.1 (by rw [e1]; exact hz), fun q h1 h2 => by rw [e1, hk q (Nat.lt_of_lt_of_le h1 hS.1) (fun z => h2 (hA q (Nat.lt_of_lt_of_le h1 hS.1) z))]; exact hS.2.1 q h1 h2, fun q hq => by
      rcases List.mem_append.mp hq with h | h
      · exact hS.2.2 q h
      · exact hf _ (hL q h)⟩⟩
theorem vx_calli {S SX : Type} {post : Int32 → S → Prop} {px : SX → Prop} {B : S → State → Prop} {BX : String → SX → State → Prop} {AX : Nat → Prop} (hr : vx_Run p l e R s m args below meth c H locs cells slots mc ms (F0 m pc ls st0) rest (va_Qi post B A1 a) (vx_X px BX AX) free) (hS : va_S A0 H0 H locs) (hA : ∀ q, q < H.size → A1 q → A0 q) (hf : ∀ q, free q → A0 q) (hAX : ∀ q, q < H.size → AX q → A0 q)
    (kx : ∀ (E : String) (ce : Cell) (q9 : Addr) (u : SX) (t : State) (H1 : Heap) (locs1 : List Loc), t.heap = H1 → s.vm.Alike t.vm → px u → BX E u t → H.size ≤ H1.size → (∀ q : Nat, q < H.size → ¬ AX q → H1[q]? = H[q]?) → va_S A0 H0 H1 locs1 → H1[q9]? = some ce → ce.vm = .none → s.vm.findClass E = some ce.cls → vx_W p l e R s m args below meth c H1 locs1 (cells + mc) (slots + ms) Q (F0 m pc ls rest) q9)
    (kk : ∀ (r : Int32) (u : S) (t : State) (H1 : Heap) (locs1 : List Loc), t.heap = H1 → s.vm.Alike t.vm → post r u → B u t → H.size ≤ H1.size → (∀ q : Nat, q < H.size → ¬ A1 q → H1[q]? = H[q]?) → va_S A0 H0 H1 locs1 → W p l e R s m args below meth c H1 locs1 (cells + mc) (slots + ms) Q (F0 m (pc + 3) ls (.int r :: rest))) : W p l e R s m args below meth c H locs cells slots Q (F0 m pc ls st0) := by
  intro T hT X
  rcases hr T hT X with ⟨v, st₀, t, T', L, h0, X', hL, e1, e2, ⟨⟨r, u, hv, hp, hb⟩, hF⟩, st⟩ | ⟨q, st₀, t, T', L, E, ce, h0, X', hL, e1, e2, ⟨u, hp, hb, hF⟩, hce, hcv, hcl, st⟩
  · cases hv
    obtain ⟨k1, k2, k3⟩ := vx_keep h0 e1 hS hA hf hL hF
    obtain ⟨t2, a1, b1⟩ := kk r u t T'.heap (locs ++ L) e1.symm (by rw [← e2]; exact X'.warmed.alike) hp hb k1 k2 k3 T' rfl X'
    exact ⟨t2, st t2 a1, b1⟩
  · obtain ⟨k1, k2, k3⟩ := vx_keep h0 e1 hS hAX hf hL hF
    obtain ⟨t2, a1, b1⟩ := kx E ce q u t T'.heap (locs ++ L) e1.symm (by rw [← e2]; exact X'.warmed.alike) hp hb k1 k2 k3 (by rw [e1]; exact hce) hcv hcl T' rfl X'
    exact ⟨t2, st.trans a1, b1⟩
theorem vx_calll {S SX : Type} {post : Int64 → S → Prop} {px : SX → Prop} {B : S → State → Prop} {BX : String → SX → State → Prop} {AX : Nat → Prop} (hr : vx_Run p l e R s m args below meth c H locs cells slots mc ms (F0 m pc ls st0) rest (va_Ql post B A1 a) (vx_X px BX AX) free) (hS : va_S A0 H0 H locs) (hA : ∀ q, q < H.size → A1 q → A0 q) (hf : ∀ q, free q → A0 q) (hAX : ∀ q, q < H.size → AX q → A0 q)
    (kx : ∀ (E : String) (ce : Cell) (q9 : Addr) (u : SX) (t : State) (H1 : Heap) (locs1 : List Loc), t.heap = H1 → s.vm.Alike t.vm → px u → BX E u t → H.size ≤ H1.size → (∀ q : Nat, q < H.size → ¬ AX q → H1[q]? = H[q]?) → va_S A0 H0 H1 locs1 → H1[q9]? = some ce → ce.vm = .none → s.vm.findClass E = some ce.cls → vx_W p l e R s m args below meth c H1 locs1 (cells + mc) (slots + ms) Q (F0 m pc ls rest) q9)
    (kk : ∀ (r : Int64) (u : S) (t : State) (H1 : Heap) (locs1 : List Loc), t.heap = H1 → s.vm.Alike t.vm → post r u → B u t → H.size ≤ H1.size → (∀ q : Nat, q < H.size → ¬ A1 q → H1[q]? = H[q]?) → va_S A0 H0 H1 locs1 → W p l e R s m args below meth c H1 locs1 (cells + mc) (slots + ms) Q (F0 m (pc + 3) ls (.long r :: rest))) : W p l e R s m args below meth c H locs cells slots Q (F0 m pc ls st0) := by
  intro T hT X
  rcases hr T hT X with ⟨v, st₀, t, T', L, h0, X', hL, e1, e2, ⟨⟨r, u, hv, hp, hb⟩, hF⟩, st⟩ | ⟨q, st₀, t, T', L, E, ce, h0, X', hL, e1, e2, ⟨u, hp, hb, hF⟩, hce, hcv, hcl, st⟩
  · cases hv
    obtain ⟨k1, k2, k3⟩ := vx_keep h0 e1 hS hA hf hL hF
    obtain ⟨t2, a1, b1⟩ := kk r u t T'.heap (locs ++ L) e1.symm (by rw [← e2]; exact X'.warmed.alike) hp hb k1 k2 k3 T' rfl X'
    exact ⟨t2, st t2 a1, b1⟩
  · obtain ⟨k1, k2, k3⟩ := vx_keep h0 e1 hS hAX hf hL hF
    obtain ⟨t2, a1, b1⟩ := kx E ce q u t T'.heap (locs ++ L) e1.symm (by rw [← e2]; exact X'.warmed.alike) hp hb k1 k2 k3 (by rw [e1]; exact hce) hcv hcl T' rfl X'
    exact ⟨t2, st.trans a1, b1⟩
theorem vx_callf {S SX : Type} {post : UInt32 → S → Prop} {px : SX → Prop} {B : S → State → Prop} {BX : String → SX → State → Prop} {AX : Nat → Prop} (hr : vx_Run p l e R s m args below meth c H locs cells slots mc ms (F0 m pc ls st0) rest (va_Qf post B A1 a) (vx_X px BX AX) free) (hS : va_S A0 H0 H locs) (hA : ∀ q, q < H.size → A1 q → A0 q) (hf : ∀ q, free q → A0 q) (hAX : ∀ q, q < H.size → AX q → A0 q)
    (kx : ∀ (E : String) (ce : Cell) (q9 : Addr) (u : SX) (t : State) (H1 : Heap) (locs1 : List Loc), t.heap = H1 → s.vm.Alike t.vm → px u → BX E u t → H.size ≤ H1.size → (∀ q : Nat, q < H.size → ¬ AX q → H1[q]? = H[q]?) → va_S A0 H0 H1 locs1 → H1[q9]? = some ce → ce.vm = .none → s.vm.findClass E = some ce.cls → vx_W p l e R s m args below meth c H1 locs1 (cells + mc) (slots + ms) Q (F0 m pc ls rest) q9)
    (kk : ∀ (r : UInt32) (u : S) (t : State) (H1 : Heap) (locs1 : List Loc), t.heap = H1 → s.vm.Alike t.vm → post r u → B u t → H.size ≤ H1.size → (∀ q : Nat, q < H.size → ¬ A1 q → H1[q]? = H[q]?) → va_S A0 H0 H1 locs1 → W p l e R s m args below meth c H1 locs1 (cells + mc) (slots + ms) Q (F0 m (pc + 3) ls (.float r :: rest))) : W p l e R s m args below meth c H locs cells slots Q (F0 m pc ls st0) := by
  intro T hT X
  rcases hr T hT X with ⟨v, st₀, t, T', L, h0, X', hL, e1, e2, ⟨⟨r, u, hv, hp, hb⟩, hF⟩, st⟩ | ⟨q, st₀, t, T', L, E, ce, h0, X', hL, e1, e2, ⟨u, hp, hb, hF⟩, hce, hcv, hcl, st⟩
  · cases hv
    obtain ⟨k1, k2, k3⟩ := vx_keep h0 e1 hS hA hf hL hF
    obtain ⟨t2, a1, b1⟩ := kk r u t T'.heap (locs ++ L) e1.symm (by rw [← e2]; exact X'.warmed.alike) hp hb k1 k2 k3 T' rfl X'
    exact ⟨t2, st t2 a1, b1⟩
  · obtain ⟨k1, k2, k3⟩ := vx_keep h0 e1 hS hAX hf hL hF
    obtain ⟨t2, a1, b1⟩ := kx E ce q u t T'.heap (locs ++ L) e1.symm (by rw [← e2]; exact X'.warmed.alike) hp hb k1 k2 k3 (by rw [e1]; exact hce) hcv hcl T' rfl X'
    exact ⟨t2, st.trans a1, b1⟩
theorem vx_calld {S SX : Type} {post : UInt64 → S → Prop} {px : SX → Prop} {B : S → State → Prop} {BX : String → SX → State → Prop} {AX : Nat → Prop} (hr : vx_Run p l e R s m args below meth c H locs cells slots mc ms (F0 m pc ls st0) rest (va_Qd post B A1 a) (vx_X px BX AX) free) (hS : va_S A0 H0 H locs) (hA : ∀ q, q < H.size → A1 q → A0 q) (hf : ∀ q, free q → A0 q) (hAX : ∀ q, q < H.size → AX q → A0 q)
    (kx : ∀ (E : String) (ce : Cell) (q9 : Addr) (u : SX) (t : State) (H1 : Heap) (locs1 : List Loc), t.heap = H1 → s.vm.Alike t.vm → px u → BX E u t → H.size ≤ H1.size → (∀ q : Nat, q < H.size → ¬ AX q → H1[q]? = H[q]?) → va_S A0 H0 H1 locs1 → H1[q9]? = some ce → ce.vm = .none → s.vm.findClass E = some ce.cls → vx_W p l e R s m args below meth c H1 locs1 (cells + mc) (slots + ms) Q (F0 m pc ls rest) q9)
    (kk : ∀ (r : UInt64) (u : S) (t : State) (H1 : Heap) (locs1 : List Loc), t.heap = H1 → s.vm.Alike t.vm → post r u → B u t → H.size ≤ H1.size → (∀ q : Nat, q < H.size → ¬ A1 q → H1[q]? = H[q]?) → va_S A0 H0 H1 locs1 → W p l e R s m args below meth c H1 locs1 (cells + mc) (slots + ms) Q (F0 m (pc + 3) ls (.double r :: rest))) : W p l e R s m args below meth c H locs cells slots Q (F0 m pc ls st0) := by
  intro T hT X
  rcases hr T hT X with ⟨v, st₀, t, T', L, h0, X', hL, e1, e2, ⟨⟨r, u, hv, hp, hb⟩, hF⟩, st⟩ | ⟨q, st₀, t, T', L, E, ce, h0, X', hL, e1, e2, ⟨u, hp, hb, hF⟩, hce, hcv, hcl, st⟩
  · cases hv
    obtain ⟨k1, k2, k3⟩ := vx_keep h0 e1 hS hA hf hL hF
    obtain ⟨t2, a1, b1⟩ := kk r u t T'.heap (locs ++ L) e1.symm (by rw [← e2]; exact X'.warmed.alike) hp hb k1 k2 k3 T' rfl X'
    exact ⟨t2, st t2 a1, b1⟩
  · obtain ⟨k1, k2, k3⟩ := vx_keep h0 e1 hS hAX hf hL hF
    obtain ⟨t2, a1, b1⟩ := kx E ce q u t T'.heap (locs ++ L) e1.symm (by rw [← e2]; exact X'.warmed.alike) hp hb k1 k2 k3 (by rw [e1]; exact hce) hcv hcl T' rfl X'
    exact ⟨t2, st.trans a1, b1⟩
theorem vx_callv {S SX : Type} {post : S → Prop} {px : SX → Prop} {B : S → State → Prop} {BX : String → SX → State → Prop} {AX : Nat → Prop} (hr : vx_Run p l e R s m args below meth c H locs cells slots mc ms (F0 m pc ls st0) rest (va_Qv post B A1 a) (vx_X px BX AX) free) (hS : va_S A0 H0 H locs) (hA : ∀ q, q < H.size → A1 q → A0 q) (hf : ∀ q, free q → A0 q) (hAX : ∀ q, q < H.size → AX q → A0 q)
    (kx : ∀ (E : String) (ce : Cell) (q9 : Addr) (u : SX) (t : State) (H1 : Heap) (locs1 : List Loc), t.heap = H1 → s.vm.Alike t.vm → px u → BX E u t → H.size ≤ H1.size → (∀ q : Nat, q < H.size → ¬ AX q → H1[q]? = H[q]?) → va_S A0 H0 H1 locs1 → H1[q9]? = some ce → ce.vm = .none → s.vm.findClass E = some ce.cls → vx_W p l e R s m args below meth c H1 locs1 (cells + mc) (slots + ms) Q (F0 m pc ls rest) q9)
    (kk : ∀ (u : S) (t : State) (H1 : Heap) (locs1 : List Loc), t.heap = H1 → s.vm.Alike t.vm → post u → B u t → H.size ≤ H1.size → (∀ q : Nat, q < H.size → ¬ A1 q → H1[q]? = H[q]?) → va_S A0 H0 H1 locs1 → W p l e R s m args below meth c H1 locs1 (cells + mc) (slots + ms) Q (F0 m (pc + 3) ls (rest))) : W p l e R s m args below meth c H locs cells slots Q (F0 m pc ls st0) := by
  intro T hT X
  rcases hr T hT X with ⟨v, st₀, t, T', L, h0, X', hL, e1, e2, ⟨⟨u, hv, hp, hb⟩, hF⟩, st⟩ | ⟨q, st₀, t, T', L, E, ce, h0, X', hL, e1, e2, ⟨u, hp, hb, hF⟩, hce, hcv, hcl, st⟩
  · cases hv
    obtain ⟨k1, k2, k3⟩ := vx_keep h0 e1 hS hA hf hL hF
    obtain ⟨t2, a1, b1⟩ := kk u t T'.heap (locs ++ L) e1.symm (by rw [← e2]; exact X'.warmed.alike) hp hb k1 k2 k3 T' rfl X'
    exact ⟨t2, st t2 a1, b1⟩
  · obtain ⟨k1, k2, k3⟩ := vx_keep h0 e1 hS hAX hf hL hF
    obtain ⟨t2, a1, b1⟩ := kx E ce q u t T'.heap (locs ++ L) e1.symm (by rw [← e2]; exact X'.warmed.alike) hp hb k1 k2 k3 (by rw [e1]; exact hce) hcv hcl T' rfl X'
    exact ⟨t2, st.trans a1, b1⟩
/-- caught by the row x of this method's table; the rows ahead don't take it -/
theorem vx_catch {own name : String} {E : String} {ce : Cell} {q : Addr} (hown : s.vm.findClass own = some m.cls) (pre : List ExceptionTableEntry) (x : ExceptionTableEntry) (suf : List ExceptionTableEntry) (hsplit : c.exceptionTable.toList = pre ++ x :: suf)
    (hpass : ∀ z ∈ pre, covers z pc = false ∨ (z.catchType ≠ 0 ∧ ∃ nm : String, (Cond.classLink own z.catchType nm).before args s = true ∧ va_Nc E nm s)) (hx : covers x pc = true) (h0 : x.catchType ≠ 0)
    (hlink : (Cond.classLink own x.catchType name).before args s = true) (hcast : (Cond.castable E name).before args s = true) (hcell : H[q]? = some ce) (hv : ce.vm = .none) (hcl : s.vm.findClass E = some ce.cls)
    (kk : W p l e R s m args below meth c H locs cells slots Q (F0 m x.handlerPc ls [.ref q])) : vx_W p l e R s m args below meth c H locs cells slots Q (F0 m pc ls rest) q := by
  intro T hT X
  have hpl : e.platform.magicAccessors = ({} : Platform).magicAccessors := by rw [X.admits.platform]
  obtain ⟨c3, c4, hc3, hc4, hasg⟩ := Cond.castable_spec hcast
  cases Option.some.inj (hc3.symm.trans hcl)
  obtain ⟨c5, hc5, hcl5⟩ := Cond.classLink_spec hown hlink e.platform hpl
  cases Option.some.inj (hc4.symm.trans hc5)
  obtain ⟨vm', X', st⟩ := X.thenCaughtThrough q (g := F0 m pc ls rest) rfl (Steps.refl _) (by rw [hT]; exact hcell) (by rw [hv]; rfl) (by obtain ⟨k9, h9, -⟩ := Vm.findClass_spec hcl; exact ⟨k9, h9⟩) pre x suf hsplit
    (fun z hz => by
      rcases hpass z hz with h | ⟨hz0, nm, hl1, hn1⟩
      · exact Or.inl h
      · obtain ⟨c6, hc6, hcl6⟩ := Cond.classLink_spec hown hl1 e.platform hpl
        obtain ⟨a8, b8, h1, h2, h3⟩ := hn1
        cases Option.some.inj (h1.symm.trans hcl)
        cases Option.some.inj (h2.symm.trans hc6)
        exact Or.inr ⟨hz0, _, hcl6, h3⟩) hx (Or.inr ⟨h0, c4, hcl5, hasg⟩)
  obtain ⟨t, a1, b1⟩ := kk (T.setVm vm') hT X'
  exact ⟨t, st.trans a1, b1⟩
end Rows
section Ends
variable {p : Program} {l : Launch} {e : Env} {R : Room} {s : State} {m : MethodId} {args : Array Value} {below : List Frame} {meth : Method} {c : Code} {H : Heap} {locs : List Loc} {cells slots : Nat} {Q : State → Prop}
variable {mc ms : Nat} {free : Addr → Prop} {A0 A1 : Nat → Prop} {H0 : Heap} {a : Array Value} {ls : Array Slot} {st0 rest : List Value}
variable {Qc : Array Value → State → Outcome → State → Prop} {XC : String → State → State → Prop}
/-- what a body that may throw owes at its end -/
def vx_MQ (below : List Frame) (Qc : Array Value → State → Outcome → State → Prop) (XC : String → State → State → Prop) (a : Array Value) (s : State) (mc ms : Nat) (free : Addr → Prop) : State → Prop := fun t =>
  ∃ o, t.status = .running ∧ Ended t below o ∧ vx_Q Qc XC mc ms free a s o t
theorem vx_ret {g : JFrame} {mc ms : Nat} (k : W p l e R s m args below meth c H locs cells slots (MQ below Qc args s mc ms free) g) : W p l e R s m args below meth c H locs cells slots (vx_MQ below Qc XC args s mc ms free) g := by
  intro T hT X
  obtain ⟨t, a1, o, b1, b2, b3, b4⟩ := k T hT X
  exact ⟨t, a1, o, b1, b2, Or.inl ⟨b3, b4⟩⟩
/-- not caught here: it goes on to the caller -/
theorem vx_widen {g : JFrame} {q : Addr} {k n : Nat} (h1 : cells ≤ k) (h2 : slots ≤ n) (kk : vx_W p l e R s m args below meth c H locs k n Q g q) : vx_W p l e R s m args below meth c H locs cells slots Q g q := fun T hT X => kk T hT (stand_widen X h1 h2)
theorem vx_out {pc : Nat} {E : String} {ce : Cell} {q : Addr} {mc ms : Nat} (hout : ∀ x ∈ c.exceptionTable.toList, covers x pc = false) (hlocks : meth.locks = false) (hcell : H[q]? = some ce) (hv : ce.vm = .none) (hcl : s.vm.findClass E = some ce.cls)
    (hx : ∀ t : State, t.heap = H → s.vm.Alike t.vm → XC E s t) (hf : ∀ z ∈ locs, free z.base) (hc : cells ≤ mc) (hs : slots ≤ ms) :
    vx_W p l e R s m args below meth c H locs cells slots (vx_MQ below Qc XC args s mc ms free) (F0 m pc ls rest) q := by
  intro T hT X
  obtain ⟨st1, hrun, hend, hW, hsm⟩ := X.leaveThrown q (g := F0 m pc ls rest) rfl rfl rfl hout hlocks
  have hcell9 : (T.setFrames (.throwing q :: below)).heap[q]? = some ce := by
    show T.heap[q]? = some ce
    rw [hT]; exact hcell
  exact ⟨_, st1, .threw q, hrun, hend, Or.inr ⟨q, rfl, E, ce, locs, hx _ hT hW.alike, hcell9, hv, hcl, hW, hsm.mono hc hs, hf⟩⟩
theorem vx_frame {U : State} {k n : Nat} (h : s.sameButNew ({ U with vm := s.vm } : State) locs k n) : s.heap.size ≤ U.heap.size ∧ ∀ q : Nat, q < s.heap.size → (∀ z ∈ locs, z.base ≠ q) → U.heap[q]? = s.heap[q]? := by
  obtain ⟨-, h2, -, -, -, h6⟩ := h
  refine ⟨h2, fun q hq hz => ?_⟩
  obtain ⟨c9, e1, e2, e3, e4⟩ := h6 q _ (Array.getElem?_eq_getElem hq)
  have hs : c9.slots = (s.heap[q]).slots := Array.ext_getElem? fun i => e4 i fun hm => hz _ hm rfl
  have h9 : c9 = s.heap[q] := by
    rw [hs] at e2
    exact e2
  have e5 : U.heap[q]? = some c9 := e1
  rw [e5, h9, Array.getElem?_eq_getElem hq]
/-- the words of a throw but the four that speak of the heap -/
def vx_no (w : Cond) : Bool := decide (w ≠ .isRef (.static Bundle.tN "UNASSIGNED_STACK" Bundle.steD)) && decide (w ≠ .isRef (.static Bundle.tN "SUPPRESSED_SENTINEL" Bundle.listD)) && decide (w ≠ .laysStatic Bundle.tN "UNASSIGNED_STACK" Bundle.steD) && decide (w ≠ .laysStatic Bundle.tN "SUPPRESSED_SENTINEL" Bundle.listD)
def vx_at0 (own : String) (ic : Nat) (X : String) (names : List String) : List Cond := (Bundle.ownAtoms0 own ic X names).filter vx_no
def vx_atS (own : String) (ic : Nat) (X : String) (names : List String) : List Cond := (Bundle.ownAtoms own ic X names).filter vx_no
/-- a word that the tables alone decide, or a good one -/
def vx_ot (w : Cond) : Bool := w.onTables || goodWord w
theorem vx_ot_at {args a' : Array Value} {s U : State} {w : Cond} (hW : s.WarmedH U.vm) (hvm : s.vm = U.vm) (hg : vx_ot w = true) (h : w.before args s = true) : w.before a' U = true := by
  simp only [vx_ot, Bool.or_eq_true] at hg
  rcases hg with hg | hg
  · exact va_tabs hg hvm h
  · exact word_at hW (good_of_word hg) h
/-- a list's words: the good ones out of the method's own list, the others by premises of their own -/
theorem vx_hat {args : Array Value} {s : State} {L B : List Cond} (h1 : ∀ w ∈ L.filter goodWord, w.before args s = true) (h2 : ∀ w ∈ L.filter (fun w => !goodWord w), w ∈ B) (h3 : ∀ w ∈ B, w.before args s = true) : ∀ w ∈ L, w.before args s = true := by
  intro w hw
  by_cases g : goodWord w = true
  · exact h1 w (List.mem_filter.mpr ⟨hw, g⟩)
  · refine h3 w (h2 w (List.mem_filter.mpr ⟨hw, ?_⟩))
    show (!goodWord w) = true
    cases hgw : goodWord w
    · rfl
    · exact absurd hgw g
theorem vx_c {args : Array Value} {s : State} {w : Cond} {B : List Cond} (h : w.before args s = true) (t : ∀ w ∈ B, w.before args s = true) : ∀ w' ∈ w :: B, w'.before args s = true := fun w' h' => (List.mem_cons.mp h').elim (fun e => by rw [e]; exact h) (t w')
theorem vx_n {args : Array Value} {s : State} : ∀ w ∈ ([] : List Cond), w.before args s = true := fun _ h => nomatch h
theorem vx_own {args : Array Value} {s : State} {L : List Cond} (h1 : ∀ w ∈ L.filter vx_no, w.before args s = true)
    (hU : (Cond.isRef (.static Bundle.tN "UNASSIGNED_STACK" Bundle.steD)).before args s = true) (hN : (Cond.isRef (.static Bundle.tN "SUPPRESSED_SENTINEL" Bundle.listD)).before args s = true)
    (lU : (Cond.laysStatic Bundle.tN "UNASSIGNED_STACK" Bundle.steD).before args s = true) (lN : (Cond.laysStatic Bundle.tN "SUPPRESSED_SENTINEL" Bundle.listD).before args s = true) : ∀ w ∈ L, w.before args s = true := by
  intro w hw
  by_cases e1 : w = .isRef (.static Bundle.tN "UNASSIGNED_STACK" Bundle.steD)
  · rw [e1]; exact hU
  · by_cases e2 : w = .isRef (.static Bundle.tN "SUPPRESSED_SENTINEL" Bundle.listD)
    · rw [e2]; exact hN
    · by_cases e3 : w = .laysStatic Bundle.tN "UNASSIGNED_STACK" Bundle.steD
      · rw [e3]; exact lU
      · by_cases e4 : w = .laysStatic Bundle.tN "SUPPRESSED_SENTINEL" Bundle.listD
        · rw [e4]; exact lN
        · exact h1 w (List.mem_filter.mpr ⟨hw, by unfold vx_no; rw [decide_eq_true e1, decide_eq_true e2, decide_eq_true e3, decide_eq_true e4]; rfl⟩)
/-- where a static field lies, its class's statics cell in H -/
def vx_L (C n d : String) (A : Nat → Prop) (U : State) (H : Heap) : Prop := ∃ (c : ClassId) (k : Class) (i : Nat) (f : Field) (a : Nat) (cell : Cell), U.vm.findClass C = some c ∧ U.fieldFound? C n d = some (c, k, i, f) ∧ f.isStatic = true ∧ k.statics = some a ∧ H[a]? = some cell ∧ cell.vm.isStatics = true ∧ cell.cls = c ∧ f.slot < cell.slots.size ∧ k.staticTypes[f.slot]? = some f.type ∧ ¬ A a
theorem vx_L.moved {C n d : String} {A : Nat → Prop} {u U : State} {H : Heap} (hvm : u.vm.Alike U.vm) (h : vx_L C n d A u H) : vx_L C n d A U H := by
  obtain ⟨c, k, i, f, a, cell, h1, h2, h3, h4, h5, h6, h7, h8, h9, h10⟩ := h
  obtain ⟨k', hi', he⟩ := State.fieldFound?_setVm hvm h2
  exact ⟨c, k', i, f, a, cell, by rw [hvm.findClass]; exact h1, hi', h3, by rw [he]; exact h4, h5, h6, h7, h8, by rw [he]; exact h9, h10⟩
theorem vx_L.kept {C n d : String} {A : Nat → Prop} {U : State} {H H1 : Heap} (h : vx_L C n d A U H) (hq : ∀ a : Nat, a < H.size → ¬ A a → H1[a]? = H[a]?) : vx_L C n d A U H1 := by
  obtain ⟨c, k, i, f, a, cell, h1, h2, h3, h4, h5, h6, h7, h8, h9, h10⟩ := h
  exact ⟨c, k, i, f, a, cell, h1, h2, h3, h4, by rw [hq a (Array.getElem?_eq_some_iff.mp h5).1 h10]; exact h5, h6, h7, h8, h9, h10⟩
theorem vx_L.narrow {C n d : String} {A B : Nat → Prop} {U : State} {H : Heap} (h : vx_L C n d A U H) (hAB : ∀ q, B q → A q) : vx_L C n d B U H := by
  obtain ⟨c, k, i, f, a, cell, h1, h2, h3, h4, h5, h6, h7, h8, h9, h10⟩ := h
  exact ⟨c, k, i, f, a, cell, h1, h2, h3, h4, h5, h6, h7, h8, h9, fun z => h10 (hAB _ z)⟩
theorem vx_L.word {C n d : String} {A : Nat → Prop} {s : State} {args : Array Value} (h : vx_L C n d A s s.heap) : (Cond.laysStatic C n d).before args s = true := by
  obtain ⟨c, k, i, f, a, cell, h1, h2, h3, h4, h5, h6, h7, h8, h9, -⟩ := h
  show (Cond.laysStatic C n d).holds args s none s [] = true
  exact Cond.laysStatic_of h1 h2 h3 h4 h5 h6 h7 h8 h9
/-- .. and what it holds: null or some reference -/
def vx_Zq (C n d : String) (A : Nat → Prop) (U : State) (H : Heap) : Prop := va_Zq C n d A U H ∧ vx_L C n d A U H
theorem vx_Zq.moved {C n d : String} {A : Nat → Prop} {u U : State} {H : Heap} (hvm : u.vm.Alike U.vm) (h : vx_Zq C n d A u H) : vx_Zq C n d A U H := ⟨va_Zq.moved hvm h.1, vx_L.moved hvm h.2⟩
theorem vx_Zq.kept {C n d : String} {A : Nat → Prop} {U : State} {H H1 : Heap} (h : vx_Zq C n d A U H) (hq : ∀ a : Nat, a < H.size → ¬ A a → H1[a]? = H[a]?) : vx_Zq C n d A U H1 := ⟨va_Zq.kept h.1 hq, vx_L.kept h.2 hq⟩
theorem vx_Zq.narrow {C n d : String} {A B : Nat → Prop} {U : State} {H : Heap} (h : vx_Zq C n d A U H) (hAB : ∀ q, B q → A q) : vx_Zq C n d B U H := ⟨va_Zq.narrow h.1 hAB, vx_L.narrow h.2 hAB⟩
theorem vx_Zqof {args : Array Value} {s : State} {C n d : String} {A : Nat → Prop} (hl : (Cond.laysStatic C n d).before args s = true) (hini : (Cond.initialized C).before args s = true) (h : (Cond.isRef (.static C n d)).before args s = true) (hA : ∀ a : Nat, a < s.heap.size → ¬ A a) : vx_Zq C n d A s s.heap := by
  refine ⟨va_Zqof hl hini h hA, ?_⟩
  obtain ⟨c, k, i, f, a, cell, h1, h2, h3, h4, h5, h6, h7, h8, h9⟩ := Cond.laysStatic_spec hl
  exact ⟨c, k, i, f, a, cell, h1, h2, h3, h4, h5, h6, h7, h8, h9, hA a (Array.getElem?_eq_some_iff.mp h5).1⟩
theorem vx_isRef {C n d : String} {v : Value} {A : Nat → Prop} {s : State} {args : Array Value} (h : va_Z C n d v A s s.heap) (hv : v.isRef = true) : (Cond.isRef (.static C n d)).before args s = true := by
  obtain ⟨cf, kf, fi, f, a, cell, h1, h2, h3, h4, h5, h6, h7, -⟩ := h
  have he : (Term.static C n d).eval args s none [] s = some v := by
    simp [Term.eval, State.fieldNamed?, h1, h2, h4, h5, h6, h7]
  simp only [Cond.before, Cond.holds, Cond.value, he]
  cases v <;> simp_all [Value.isRef]
theorem vx_isRefq {C n d : String} {A : Nat → Prop} {s : State} {args : Array Value} (h : va_Zq C n d A s s.heap) : (Cond.isRef (.static C n d)).before args s = true := by
  rcases h with h | ⟨t, h⟩
  · exact vx_isRef h rfl
  · exact vx_isRef h rfl
/-- the same frame, seen from here: as if the method were called anew in this heap -/
theorem vx_rebase {T : State} (X : Stand p l e R s m args below meth c T locs cells slots) {R' : Room} (hf : R'.frames ≤ R.frames) (hl : R'.locals ≤ R.locals) (hc : cells + R'.cells ≤ R.cells) (hs : slots + R'.slots ≤ R.slots) :
    Stand p l e R' ((T.setVm s.vm).setFrames (.invoking m args :: below)) m args below meth c T [] 0 0 := by
  have htop : (T.setVm s.vm).topJava?.isSome := X.here.top
  have hF : ((T.setVm s.vm).setFrames (.invoking m args :: below)).frames = .invoking m args :: below := State.frames_setFrames _ (State.cur_lt_of_top htop)
  obtain ⟨g₀, hg0⟩ := Option.isSome_iff_exists.mp htop
  obtain ⟨r, hr⟩ := State.topJava?_eq_some.mp hg0
  have hl9 : e.platform.stackLimits (T.setVm s.vm).me = e.platform.stackLimits s.me := X.limits
  have hb9 : (T.setVm s.vm).me.stackBytes = s.me.stackBytes := X.bytes
  refine ⟨X.admits, X.cas, X.clock, hF, ?_, X.hears, X.method, X.code, X.here, X.tail, X.warmed, ?_, ?_, ?_⟩
  · have h := X.room
    have hU : ((T.setVm s.vm).setFrames (.invoking m args :: below)).localsInUse = s.localsInUse := by
      rw [State.localsInUse_invoking hF (meth := meth) (c := c) X.method X.code, State.localsInUse_invoking X.frames X.method X.code]
    simp only [State.hasRoom, Bool.and_eq_true, decide_eq_true_eq] at h ⊢
    obtain ⟨⟨⟨⟨h1, h2, h3, h4, h5, h6⟩, h7⟩, h8⟩, h9⟩ := h
    rw [X.frames, List.length_cons] at h2 h3
    have q1 := X.heapSize
    have q2 := X.used
    simp only [hF, hU, List.length_cons, State.stackLimits_setFrames, State.stackBytes_setFrames, hl9, hb9]
    refine ⟨⟨⟨⟨by omega, by omega, by omega, by omega, by omega, h6⟩, ?_⟩, ?_⟩, X.book⟩
    · show T.heap.size + R'.cells ≤ e.platform.maxCells
      omega
    · show T.slotsUsed + R'.slots ≤ e.platform.maxSlots
      omega
  · rw [State.stackLimits_setFrames]; rfl
  · rw [State.stackBytes_setFrames]; rfl
  · refine ⟨?_, Nat.le_refl _, Nat.le_refl _, ?_, ?_, fun a c9 h9 => ⟨c9, h9, rfl, rfl, fun _ _ => rfl⟩⟩
    · obtain ⟨t, ht, -⟩ := State.frames_cons hr
      show T.setVm s.vm = { ((T.setVm s.vm).setFrames (.invoking m args :: below)).setFrames (T.setVm s.vm).frames with heap := T.heap, slotsUsed := T.slotsUsed }
      rw [State.setFrames_setFrames, State.setFrames_self ht]
      rfl
    · show T.slotsUsed = T.slotsUsed + ((T.heap.toList.drop T.heap.size).map (·.slots.size)).sum
      rw [List.drop_eq_nil_of_le (Nat.le_of_eq Array.length_toList)]
      rfl
    · show ((T.heap.toList.drop T.heap.size).map (·.slots.size)).sum ≤ 0
      rw [List.drop_eq_nil_of_le (Nat.le_of_eq Array.length_toList)]
      exact Nat.le_refl _
/-- 'throw new E()': new; dup; invokespecial; athrow -/
theorem vx_throw0 {cc : ByteArray} {pc : Nat} (hexec : p.tables.exec = Jvm.exec) (hb : c.code = cc) (hl : l.stackTraces = false) {own cls : String} {names : List String} {ik ic mc ms : Nat} {A : Nat → Prop}
    (hown : s.vm.findClass own = some m.cls) (hcls : Bundle.fit cls = true) (hnames : ∀ n ∈ names, Bundle.fit n = true)
    (hk : (Cond.classLink own ik cls).before args s = true) (hini : (Cond.initialized cls).before args s = true) (hat : ∀ w ∈ vx_at0 own ic cls names, w.before args s = true)
    (hgood : ∀ w ∈ Cond.classLink own ik cls :: Cond.initialized cls :: vx_at0 own ic cls names, vx_ot w = true)
    (hU : vx_Zq Bundle.tN "UNASSIGNED_STACK" Bundle.steD A s s.heap) (hN : vx_Zq Bundle.tN "SUPPRESSED_SENTINEL" Bundle.listD A s s.heap) (hS : va_S A s.heap H locs) (hsize : ls.size = c.maxLocals)
    (d0 : decode cc pc = .ok (.new ik, 3)) (d3 : decode cc (pc + 3) = .ok (.dup, 1)) (d4 : decode cc (pc + 4) = .ok (.invokespecial ic, 3)) (d7 : decode cc (pc + 7) = .ok (.athrow, 1))
    (hout : ∀ x ∈ c.exceptionTable.toList, covers x (pc + 7) = false)
    (hRframes : names.length + 3 < R.frames) (hRlocals : (rest.map fun v => v.category).sum + (13 * (names.length + 1) + 42) ≤ R.locals) (hRcells : cells + 1 ≤ R.cells) (hRslots : slots + 6 ≤ R.slots) (hlocks : meth.locks = false)
    (hx : ∀ t : State, s.vm.Alike t.vm → H.size ≤ t.heap.size → (∀ q : Nat, q < H.size → t.heap[q]? = H[q]?) → XC cls s t)
    (hf : ∀ z ∈ locs, free z.base) (hc : cells + 1 ≤ mc) (hs : slots + 6 ≤ ms) :
    W p l e R s m args below meth c H locs cells slots (vx_MQ below Qc XC args s mc ms free) (F0 m pc ls rest) := by
  intro T hT X
  have htr : e.platform.stackTraces = false := (show e.platform.stackTraces = l.stackTraces by rw [X.admits.platform]).trans hl
  have Y := vx_rebase X (R' := { frames := R.frames, locals := R.locals, cells := 1, slots := 6 }) (Nat.le_refl _) (Nat.le_refl _) hRcells hRslots
  obtain ⟨s', hA⟩ : ∃ z, z = (T.setVm s.vm).setFrames (.invoking m args :: below) := ⟨_, rfl⟩
  rw [← hA] at Y
  have hvm : s'.vm = s.vm := by rw [hA]; rfl
  have hhp : s'.heap = H := by rw [hA]; exact hT
  have hW0 : s.WarmedH s'.vm := by rw [hvm]; exact State.WarmedH.refl s
  have hat' : ∀ w ∈ vx_at0 own ic cls names, w.before args s' = true := fun w hw => vx_ot_at hW0 hvm.symm (hgood w (List.mem_cons_of_mem _ (List.mem_cons_of_mem _ hw))) (hat w hw)
  have hk' : (Cond.classLink own ik cls).before args s' = true := vx_ot_at hW0 hvm.symm (hgood _ List.mem_cons_self) hk
  have hini' : (Cond.initialized cls).before args s' = true := vx_ot_at hW0 hvm.symm (hgood _ (List.mem_cons_of_mem _ List.mem_cons_self)) hini
  have hU' : vx_Zq Bundle.tN "UNASSIGNED_STACK" Bundle.steD A s' s'.heap := by rw [hhp]; exact vx_Zq.moved hW0.alike (hU.kept hS.2.1)
  have hN' : vx_Zq Bundle.tN "SUPPRESSED_SENTINEL" Bundle.listD A s' s'.heap := by rw [hhp]; exact vx_Zq.moved hW0.alike (hN.kept hS.2.1)
  have h : ∀ w ∈ Bundle.ownAtoms0 own ic cls names, w.before args s' = true := vx_own hat' (vx_isRefq hU'.1) (vx_isRefq hN'.1) hU'.2.word hN'.2.word
  have hown' : s'.vm.findClass own = some m.cls := by rw [hvm]; exact hown
  have hins : (Cond.instantiable cls 6).before args s' = true := h _ (by simp [Bundle.ownAtoms0])
  obtain ⟨vm₁, cX, kX, hfX, hkX, -, -, X₁, st1⟩ := Y.newCold hexec (own := own) (C := cls) (index := ik) (n := 6) hown' hk' hins hini'
    (g := F0 m pc ls rest) rfl (by rw [hb]; exact d0) (Nat.le_refl _) (Nat.le_refl _)
  generalize hT1 : (T.setVm vm₁).pushCell { cls := cX, slots := kX.instanceTypes.map defaultValue, vm := .none } = T1 at X₁ st1
  have hcat : (Value.ref T.heap.size).category = 1 := rfl
  have hcellA : T1.heap[T.heap.size]? = some (freshCell cX kX) := by rw [← hT1]; exact State.heap_pushCell_size _ _
  have d3' : decode c.code (pc + 3) = .ok (.dup, 1) := by rw [hb]; exact d3
  obtain ⟨U, hsteps, hrun, hend, hW, hsame, ce, hce, hO⟩ := X₁.ctorThrow0 hexec htr (own := own) (cls := cls) (names := names) (ic := ic) hown' hcls hnames h (fun x hx => nomatch hx) hfX hkX hcellA (by rw [hhp, hT]; exact Nat.le_refl _)
    (g := { method := m, pc := pc + 4, locals := ls, stack := .ref T.heap.size :: .ref T.heap.size :: rest, locked := none }) rfl hsize rfl rfl (rest := rest) rfl
    (by rw [hb]; exact d4) (by rw [hb]; exact d7) hout hRframes (by simp only [List.map_cons, List.sum_cons, hcat]; omega) hlocks
  obtain ⟨f1, f2⟩ := vx_frame hsame
  rw [hhp] at f1 f2
  have hWs : s.WarmedH U.vm := State.WarmedH.trans hW0 hW
  have hcl : s.vm.findClass cls = some ce.cls := by
    have h9 := hO.cls
    rw [hvm] at h9
    exact h9
  have hall : s.sameButNew ({ U with vm := s.vm } : State) locs mc ms := by
    subst hA
    obtain ⟨e1, e2⟩ := hsame
    rw [State.setFrames_setFrames] at e1
    have h2 : (T.setVm s.vm).sameButNew ({ U with vm := s.vm } : State) [] (0 + 1) (0 + 6) := ⟨e1, e2⟩
    have h3 := X.same.trans h2
    rw [List.append_nil] at h3
    exact h3.mono hc hs
  refine ⟨U, ?_, .threw T.heap.size, hrun, hend, Or.inr ⟨T.heap.size, rfl, cls, ce, locs, hx U hWs.alike f1 (fun q hq => f2 q hq (fun z hz => nomatch hz)), hce, hO.vm, hcl, hWs, hall, hf⟩⟩
  refine st1 _ ?_
  show Steps p.tables e below (T1.setTop { method := m, pc := pc + 3, locals := ls, stack := .ref T.heap.size :: rest, locked := none }) _
  jvm_step X₁.here [X₁.here.top, hexec, d3', Value.category]
  exact hsteps
/-- 'throw new E("text")': new; dup; ldc; invokespecial; athrow -/
theorem vx_throwS {cc : ByteArray} {pc : Nat} (hexec : p.tables.exec = Jvm.exec) (hb : c.code = cc) (hl : l.stackTraces = false) {own cls text : String} {names : List String} {ik is ic mc ms sa : Nat} {A : Nat → Prop}
    (hown : s.vm.findClass own = some m.cls) (hcls : Bundle.fit cls = true) (hnames : ∀ n ∈ names, Bundle.fit n = true)
    (hk : (Cond.classLink own ik cls).before args s = true) (hini : (Cond.initialized cls).before args s = true) (hstr : vk_R own is text sa s) (hat : ∀ w ∈ vx_atS own ic cls names, w.before args s = true)
    (hgood : ∀ w ∈ Cond.classLink own ik cls :: Cond.initialized cls :: vx_atS own ic cls names, vx_ot w = true)
    (hU : vx_Zq Bundle.tN "UNASSIGNED_STACK" Bundle.steD A s s.heap) (hN : vx_Zq Bundle.tN "SUPPRESSED_SENTINEL" Bundle.listD A s s.heap) (hS : va_S A s.heap H locs) (hsize : ls.size = c.maxLocals)
    (d0 : decode cc pc = .ok (.new ik, 3)) (d3 : decode cc (pc + 3) = .ok (.dup, 1)) (d4 : decode cc (pc + 4) = .ok (.ldc is, 2)) (d6 : decode cc (pc + 6) = .ok (.invokespecial ic, 3)) (d9 : decode cc (pc + 9) = .ok (.athrow, 1))
    (hout : ∀ x ∈ c.exceptionTable.toList, covers x (pc + 9) = false)
    (hRframes : names.length + 3 < R.frames) (hRlocals : (rest.map fun v => v.category).sum + (13 * (names.length + 1) + 43) ≤ R.locals) (hRcells : cells + 1 ≤ R.cells) (hRslots : slots + 6 ≤ R.slots) (hlocks : meth.locks = false)
    (hx : ∀ t : State, s.vm.Alike t.vm → H.size ≤ t.heap.size → (∀ q : Nat, q < H.size → t.heap[q]? = H[q]?) → XC cls s t)
    (hf : ∀ z ∈ locs, free z.base) (hc : cells + 1 ≤ mc) (hs : slots + 6 ≤ ms) :
    W p l e R s m args below meth c H locs cells slots (vx_MQ below Qc XC args s mc ms free) (F0 m pc ls rest) := by
  intro T hT X
  have htr : e.platform.stackTraces = false := (show e.platform.stackTraces = l.stackTraces by rw [X.admits.platform]).trans hl
  have Y := vx_rebase X (R' := { frames := R.frames, locals := R.locals, cells := 1, slots := 6 }) (Nat.le_refl _) (Nat.le_refl _) hRcells hRslots
  obtain ⟨s', hA⟩ : ∃ z, z = (T.setVm s.vm).setFrames (.invoking m args :: below) := ⟨_, rfl⟩
  rw [← hA] at Y
  have hvm : s'.vm = s.vm := by rw [hA]; rfl
  have hhp : s'.heap = H := by rw [hA]; exact hT
  have hW0 : s.WarmedH s'.vm := by rw [hvm]; exact State.WarmedH.refl s
  have hat' : ∀ w ∈ vx_atS own ic cls names, w.before args s' = true := fun w hw => vx_ot_at hW0 hvm.symm (hgood w (List.mem_cons_of_mem _ (List.mem_cons_of_mem _ hw))) (hat w hw)
  have hk' : (Cond.classLink own ik cls).before args s' = true := vx_ot_at hW0 hvm.symm (hgood _ List.mem_cons_self) hk
  have hini' : (Cond.initialized cls).before args s' = true := vx_ot_at hW0 hvm.symm (hgood _ (List.mem_cons_of_mem _ List.mem_cons_self)) hini
  have hU' : vx_Zq Bundle.tN "UNASSIGNED_STACK" Bundle.steD A s' s'.heap := by rw [hhp]; exact vx_Zq.moved hW0.alike (hU.kept hS.2.1)
  have hN' : vx_Zq Bundle.tN "SUPPRESSED_SENTINEL" Bundle.listD A s' s'.heap := by rw [hhp]; exact vx_Zq.moved hW0.alike (hN.kept hS.2.1)
  have h : ∀ w ∈ Bundle.ownAtoms own ic cls names, w.before args s' = true := vx_own hat' (vx_isRefq hU'.1) (vx_isRefq hN'.1) hU'.2.word hN'.2.word
  have hown' : s'.vm.findClass own = some m.cls := by rw [hvm]; exact hown
  have hins : (Cond.instantiable cls 6).before args s' = true := h _ (by simp [Bundle.ownAtoms])
  obtain ⟨vm₁, cX, kX, hfX, hkX, -, -, X₁, st1⟩ := Y.newCold hexec (own := own) (C := cls) (index := ik) (n := 6) hown' hk' hins hini'
    (g := F0 m pc ls rest) rfl (by rw [hb]; exact d0) (Nat.le_refl _) (Nat.le_refl _)
  generalize hT1 : (T.setVm vm₁).pushCell { cls := cX, slots := kX.instanceTypes.map defaultValue, vm := .none } = T1 at X₁ st1
  have hcat : (Value.ref T.heap.size).category = 1 := rfl
  have hcellA : T1.heap[T.heap.size]? = some (freshCell cX kX) := by rw [← hT1]; exact State.heap_pushCell_size _ _
  have d3' : decode c.code (pc + 3) = .ok (.dup, 1) := by rw [hb]; exact d3
  have d4' : decode c.code (pc + 4) = .ok (.ldc is, 2) := by rw [hb]; exact d4
  have hstr' : vk_R own is text sa s' := vk_R.warm hW0 hstr
  obtain ⟨U, hsteps, hrun, hend, hW, hsame, ce, hce, hO⟩ := X₁.ctorThrowS hexec htr (own := own) (cls := cls) (names := names) (ic := ic) hown' hcls hnames h (fun x hx => nomatch hx) hfX hkX hcellA (by rw [hhp, hT]; exact Nat.le_refl _) (msg := .ref sa) rfl
    (g := { method := m, pc := pc + 6, locals := ls, stack := .ref sa :: .ref T.heap.size :: .ref T.heap.size :: rest, locked := none }) rfl hsize rfl rfl (rest := rest) rfl
    (by rw [hb]; exact d6) (by rw [hb]; exact d9) hout hRframes (by simp only [List.map_cons, List.sum_cons, hcat]; omega) hlocks
  obtain ⟨f1, f2⟩ := vx_frame hsame
  rw [hhp] at f1 f2
  have hWs : s.WarmedH U.vm := State.WarmedH.trans hW0 hW
  have hcl : s.vm.findClass cls = some ce.cls := by
    have h9 := hO.cls
    rw [hvm] at h9
    exact h9
  have hall : s.sameButNew ({ U with vm := s.vm } : State) locs mc ms := by
    subst hA
    obtain ⟨e1, e2⟩ := hsame
    rw [State.setFrames_setFrames] at e1
    have h2 : (T.setVm s.vm).sameButNew ({ U with vm := s.vm } : State) [] (0 + 1) (0 + 6) := ⟨e1, e2⟩
    have h3 := X.same.trans h2
    rw [List.append_nil] at h3
    exact h3.mono hc hs
  refine ⟨U, ?_, .threw T.heap.size, hrun, hend, Or.inr ⟨T.heap.size, rfl, cls, ce, locs, hx U hWs.alike f1 (fun q hq => f2 q hq (fun z hz => nomatch hz)), hce, hO.vm, hcl, hWs, hall, hf⟩⟩
  refine st1 _ ?_
  show Steps p.tables e below (T1.setTop { method := m, pc := pc + 3, locals := ls, stack := .ref T.heap.size :: rest, locked := none }) _
  jvm_step X₁.here [X₁.here.top, hexec, d3', Value.category]
  exact X₁.ldcString hexec (own := own) (text := text) (index := is) (a := sa) hown' hstr'.1 hstr'.2
    (g := { method := m, pc := pc + 4, locals := ls, stack := .ref T.heap.size :: .ref T.heap.size :: rest, locked := none }) rfl d4' _ hsteps
/-- 'throw new E("text")', the text by a wide index -/
theorem vx_throwSW {cc : ByteArray} {pc : Nat} (hexec : p.tables.exec = Jvm.exec) (hb : c.code = cc) (hl : l.stackTraces = false) {own cls text : String} {names : List String} {ik is ic mc ms sa : Nat} {A : Nat → Prop}
    (hown : s.vm.findClass own = some m.cls) (hcls : Bundle.fit cls = true) (hnames : ∀ n ∈ names, Bundle.fit n = true)
    (hk : (Cond.classLink own ik cls).before args s = true) (hini : (Cond.initialized cls).before args s = true) (hstr : vk_R own is text sa s) (hat : ∀ w ∈ vx_atS own ic cls names, w.before args s = true)
    (hgood : ∀ w ∈ Cond.classLink own ik cls :: Cond.initialized cls :: vx_atS own ic cls names, vx_ot w = true)
    (hU : vx_Zq Bundle.tN "UNASSIGNED_STACK" Bundle.steD A s s.heap) (hN : vx_Zq Bundle.tN "SUPPRESSED_SENTINEL" Bundle.listD A s s.heap) (hS : va_S A s.heap H locs) (hsize : ls.size = c.maxLocals)
    (d0 : decode cc pc = .ok (.new ik, 3)) (d3 : decode cc (pc + 3) = .ok (.dup, 1)) (d4 : decode cc (pc + 4) = .ok (.ldc_w is, 3)) (d7 : decode cc (pc + 7) = .ok (.invokespecial ic, 3)) (d10 : decode cc (pc + 10) = .ok (.athrow, 1))
    (hout : ∀ x ∈ c.exceptionTable.toList, covers x (pc + 10) = false)
    (hRframes : names.length + 3 < R.frames) (hRlocals : (rest.map fun v => v.category).sum + (13 * (names.length + 1) + 43) ≤ R.locals) (hRcells : cells + 1 ≤ R.cells) (hRslots : slots + 6 ≤ R.slots) (hlocks : meth.locks = false)
    (hx : ∀ t : State, s.vm.Alike t.vm → H.size ≤ t.heap.size → (∀ q : Nat, q < H.size → t.heap[q]? = H[q]?) → XC cls s t)
    (hf : ∀ z ∈ locs, free z.base) (hc : cells + 1 ≤ mc) (hs : slots + 6 ≤ ms) :
    W p l e R s m args below meth c H locs cells slots (vx_MQ below Qc XC args s mc ms free) (F0 m pc ls rest) := by
  intro T hT X
  have htr : e.platform.stackTraces = false := (show e.platform.stackTraces = l.stackTraces by rw [X.admits.platform]).trans hl
  have Y := vx_rebase X (R' := { frames := R.frames, locals := R.locals, cells := 1, slots := 6 }) (Nat.le_refl _) (Nat.le_refl _) hRcells hRslots
  obtain ⟨s', hA⟩ : ∃ z, z = (T.setVm s.vm).setFrames (.invoking m args :: below) := ⟨_, rfl⟩
  rw [← hA] at Y
  have hvm : s'.vm = s.vm := by rw [hA]; rfl
  have hhp : s'.heap = H := by rw [hA]; exact hT
  have hW0 : s.WarmedH s'.vm := by rw [hvm]; exact State.WarmedH.refl s
  have hat' : ∀ w ∈ vx_atS own ic cls names, w.before args s' = true := fun w hw => vx_ot_at hW0 hvm.symm (hgood w (List.mem_cons_of_mem _ (List.mem_cons_of_mem _ hw))) (hat w hw)
  have hk' : (Cond.classLink own ik cls).before args s' = true := vx_ot_at hW0 hvm.symm (hgood _ List.mem_cons_self) hk
  have hini' : (Cond.initialized cls).before args s' = true := vx_ot_at hW0 hvm.symm (hgood _ (List.mem_cons_of_mem _ List.mem_cons_self)) hini
  have hU' : vx_Zq Bundle.tN "UNASSIGNED_STACK" Bundle.steD A s' s'.heap := by rw [hhp]; exact vx_Zq.moved hW0.alike (hU.kept hS.2.1)
  have hN' : vx_Zq Bundle.tN "SUPPRESSED_SENTINEL" Bundle.listD A s' s'.heap := by rw [hhp]; exact vx_Zq.moved hW0.alike (hN.kept hS.2.1)
  have h : ∀ w ∈ Bundle.ownAtoms own ic cls names, w.before args s' = true := vx_own hat' (vx_isRefq hU'.1) (vx_isRefq hN'.1) hU'.2.word hN'.2.word
  have hown' : s'.vm.findClass own = some m.cls := by rw [hvm]; exact hown
  have hins : (Cond.instantiable cls 6).before args s' = true := h _ (by simp [Bundle.ownAtoms])
  obtain ⟨vm₁, cX, kX, hfX, hkX, -, -, X₁, st1⟩ := Y.newCold hexec (own := own) (C := cls) (index := ik) (n := 6) hown' hk' hins hini'
    (g := F0 m pc ls rest) rfl (by rw [hb]; exact d0) (Nat.le_refl _) (Nat.le_refl _)
  generalize hT1 : (T.setVm vm₁).pushCell { cls := cX, slots := kX.instanceTypes.map defaultValue, vm := .none } = T1 at X₁ st1
  have hcat : (Value.ref T.heap.size).category = 1 := rfl
  have hcellA : T1.heap[T.heap.size]? = some (freshCell cX kX) := by rw [← hT1]; exact State.heap_pushCell_size _ _
  have d3' : decode c.code (pc + 3) = .ok (.dup, 1) := by rw [hb]; exact d3
  have d4' : decode c.code (pc + 4) = .ok (.ldc_w is, 3) := by rw [hb]; exact d4
  have hstr' : vk_R own is text sa s' := vk_R.warm hW0 hstr
  obtain ⟨U, hsteps, hrun, hend, hW, hsame, ce, hce, hO⟩ := X₁.ctorThrowS hexec htr (own := own) (cls := cls) (names := names) (ic := ic) hown' hcls hnames h (fun x hx => nomatch hx) hfX hkX hcellA (by rw [hhp, hT]; exact Nat.le_refl _) (msg := .ref sa) rfl
    (g := { method := m, pc := pc + 7, locals := ls, stack := .ref sa :: .ref T.heap.size :: .ref T.heap.size :: rest, locked := none }) rfl hsize rfl rfl (rest := rest) rfl
    (by rw [hb]; exact d7) (by rw [hb]; exact d10) hout hRframes (by simp only [List.map_cons, List.sum_cons, hcat]; omega) hlocks
  obtain ⟨f1, f2⟩ := vx_frame hsame
  rw [hhp] at f1 f2
  have hWs : s.WarmedH U.vm := State.WarmedH.trans hW0 hW
  have hcl : s.vm.findClass cls = some ce.cls := by
    have h9 := hO.cls
    rw [hvm] at h9
    exact h9
  have hall : s.sameButNew ({ U with vm := s.vm } : State) locs mc ms := by
    subst hA
    obtain ⟨e1, e2⟩ := hsame
    rw [State.setFrames_setFrames] at e1
    have h2 : (T.setVm s.vm).sameButNew ({ U with vm := s.vm } : State) [] (0 + 1) (0 + 6) := ⟨e1, e2⟩
    have h3 := X.same.trans h2
    rw [List.append_nil] at h3
    exact h3.mono hc hs
  refine ⟨U, ?_, .threw T.heap.size, hrun, hend, Or.inr ⟨T.heap.size, rfl, cls, ce, locs, hx U hWs.alike f1 (fun q hq => f2 q hq (fun z hz => nomatch hz)), hce, hO.vm, hcl, hWs, hall, hf⟩⟩
  refine st1 _ ?_
  show Steps p.tables e below (T1.setTop { method := m, pc := pc + 3, locals := ls, stack := .ref T.heap.size :: rest, locked := none }) _
  jvm_step X₁.here [X₁.here.top, hexec, d3', Value.category]
  exact X₁.ldcStringW hexec (own := own) (text := text) (index := is) (a := sa) hown' hstr'.1 hstr'.2
    (g := { method := m, pc := pc + 4, locals := ls, stack := .ref T.heap.size :: .ref T.heap.size :: rest, locked := none }) rfl d4' _ hsteps
end Ends
section Bodies
variable {l : Launch}
theorem vx_ofW {y : MethodName} {ws ws' : List Cond} {rm : Room} {Pc : Array Value → State → Prop} {Qc : Array Value → State → Outcome → State → Prop} {XC : String → State → State → Prop} {mc ms : Nat} {free : Addr → Prop} {cc : ByteArray} {maxL : Nat} {ret : Option FieldType}
    (hy : plainName y.cls = true) (hw : ws = Cond.code y cc maxL ret :: ws')
    (body : ∀ p e s m args below meth c s₁, BodyLoose p l y (headSpec ws rm) cc maxL ret e s m args below meth c s₁ → c.maxLocals = maxL → (∀ x ∈ c.exceptionTable.toList, False) → Pc args s →
      W p l e (headSpec ws rm).room s m args below meth c s.heap [] 0 0 (vx_MQ below Qc XC args s mc ms free) (entryFrame m args maxL)) : vx_Met l y ws rm Pc Qc XC mc ms free := by
  refine MetFree.of_bodyS (code := cc) (maxLocals := maxL) (ret := ret) hy ?_ ?_
  · intro args s m h hn
    obtain ⟨meth, c, h1, h2, h3, h4, h5, h6, -, -⟩ := Cond.code_spec hn (atoms_spec (ws := ws) h _ (by rw [hw]; exact List.mem_cons_self))
    exact ⟨meth, c, h1, h2, h3, h4, h5, h6⟩
  · intro p e s m args below meth c s₁ B hml hP _
    have hh0 : s₁.heap = s.heap := by rw [B.state]; rfl
    have ht : ∀ x ∈ c.exceptionTable.toList, False := by
      obtain ⟨meth9, c9, h1, h2, -, -, -, -, h7, -⟩ := Cond.code_spec B.named (atoms_spec (ws := ws) B.pre _ (by rw [hw]; exact List.mem_cons_self))
      cases Option.some.inj (h1.symm.trans B.method)
      cases Option.some.inj (h2.symm.trans (Stand.of_body B).code)
      intro x hx
      rw [Array.isEmpty_iff.mp h7] at hx
      cases hx
    obtain ⟨t, a1, o, b1, b2, b3⟩ := body p e s m args below meth c s₁ B hml ht hP s₁ hh0 (Stand.of_body B)
    exact ⟨t, o, a1, b1, b2, b3⟩
/-- the table of a body with handlers -/
theorem vx_table {p : Program} {x y : MethodName} {S : Spec} {cc bytes : ByteArray} {maxL maxL' : Nat} {ret ret' : Option FieldType} {e : Env} {s s₁ : State} {m : MethodId} {args : Array Value} {below : List Frame} {meth : Method} {c : Code} {hh : List (Nat × Nat × Nat × Nat)}
    (B : BodyLoose p l y S cc maxL ret e s m args below meth c s₁) (h : (Cond.codeWith y bytes maxL' ret' hh).before args s = true) : c.exceptionTable.toList = tableOf hh := by
  obtain ⟨m9, meth9, c9, hn9, h1, h2, -, -, h6, -⟩ := Cond.codeWith_spec h
  cases Option.some.inj (hn9.symm.trans B.named)
  cases Option.some.inj (h1.symm.trans B.method)
  cases Option.some.inj (h2.symm.trans (Stand.of_body B).code)
  rw [← h6, table_eq]
end Bodies
end VXA
/-! ===== END ===== -/
/-! ===== BEGIN a static call of a method with an exception table ===== -/
section VXS
variable {p : Program} {l : Launch} {e : Env} {R : Room} {s : State} {m : MethodId} {args : Array Value} {below : List Frame} {meth : Method} {c : Code} {T : State} {H : Heap} {locs : List Loc} {cells slots : Nat}
abbrev vx_CSW (R : Room) (s : State) (args : Array Value) (own : String) (index : Nat) (y : MethodName) (bytes : ByteArray) (maxL : Nat) (ret : Option FieldType) (hh : List (Nat × Nat × Nat × Nat)) (ws : List Cond) (rm : Room) (mc ms n : Nat) : Prop :=
  (rm.cells = mc ∧ rm.slots = ms ∧ rm.frames + 1 ≤ R.frames ∧ 8 + (maxL + 11) + rm.locals ≤ R.locals ∧ (∀ w ∈ ws, ∀ (a' : Array Value) (U : State), s.WarmedH U.vm → w.before a' U = true) ∧ Cond.codeWith y bytes maxL ret hh ∈ ws) ∧
  (Cond.codeWith y bytes maxL ret hh).before args s = true ∧ (Cond.initialized y.cls).before args s = true ∧ (y.cls ≠ "java/lang/invoke/MethodHandle" ∧ y.cls ≠ "java/lang/invoke/VarHandle") ∧
  (∀ sig, parseMethodDescriptor y.desc = some sig → n = sig.parameters.length) ∧ (Cond.methodLink own index y).before args s = true ∧ (Cond.static y).before args s = true
theorem vx_cwSW {own : String} {index maxL mc ms : Nat} {y : MethodName} {bytes : ByteArray} {ret : Option FieldType} {hh : List (Nat × Nat × Nat × Nat)} {Ts ws ws' : List Cond} {rm : Room} (n : Nat) (ht : ∀ w ∈ Ts, w.before args s = true) (hT : GoodIn Ts (va_wsS own index y ws)) (hw : ws = Cond.codeWith y bytes maxL ret hh :: ws') (hrc : rm.cells = mc) (hrs : rm.slots = ms)
    (hd : y.cls ≠ "java/lang/invoke/MethodHandle" ∧ y.cls ≠ "java/lang/invoke/VarHandle" ∧ (parseMethodDescriptor y.desc).map (fun d => d.parameters.length) = some n) (hR : rm.frames + 1 ≤ R.frames ∧ 8 + (maxL + 11) + rm.locals ≤ R.locals) :
    vx_CSW R s args own index y bytes maxL ret hh ws rm mc ms n := by
  have ok : ∀ w ∈ va_wsS own index y ws, w.before args s = true := fun w h => ht w (hT w h).1
  have hG : GoodIn Ts ws := fun w h => hT w (by unfold va_wsS; exact List.mem_append_right _ h)
  have hc : Cond.codeWith y bytes maxL ret hh ∈ ws := by rw [hw]; exact List.mem_cons_self
  refine ⟨⟨hrc, hrs, hR.1, hR.2, pay_in ht hG, hc⟩, ht _ (hG _ hc).1, ok _ (by simp [va_wsS]), ⟨hd.1, hd.2.1⟩, fun sig h => ?_, ok _ (by simp [va_wsS]), ok _ (by simp [va_wsS])⟩
  have h2 := hd.2.2
  rw [h] at h2
  exact (Option.some.inj h2).symm
theorem vx_callSW (X : Stand p l e R s m args below meth c T locs cells slots) (hexec : p.tables.exec = Jvm.exec) {own : String} {index : Nat} {y : MethodName} {bytes : ByteArray} {maxL : Nat} {ret : Option FieldType} {hh : List (Nat × Nat × Nat × Nat)}
    (hown : s.vm.findClass own = some m.cls) (hlink : (Cond.methodLink own index y).before args s = true) (hstat : (Cond.static y).before args s = true) (hinit : (Cond.initialized y.cls).before args s = true)
    (hcode : (Cond.codeWith y bytes maxL ret hh).before args s = true) (hy : y.cls ≠ "java/lang/invoke/MethodHandle" ∧ y.cls ≠ "java/lang/invoke/VarHandle")
    {W9 : Nat} {Pre : Pt → Array Value → Prop} {Post : Pt → Array Value → Option Value → Pt → Prop} (hK : Back l R p e below s args y 3 W9 Pre Post)
    {g : JFrame} (hg : g.method = m) (hsize : g.locals.size = c.maxLocals) {argsL rest : List Value} (hlen : ∀ sig, parseMethodDescriptor y.desc = some sig → argsL.length = sig.parameters.length)
    (hstack : g.stack = argsL.reverse ++ rest) (hW : 2 * g.monitorRoom + (rest.map fun v => v.category).sum ≤ W9) (hdg : decode c.code g.pc = .ok (.invokestatic index, 3))
    (hpre : ∀ vm₁, s.WarmedH vm₁ → Pre ⟨T.setVm vm₁, locs, cells, slots⟩ argsL.toArray) :
    ∃ (v : Option Value) (vm₁ : Vm) (B : Pt), s.WarmedH vm₁ ∧ Stand p l e R s m args below meth c B.U B.locs B.cells B.slots ∧ Post ⟨T.setVm vm₁, locs, cells, slots⟩ argsL.toArray v B ∧
      ∀ target, Steps p.tables e below (B.U.setTop { g with pc := g.pc + 3, stack := v.toList ++ rest }) target → Steps p.tables e below (T.setTop g) target := by
  obtain ⟨mk, methM, cM, hnamed, hmethM, -, -, -, -, -, -, hsigM⟩ := Cond.codeWith_spec hcode
  have hstatic : methM.isStatic = true := Cond.static_spec hnamed hmethM hstat
  obtain ⟨kP, hkP, -⟩ := className_of_methodNamed hnamed
  have hinitP : kP.init = .initialized := Cond.initialized_spec (findClass_of_methodNamed hnamed) hkP hinit
  obtain ⟨vm₁, X₁, hstep₁⟩ := X.invokestatic hexec hown hlink hnamed hmethM hstatic hkP hinitP hy (g := g) hg (argsL := argsL) (rest := rest) (hlen _ hsigM) hstack hdg
  obtain ⟨v, B, X', hpost, hsteps⟩ := hK m meth c ⟨T.setVm vm₁, locs, cells, slots⟩ { g with stack := rest } (.invokestatic index) mk argsL.toArray X₁ hg hsize hdg hW (X₁.named hnamed) (hpre vm₁ X₁.warmed)
  exact ⟨v, vm₁, B, X₁.warmed, X', hpost, fun target h => hstep₁ _ fun acts => by rw [doInvoke_state]; exact hsteps.trans h⟩
theorem vx_runSW {y : MethodName} {bytes cc : ByteArray} {maxL nL mc ms n index : Nat} {ret : Option FieldType} {hh : List (Nat × Nat × Nat × Nat)} {ws : List Cond} {rm : Room} {Pc : Array Value → State → Prop} {Qc : Array Value → State → Outcome → State → Prop} {free : Addr → Prop} {Ts : List Cond} {own : String} {As rest : List Value} {g : JFrame}
    (S : CallFix p m c cc nL s args Ts own) (hM : Met l y ws rm Pc Qc mc ms free) (cw : vx_CSW R s args own index y bytes maxL ret hh ws rm mc ms n) (hp : PreS s H Pc As)
    (hg : g.method = m) (hn : As.length = n) (hsize : g.locals.size = nL) (hstack : g.stack = As.reverse ++ rest) (hW : 2 * g.monitorRoom + (rest.map fun v => v.category).sum ≤ 8) (hdg : decode cc g.pc = .ok (.invokestatic index, 3)) (hf : cells + mc ≤ R.cells ∧ slots + ms ≤ R.slots) :
    va_Run p l e R s m args below meth c H locs cells slots mc ms g rest (Qc As.toArray) (free) := by
  obtain ⟨⟨hrc, hrs, hfr, hlo, hws, hcw⟩, hcode, hini, hy, hlen, hl, hstt⟩ := cw
  have hK : Back l R p e below s args y 3 8 (PreOf R mc ms Pc) (PostOf Qc mc ms free) := va_backW (hh := hh) (bytes := bytes) (maxL := maxL) (ret := ret) hM hp.1 hrc hrs hfr hlo hws hcw (fun a' U hW => word_at hW (Or.inl (by first | rfl | simp [Cond.onTables, Cond.keeps, Cond.steady])) hini)
  obtain ⟨hx, hb, hml, ho, -⟩ := S
  intro T hT X
  obtain ⟨v, vm₁, ⟨U', l2, c2, s2⟩, hW₁, X', ⟨g', mk, t, L, e1, e2, hq, h1, hL, h2, h3⟩, st⟩ := vx_callSW X hx (hh := hh) (bytes := bytes) (maxL := maxL) (ret := ret) ho hl hstt hini hcode hy hK hg (hsize.trans hml.symm) (argsL := As) (rest := rest) (fun sig h => hn.trans (hlen sig h)) hstack hW (by rw [hb]; exact hdg)
    (fun vm₁ hW₁ => ⟨hf.1, hf.2, hp.2 (T.setVm vm₁) hT hW₁⟩)
  dsimp only [Pt.U, Pt.locs, Pt.cells, Pt.slots] at X' e1 e2 h1 h2 h3 st
  subst h1; subst h2; subst h3
  exact ⟨v, (T.setVm vm₁).calling g' mk As.toArray, t, U', L, hT, X', hL, e1, e2, hq, st⟩
/-- not caught here, past rows that name other classes: it goes on to the caller -/
theorem vx_outP {p : Program} {l : Launch} {e : Env} {R : Room} {s : State} {m : MethodId} {args : Array Value} {below : List Frame} {meth : Method} {c : Code} {H : Heap} {locs : List Loc} {cells slots : Nat} {free : Addr → Prop} {ls : Array Slot} {rest : List Value} {Qc : Array Value → State → Outcome → State → Prop} {XC : String → State → State → Prop}
    {pc : Nat} {own E : String} {ce : Cell} {q : Addr} {mc ms : Nat} (hown : s.vm.findClass own = some m.cls) (hlocks : meth.locks = false)
    (hpass : ∀ z ∈ c.exceptionTable.toList, covers z pc = false ∨ (z.catchType ≠ 0 ∧ ∃ nm : String, (Cond.classLink own z.catchType nm).before args s = true ∧ va_Nc E nm s)) (hcell : H[q]? = some ce) (hv : ce.vm = .none) (hcl : s.vm.findClass E = some ce.cls)
    (hx : ∀ t : State, t.heap = H → s.vm.Alike t.vm → XC E s t) (hf : ∀ z ∈ locs, free z.base) (hc : cells ≤ mc) (hs : slots ≤ ms) :
    vx_W p l e R s m args below meth c H locs cells slots (vx_MQ below Qc XC args s mc ms free) (F0 m pc ls rest) q := by
  intro T hT X
  have hpl : e.platform.magicAccessors = ({} : Platform).magicAccessors := by rw [X.admits.platform]
  obtain ⟨vm', hW', X', st⟩ := X.outThrough hlocks q (g := F0 m pc ls rest) rfl rfl rfl (cell := ce) (by rw [hT]; exact hcell) (by rw [hv]; rfl)
    (by obtain ⟨k9, h9, -⟩ := Vm.findClass_spec hcl; exact ⟨k9, h9⟩) (fun z hz => by
      rcases hpass z hz with h | ⟨hz0, nm, hl1, hn1⟩
      · exact Or.inl h
      · obtain ⟨c6, hc6, hcl6⟩ := Cond.classLink_spec hown hl1 e.platform hpl
        obtain ⟨a8, b8, h1, h2, h3⟩ := hn1
        cases Option.some.inj (h1.symm.trans hcl)
        cases Option.some.inj (h2.symm.trans hc6)
        exact Or.inr ⟨hz0, _, hcl6, h3⟩)
  obtain ⟨g₀, hfr⟩ := X'.frames_eq
  have hcell9 : ((T.setVm vm').setFrames (.throwing q :: below)).heap[q]? = some ce := by
    show T.heap[q]? = some ce
    rw [hT]; exact hcell
  have hend : Ended ((T.setVm vm').setFrames (.throwing q :: below)) below (.threw q) := State.frames_setFrames _ (State.cur_lt_of_frames hfr)
  refine ⟨(T.setVm vm').setFrames (.throwing q :: below), ?_, .threw q, X'.here.running, hend, Or.inr ⟨q, rfl, E, ce, locs, hx _ hT (X'.ends _).1.alike, hcell9, hv, hcl, (X'.ends _).1, (X'.ends _).2.mono hc hs, hf⟩⟩
  rw [X.pushThrowing_eq]
  exact st
/-- a thing of a world lies in the heap -/
theorem vx_lt {D : va_G} {cl : List vw_C} {ws : va_W} {H1 : Heap} (h : va_P D cl ws H1) {k : Nat} {q : Nat × va_E} (hk : ws[k]? = some q) : q.1 < H1.size := (h k q hk).lt
end VXS
/-! ===== END ===== -/
/-! ===== BEGIN methods with a table of their own: called by a name, returning or throwing ===== -/
section VXH
/-! vx_backW, vx_callVX, vx_callSX, vx_callVW, vx_runVW, vx_runVX, vx_runSX, vx_ofWH follow the same proofs as their sisters above (Free/Laws.lean, Shelf42/LK1.lean); vx_outP calls Shelf42/NT130.lean (outThrough). -/
section
variable {l : Launch} {R : Room} {p : Program} {e : Env} {below : List Frame} {s : State} {sargs : Array Value} {y : MethodName} {len W9 : Nat}
theorem vx_backW {ws : List Cond} {rm : Room} {Pc : Array Value → State → Prop} {Qc : Array Value → State → Outcome → State → Prop} {XC : String → State → State → Prop} {mc ms : Nat} {free : Addr → Prop} {bytes : ByteArray} {maxL : Nat} {ret : Option FieldType} {hh : List (Nat × Nat × Nat × Nat)}
    (hM : vx_Met l y ws rm Pc Qc XC mc ms free) (hblind : FrameBlind Pc) (hrc : rm.cells = mc) (hrs : rm.slots = ms)
    (hframes : rm.frames + 1 ≤ R.frames) (hlocals : W9 + (maxL + 11) + rm.locals ≤ R.locals)
    (hws : ∀ w ∈ ws, ∀ a' U, s.WarmedH U.vm → w.before a' U = true) (hcode : Cond.codeWith y bytes maxL ret hh ∈ ws) (hinit : ∀ a' U, s.WarmedH U.vm → (Cond.initialized y.cls).before a' U = true) :
    vx_Back l R p e below s sargs y len W9 (PreOf R mc ms Pc) (PostOf Qc mc ms free) (vx_Post XC mc ms free) := by
  intro m meth c A g ig mk a X hg hsize hdg hW hn hp
  have h1 : (headSpec ws rm).pre.before a A.U = true := atoms_intro fun w hw => hws w hw _ _ X.warmed
  have h2 : (Cond.codeWith y bytes maxL ret hh).before a A.U = true := hws _ hcode _ _ X.warmed
  have h3 : (Cond.initialized y.cls).before a A.U = true := hinit _ _ X.warmed
  have h4 : A.cells + (headSpec ws rm).room.cells ≤ R.cells := by rw [show (headSpec ws rm).room.cells = mc from hrc]; exact hp.1
  have h5 : A.slots + (headSpec ws rm).room.slots ≤ R.slots := by rw [show (headSpec ws rm).room.slots = ms from hrs]; exact hp.2.1
  have hPc : Pc a (A.U.calling g mk a) := hblind _ _ _ _ hp.2.2
  obtain ⟨U, Ls, c0, s0⟩ := A
  dsimp only [Pt.U, Pt.locs, Pt.cells, Pt.slots] at h1 h2 h3 h4 h5 X hn hPc ⊢
  obtain ⟨m9, methY, cY, hn9, hmY, hcY, -, hlY, -⟩ := Cond.codeWith_spec h2
  cases Option.some.inj (hn9.symm.trans hn)
  obtain ⟨kY, hkY, -⟩ := className_of_methodNamed hn
  have hinitY : kY.init = .initialized := Cond.initialized_spec (findClass_of_methodNamed hn) hkY h3
  have h : At U g.method c below := by rw [hg]; exact X.here
  have hlocals9 : W9 + (maxL + 11) + (headSpec ws rm).room.locals ≤ R.locals := hlocals
  have happ : (headSpec ws rm).appliesLoose y e.platform (U.calling g mk a) = true :=
    Spec.appliesLoose_calling (g := g) h hdg hn hkY hinitY
      (X.room_calling (g := g) (R' := (headSpec ws rm).room) hsize hmY hcY hframes (by rw [hlY]; omega) h4 h5) h1
  obtain ⟨mid, hmid⟩ := h.above
  have hfr : (U.setTop g).frames = (.java g :: mid) ++ below := by rw [State.frames_setTop' g h.top, hmid]; rfl
  obtain ⟨o, s₂, hsteps, -, hend, hq⟩ := Steps.callFree hM p X.admits X.cas X.clock (acts := []) hfr happ hPc trivial
  have hq' : vx_Q Qc XC mc ms free a (U.calling g mk a) o s₂ := hq
  rw [State.frames_setTop' g h.top] at hend
  obtain ⟨g₀, hg0⟩ := Option.isSome_iff_exists.mp h.top
  obtain ⟨r, hr⟩ := State.topJava?_eq_some.mp hg0
  have hr' : (({ U with heap := s₂.heap, slotsUsed := s₂.slotsUsed } : State).setVm s₂.vm).frames = .java g₀ :: r := hr
  rcases hq' with ⟨hqc, L, hfe, hL⟩ | ⟨q, rfl, E, ce, L, hx, hce, hcv, hcl, hW₂, hsm, hL⟩
  · obtain ⟨⟨v, rfl⟩, hW₂, e2, q2, q3, q4, q5, q6⟩ := id hfe
    have e3 : s₂ = ({ (U.calling g mk a).setFrames s₂.frames with heap := s₂.heap, slotsUsed := s₂.slotsUsed } : State).setVm s₂.vm := by
      have : s₂ = ({ s₂ with vm := (U.calling g mk a).vm } : State).setVm s₂.vm := rfl
      rw [e2] at this
      exact this
    obtain ⟨c₂, i₂, len₂, hc₂, hd₂, hf₂⟩ := hend
    have hW' : U.WarmedH s₂.vm := hW₂
    have hcc : c₂ = c := by
      have h1 : s₂.code? g.method = U.code? g.method := by
        rw [State.code?_eq, State.code?_eq, hW'.alike.method?]
      exact Option.some.inj (hc₂.symm.trans (h1.trans h.code))
    subst hcc
    have hlen : len₂ = len := by rw [hdg] at hd₂; cases hd₂; rfl
    subst hlen
    have hs₂ : s₂ = (({ U with heap := s₂.heap, slotsUsed := s₂.slotsUsed } : State).setVm s₂.vm).setTop { g with pc := g.pc + len₂, stack := v.toList ++ g.stack } := by
      refine e3.trans ?_
      rw [hf₂, State.calling_eq h.top, State.setFrames_setFrames, State.setTop_of_frames _ hr', hr]
      rfl
    have hsame : U.sameButNew ({ U with heap := s₂.heap, slotsUsed := s₂.slotsUsed } : State) L mc ms := by
      refine ⟨?_, q2, q3, q4, q5, q6⟩
      obtain ⟨t, ht, -⟩ := State.frames_cons hr
      show ({ U with heap := s₂.heap, slotsUsed := s₂.slotsUsed } : State) = { U.setFrames U.frames with heap := s₂.heap, slotsUsed := s₂.slotsUsed }
      rw [State.setFrames_self ht]
    subst hg
    refine Or.inl ⟨v, ⟨(({ U with heap := s₂.heap, slotsUsed := s₂.slotsUsed } : State).setVm s₂.vm), Ls ++ L, c0 + mc, s0 + ms⟩,
      ⟨X.admits, X.cas, X.clock, X.frames, X.room, X.hears, X.method, X.code, (X.here.setHeapUsed s₂.heap s₂.slotsUsed).setVm hW'.alike, X.tail, State.WarmedH.trans X.warmed hW', X.limits, X.bytes, X.same.trans (hsame.setVm s.vm)⟩,
      ⟨g, mk, s₂, L, rfl, rfl, hqc, rfl, hL, rfl, rfl⟩, ?_⟩
    show Steps p.tables e below _ ((({ U with heap := s₂.heap, slotsUsed := s₂.slotsUsed } : State).setVm s₂.vm).setTop { g with pc := g.pc + len₂, stack := v.toList ++ g.stack })
    rw [← hs₂]
    exact hsteps
  · obtain ⟨e2, q2, q3, q4, q5, q6⟩ := id hsm
    have e3 : s₂ = ({ (U.calling g mk a).setFrames s₂.frames with heap := s₂.heap, slotsUsed := s₂.slotsUsed } : State).setVm s₂.vm := by
      have : s₂ = ({ s₂ with vm := (U.calling g mk a).vm } : State).setVm s₂.vm := rfl
      rw [e2] at this
      exact this
    have hf₂ : s₂.frames = .throwing q :: .java g :: U.frames.tail := hend
    have hW' : U.WarmedH s₂.vm := hW₂
    have hs₂ : s₂ = ((({ U with heap := s₂.heap, slotsUsed := s₂.slotsUsed } : State).setVm s₂.vm).setTop g).pushFrame (.throwing q) := by
      refine e3.trans ?_
      rw [hf₂, State.calling_eq h.top, State.setFrames_setFrames, State.pushFrame, State.frames_setTop _ hr', State.setTop_of_frames _ hr', State.setFrames_setFrames, hr]
      rfl
    have hsame : U.sameButNew ({ U with heap := s₂.heap, slotsUsed := s₂.slotsUsed } : State) L mc ms := by
      refine ⟨?_, q2, q3, q4, q5, q6⟩
      obtain ⟨t, ht, -⟩ := State.frames_cons hr
      show ({ U with heap := s₂.heap, slotsUsed := s₂.slotsUsed } : State) = { U.setFrames U.frames with heap := s₂.heap, slotsUsed := s₂.slotsUsed }
      rw [State.setFrames_self ht]
    subst hg
    refine Or.inr ⟨q, ⟨(({ U with heap := s₂.heap, slotsUsed := s₂.slotsUsed } : State).setVm s₂.vm), Ls ++ L, c0 + mc, s0 + ms⟩,
      ⟨X.admits, X.cas, X.clock, X.frames, X.room, X.hears, X.method, X.code, (X.here.setHeapUsed s₂.heap s₂.slotsUsed).setVm hW'.alike, X.tail, State.WarmedH.trans X.warmed hW', X.limits, X.bytes, X.same.trans (hsame.setVm s.vm)⟩,
      ⟨g, mk, s₂, L, E, ce, rfl, rfl, hx, hce, hcv, hcl, rfl, hL, rfl, rfl⟩, ?_⟩
    show Steps p.tables e below _ (((({ U with heap := s₂.heap, slotsUsed := s₂.slotsUsed } : State).setVm s₂.vm).setTop g).pushFrame (.throwing q))
    rw [← hs₂]
    exact hsteps
end
variable {p : Program} {l : Launch} {e : Env} {R : Room} {s : State} {m : MethodId} {args : Array Value} {below : List Frame} {meth : Method} {c : Code} {T : State} {H : Heap} {locs : List Loc} {cells slots : Nat}
theorem vx_callVX (X : Stand p l e R s m args below meth c T locs cells slots) (hexec : p.tables.exec = Jvm.exec) {own C : String} {index : Nat} {y : MethodName} {bytes : ByteArray} {maxL : Nat} {ret : Option FieldType} {hh : List (Nat × Nat × Nat × Nat)}
    (hown : s.vm.findClass own = some m.cls) (hlink : (Cond.methodLink own index y).before args s = true) (hinst : (Cond.instanceMethod y).before args s = true) (hsel : (Cond.selects C y y).before args s = true)
    (hcode : (Cond.codeWith y bytes maxL ret hh).before args s = true) (hy : y.cls ≠ "java/lang/invoke/MethodHandle" ∧ y.cls ≠ "java/lang/invoke/VarHandle")
    {W9 : Nat} {Pre : Pt → Array Value → Prop} {Post : Pt → Array Value → Option Value → Pt → Prop} {PostX : Pt → Array Value → Addr → Pt → Prop} (hK : vx_Back l R p e below s args y 3 W9 Pre Post PostX)
    {b : Addr} {cellB : Cell} (hcell : T.heap[b]? = some cellB) (hobj : cellB.vm.isStatics = false) (hcls : s.vm.findClass C = some cellB.cls)
    {g : JFrame} (hg : g.method = m) (hsize : g.locals.size = c.maxLocals) {argsL rest : List Value} (hlen : ∀ sig, parseMethodDescriptor y.desc = some sig → argsL.length = sig.parameters.length)
    (hstack : g.stack = argsL.reverse ++ .ref b :: rest) (hW : 2 * g.monitorRoom + (rest.map fun v => v.category).sum ≤ W9) (hdg : decode c.code g.pc = .ok (.invokevirtual index, 3))
    (hpre : ∀ vm₁, s.WarmedH vm₁ → Pre ⟨T.setVm vm₁, locs, cells, slots⟩ (Value.ref b :: argsL).toArray) :
    (∃ (v : Option Value) (vm₁ : Vm) (B : Pt), s.WarmedH vm₁ ∧ Stand p l e R s m args below meth c B.U B.locs B.cells B.slots ∧ Post ⟨T.setVm vm₁, locs, cells, slots⟩ (Value.ref b :: argsL).toArray v B ∧
      ∀ target, Steps p.tables e below (B.U.setTop { g with pc := g.pc + 3, stack := v.toList ++ rest }) target → Steps p.tables e below (T.setTop g) target) ∨
    (∃ (q : Addr) (vm₁ : Vm) (B : Pt), s.WarmedH vm₁ ∧ Stand p l e R s m args below meth c B.U B.locs B.cells B.slots ∧ PostX ⟨T.setVm vm₁, locs, cells, slots⟩ (Value.ref b :: argsL).toArray q B ∧
      Steps p.tables e below (T.setTop g) ((B.U.setTop { g with stack := rest }).pushFrame (.throwing q))) := by
  obtain ⟨mk, methM, hnamed, hmethM, hstM, habM⟩ := Cond.instanceMethod_spec hinst
  obtain ⟨m8, methM', cM, hn8, hmethM', -, -, -, -, -, -, hsigM⟩ := Cond.codeWith_spec hcode
  cases Option.some.inj (hn8.symm.trans hnamed)
  cases hmethM.symm.trans hmethM'
  obtain ⟨c2, r2, m2, q1, q2, q3, q4, kP, hkP, hkPi⟩ := Cond.selects_spec hsel
  cases hcls.symm.trans q1
  cases (State.methodFound?_of_named hnamed hy).symm.trans q2
  cases hnamed.symm.trans q3
  have hselP : selectMethod e.platform s.vm cellB.cls mk = .method mk := by rw [Launch.admits_selectMethod X.admits]; exact q4
  obtain ⟨vm₁, X₁, hstep₁⟩ := X.invokevirtual hexec hown hlink hnamed hmethM hstM hkP hkPi hy (a := b) (cell := cellB) hcell
    (fun z h => by rw [h] at hobj; cases hobj) hselP hmethM habM hkP hkPi (g := g) hg (argsL := argsL) (rest := rest) (hlen _ hsigM) hstack hdg
  rcases hK m meth c ⟨T.setVm vm₁, locs, cells, slots⟩ { g with stack := rest } (.invokevirtual index) mk (Value.ref b :: argsL).toArray X₁ hg hsize hdg hW (X₁.named hnamed) (hpre vm₁ X₁.warmed) with ⟨v, B, X', hpost, hsteps⟩ | ⟨q, B, X', hpost, hsteps⟩
  · exact Or.inl ⟨v, vm₁, B, X₁.warmed, X', hpost, fun target h => hstep₁ _ fun acts => by rw [doInvoke_state]; exact hsteps.trans h⟩
  · exact Or.inr ⟨q, vm₁, B, X₁.warmed, X', hpost, hstep₁ _ fun acts => by rw [doInvoke_state]; exact hsteps⟩
theorem vx_callSX (X : Stand p l e R s m args below meth c T locs cells slots) (hexec : p.tables.exec = Jvm.exec) {own : String} {index : Nat} {y : MethodName} {bytes : ByteArray} {maxL : Nat} {ret : Option FieldType} {hh : List (Nat × Nat × Nat × Nat)}
    (hown : s.vm.findClass own = some m.cls) (hlink : (Cond.methodLink own index y).before args s = true) (hstat : (Cond.static y).before args s = true) (hinit : (Cond.initialized y.cls).before args s = true)
    (hcode : (Cond.codeWith y bytes maxL ret hh).before args s = true) (hy : y.cls ≠ "java/lang/invoke/MethodHandle" ∧ y.cls ≠ "java/lang/invoke/VarHandle")
    {W9 : Nat} {Pre : Pt → Array Value → Prop} {Post : Pt → Array Value → Option Value → Pt → Prop} {PostX : Pt → Array Value → Addr → Pt → Prop} (hK : vx_Back l R p e below s args y 3 W9 Pre Post PostX)
    {g : JFrame} (hg : g.method = m) (hsize : g.locals.size = c.maxLocals) {argsL rest : List Value} (hlen : ∀ sig, parseMethodDescriptor y.desc = some sig → argsL.length = sig.parameters.length)
    (hstack : g.stack = argsL.reverse ++ rest) (hW : 2 * g.monitorRoom + (rest.map fun v => v.category).sum ≤ W9) (hdg : decode c.code g.pc = .ok (.invokestatic index, 3))
    (hpre : ∀ vm₁, s.WarmedH vm₁ → Pre ⟨T.setVm vm₁, locs, cells, slots⟩ argsL.toArray) :
    (∃ (v : Option Value) (vm₁ : Vm) (B : Pt), s.WarmedH vm₁ ∧ Stand p l e R s m args below meth c B.U B.locs B.cells B.slots ∧ Post ⟨T.setVm vm₁, locs, cells, slots⟩ argsL.toArray v B ∧
      ∀ target, Steps p.tables e below (B.U.setTop { g with pc := g.pc + 3, stack := v.toList ++ rest }) target → Steps p.tables e below (T.setTop g) target) ∨
    (∃ (q : Addr) (vm₁ : Vm) (B : Pt), s.WarmedH vm₁ ∧ Stand p l e R s m args below meth c B.U B.locs B.cells B.slots ∧ PostX ⟨T.setVm vm₁, locs, cells, slots⟩ argsL.toArray q B ∧
      Steps p.tables e below (T.setTop g) ((B.U.setTop { g with stack := rest }).pushFrame (.throwing q))) := by
  obtain ⟨mk, methM, cM, hnamed, hmethM, -, -, -, -, -, -, hsigM⟩ := Cond.codeWith_spec hcode
  have hstatic : methM.isStatic = true := Cond.static_spec hnamed hmethM hstat
  obtain ⟨kP, hkP, -⟩ := className_of_methodNamed hnamed
  have hinitP : kP.init = .initialized := Cond.initialized_spec (findClass_of_methodNamed hnamed) hkP hinit
  obtain ⟨vm₁, X₁, hstep₁⟩ := X.invokestatic hexec hown hlink hnamed hmethM hstatic hkP hinitP hy (g := g) hg (argsL := argsL) (rest := rest) (hlen _ hsigM) hstack hdg
  rcases hK m meth c ⟨T.setVm vm₁, locs, cells, slots⟩ { g with stack := rest } (.invokestatic index) mk argsL.toArray X₁ hg hsize hdg hW (X₁.named hnamed) (hpre vm₁ X₁.warmed) with ⟨v, B, X', hpost, hsteps⟩ | ⟨q, B, X', hpost, hsteps⟩
  · exact Or.inl ⟨v, vm₁, B, X₁.warmed, X', hpost, fun target h => hstep₁ _ fun acts => by rw [doInvoke_state]; exact hsteps.trans h⟩
  · exact Or.inr ⟨q, vm₁, B, X₁.warmed, X', hpost, hstep₁ _ fun acts => by rw [doInvoke_state]; exact hsteps⟩
theorem vx_callVW (X : Stand p l e R s m args below meth c T locs cells slots) (hexec : p.tables.exec = Jvm.exec) {own C : String} {index : Nat} {y : MethodName} {bytes : ByteArray} {maxL : Nat} {ret : Option FieldType} {hh : List (Nat × Nat × Nat × Nat)}
    (hown : s.vm.findClass own = some m.cls) (hlink : (Cond.methodLink own index y).before args s = true) (hinst : (Cond.instanceMethod y).before args s = true) (hsel : (Cond.selects C y y).before args s = true)
    (hcode : (Cond.codeWith y bytes maxL ret hh).before args s = true) (hy : y.cls ≠ "java/lang/invoke/MethodHandle" ∧ y.cls ≠ "java/lang/invoke/VarHandle")
    {W9 : Nat} {Pre : Pt → Array Value → Prop} {Post : Pt → Array Value → Option Value → Pt → Prop} (hK : Back l R p e below s args y 3 W9 Pre Post)
    {b : Addr} {cellB : Cell} (hcell : T.heap[b]? = some cellB) (hobj : cellB.vm.isStatics = false) (hcls : s.vm.findClass C = some cellB.cls)
    {g : JFrame} (hg : g.method = m) (hsize : g.locals.size = c.maxLocals) {argsL rest : List Value} (hlen : ∀ sig, parseMethodDescriptor y.desc = some sig → argsL.length = sig.parameters.length)
    (hstack : g.stack = argsL.reverse ++ .ref b :: rest) (hW : 2 * g.monitorRoom + (rest.map fun v => v.category).sum ≤ W9) (hdg : decode c.code g.pc = .ok (.invokevirtual index, 3))
    (hpre : ∀ vm₁, s.WarmedH vm₁ → Pre ⟨T.setVm vm₁, locs, cells, slots⟩ (Value.ref b :: argsL).toArray) :
    ∃ (v : Option Value) (vm₁ : Vm) (B : Pt), s.WarmedH vm₁ ∧ Stand p l e R s m args below meth c B.U B.locs B.cells B.slots ∧ Post ⟨T.setVm vm₁, locs, cells, slots⟩ (Value.ref b :: argsL).toArray v B ∧
      ∀ target, Steps p.tables e below (B.U.setTop { g with pc := g.pc + 3, stack := v.toList ++ rest }) target → Steps p.tables e below (T.setTop g) target := by
  obtain ⟨mk, methM, hnamed, hmethM, hstM, habM⟩ := Cond.instanceMethod_spec hinst
  obtain ⟨m8, methM', cM, hn8, hmethM', -, -, -, -, -, -, hsigM⟩ := Cond.codeWith_spec hcode
  cases Option.some.inj (hn8.symm.trans hnamed)
  cases hmethM.symm.trans hmethM'
  obtain ⟨c2, r2, m2, q1, q2, q3, q4, kP, hkP, hkPi⟩ := Cond.selects_spec hsel
  cases hcls.symm.trans q1
  cases (State.methodFound?_of_named hnamed hy).symm.trans q2
  cases hnamed.symm.trans q3
  have hselP : selectMethod e.platform s.vm cellB.cls mk = .method mk := by rw [Launch.admits_selectMethod X.admits]; exact q4
  obtain ⟨vm₁, X₁, hstep₁⟩ := X.invokevirtual hexec hown hlink hnamed hmethM hstM hkP hkPi hy (a := b) (cell := cellB) hcell
    (fun z h => by rw [h] at hobj; cases hobj) hselP hmethM habM hkP hkPi (g := g) hg (argsL := argsL) (rest := rest) (hlen _ hsigM) hstack hdg
  obtain ⟨v, B, X', hpost, hsteps⟩ := hK m meth c ⟨T.setVm vm₁, locs, cells, slots⟩ { g with stack := rest } (.invokevirtual index) mk (Value.ref b :: argsL).toArray X₁ hg hsize hdg hW (X₁.named hnamed) (hpre vm₁ X₁.warmed)
  exact ⟨v, vm₁, B, X₁.warmed, X', hpost, fun target h => hstep₁ _ fun acts => by rw [doInvoke_state]; exact hsteps.trans h⟩
abbrev vx_CVW (R : Room) (s : State) (args : Array Value) (own C : String) (index : Nat) (y : MethodName) (bytes : ByteArray) (maxL : Nat) (ret : Option FieldType) (hh : List (Nat × Nat × Nat × Nat)) (ws : List Cond) (rm : Room) (mc ms n : Nat) : Prop :=
  (rm.cells = mc ∧ rm.slots = ms ∧ rm.frames + 1 ≤ R.frames ∧ 8 + (maxL + 11) + rm.locals ≤ R.locals ∧ (∀ w ∈ ws, ∀ (a' : Array Value) (U : State), s.WarmedH U.vm → w.before a' U = true) ∧ Cond.codeWith y bytes maxL ret hh ∈ ws) ∧
  (Cond.codeWith y bytes maxL ret hh).before args s = true ∧ (Cond.initialized y.cls).before args s = true ∧ (y.cls ≠ "java/lang/invoke/MethodHandle" ∧ y.cls ≠ "java/lang/invoke/VarHandle") ∧
  (∀ sig, parseMethodDescriptor y.desc = some sig → n = sig.parameters.length) ∧ (Cond.methodLink own index y).before args s = true ∧ (Cond.instanceMethod y).before args s = true ∧ (Cond.selects C y y).before args s = true
theorem vx_cwVW {own C : String} {index maxL mc ms : Nat} {y : MethodName} {bytes : ByteArray} {ret : Option FieldType} {hh : List (Nat × Nat × Nat × Nat)} {Ts ws ws' : List Cond} {rm : Room} (n : Nat) (ht : ∀ w ∈ Ts, w.before args s = true) (hT : GoodIn Ts (wsV own index C y ws)) (hw : ws = Cond.codeWith y bytes maxL ret hh :: ws') (hrc : rm.cells = mc) (hrs : rm.slots = ms)
    (hd : y.cls = C ∧ y.cls ≠ "java/lang/invoke/MethodHandle" ∧ y.cls ≠ "java/lang/invoke/VarHandle" ∧ (parseMethodDescriptor y.desc).map (fun d => d.parameters.length) = some n) (hR : rm.frames + 1 ≤ R.frames ∧ 8 + (maxL + 11) + rm.locals ≤ R.locals) :
    vx_CVW R s args own C index y bytes maxL ret hh ws rm mc ms n := by
  obtain ⟨hC, hd⟩ := hd
  subst hC
  have ok : ∀ w ∈ wsV own index y.cls y ws, w.before args s = true := fun w h => ht w (hT w h).1
  have hG : GoodIn Ts ws := fun w h => hT w (by unfold wsV; exact List.mem_append_right _ h)
  have hc : Cond.codeWith y bytes maxL ret hh ∈ ws := by rw [hw]; exact List.mem_cons_self
  refine ⟨⟨hrc, hrs, hR.1, hR.2, pay_in ht hG, hc⟩, ht _ (hG _ hc).1, ok _ (by simp [wsV]), ⟨hd.1, hd.2.1⟩, fun sig h => ?_, ok _ (by simp [wsV]), ok _ (by simp [wsV]), ok _ (by simp [wsV])⟩
  have h2 := hd.2.2
  rw [h] at h2
  exact (Option.some.inj h2).symm
theorem vx_runVW {y : MethodName} {bytes cc : ByteArray} {maxL nL mc ms n index : Nat} {ret : Option FieldType} {hh : List (Nat × Nat × Nat × Nat)} {ws : List Cond} {rm : Room} {Pc : Array Value → State → Prop} {Qc : Array Value → State → Outcome → State → Prop} {free : Addr → Prop} {Ts : List Cond} {own C : String} {b : Addr} {As rest : List Value} {g : JFrame}
    (S : CallFix p m c cc nL s args Ts own) (hM : Met l y ws rm Pc Qc mc ms free) (cw : vx_CVW R s args own C index y bytes maxL ret hh ws rm mc ms n) (hp : PreV s H C b Pc As)
    (hg : g.method = m) (hn : As.length = n) (hsize : g.locals.size = nL) (hstack : g.stack = As.reverse ++ .ref b :: rest) (hW : 2 * g.monitorRoom + (rest.map fun v => v.category).sum ≤ 8) (hdg : decode cc g.pc = .ok (.invokevirtual index, 3)) (hf : cells + mc ≤ R.cells ∧ slots + ms ≤ R.slots) :
    va_Run p l e R s m args below meth c H locs cells slots mc ms g rest (Qc (Value.ref b :: As).toArray) free := by
  obtain ⟨⟨hrc, hrs, hfr, hlo, hws, hcw⟩, hcode, hini, hy, hlen, hl, hin, hse⟩ := cw
  have hK : Back l R p e below s args y 3 8 (PreOf R mc ms Pc) (PostOf Qc mc ms free) := va_backW (hh := hh) (bytes := bytes) (maxL := maxL) (ret := ret) hM hp.1 hrc hrs hfr hlo hws hcw (fun a' U hW => word_at hW (Or.inl (by first | rfl | simp [Cond.onTables, Cond.keeps, Cond.steady])) hini)
  obtain ⟨hx, hb, hml, ho, -⟩ := S
  obtain ⟨-, ⟨cellB, hcB, hoB, hclB⟩, hPc⟩ := hp
  intro T hT X
  obtain ⟨v, vm₁, ⟨U', l2, c2, s2⟩, hW₁, X', ⟨g', mk, t, L, e1, e2, hq, h1, hL, h2, h3⟩, st⟩ := vx_callVW X hx (C := C) (hh := hh) (bytes := bytes) (maxL := maxL) (ret := ret) ho hl hin hse hcode hy hK (by rw [hT]; exact hcB) hoB hclB hg (hsize.trans hml.symm) (argsL := As) (rest := rest) (fun sig h => hn.trans (hlen sig h)) hstack hW (by rw [hb]; exact hdg)
    (fun vm₁ hW₁ => ⟨hf.1, hf.2, hPc (T.setVm vm₁) hT hW₁⟩)
  dsimp only [Pt.U, Pt.locs, Pt.cells, Pt.slots] at X' e1 e2 h1 h2 h3 st
  subst h1; subst h2; subst h3
  exact ⟨v, (T.setVm vm₁).calling g' mk (Value.ref b :: As).toArray, t, U', L, hT, X', hL, e1, e2, hq, st⟩
section
variable {y : MethodName} {bytes cc : ByteArray} {maxL nL mc ms n index : Nat} {ret : Option FieldType} {ws : List Cond} {rm : Room} {Pc : Array Value → State → Prop} {Qc : Array Value → State → Outcome → State → Prop} {XC : String → State → State → Prop} {free : Addr → Prop} {Ts : List Cond} {own C : String} {b : Addr} {As rest : List Value} {g : JFrame}
theorem vx_runVX {hh : List (Nat × Nat × Nat × Nat)} (S : CallFix p m c cc nL s args Ts own) (hM : vx_Met l y ws rm Pc Qc XC mc ms free) (cw : vx_CVW R s args own C index y bytes maxL ret hh ws rm mc ms n) (hp : PreV s H C b Pc As)
    (hg : g.method = m) (hn : As.length = n) (hsize : g.locals.size = nL) (hstack : g.stack = As.reverse ++ .ref b :: rest) (hW : 2 * g.monitorRoom + (rest.map fun v => v.category).sum ≤ 8) (hdg : decode cc g.pc = .ok (.invokevirtual index, 3)) (hf : cells + mc ≤ R.cells ∧ slots + ms ≤ R.slots) :
    vx_Run p l e R s m args below meth c H locs cells slots mc ms g rest (Qc (Value.ref b :: As).toArray) XC free := by
  obtain ⟨⟨hrc, hrs, hfr, hlo, hws, hcw⟩, hcode, hini, hy, hlen, hl, hin, hse⟩ := cw
  have hK : vx_Back l R p e below s args y 3 8 (PreOf R mc ms Pc) (PostOf Qc mc ms free) (vx_Post XC mc ms free) := vx_backW (hh := hh) (bytes := bytes) (maxL := maxL) (ret := ret) hM hp.1 hrc hrs hfr hlo hws hcw (fun a' U hW => word_at hW (Or.inl (by first | rfl | simp [Cond.onTables, Cond.keeps, Cond.steady])) hini)
  obtain ⟨hx, hb, hml, ho, -⟩ := S
  obtain ⟨-, ⟨cellB, hcB, hoB, hclB⟩, hPc⟩ := hp
  intro T hT X
  rcases vx_callVX X hx (C := C) (hh := hh) (bytes := bytes) (maxL := maxL) (ret := ret) ho hl hin hse hcode hy hK (by rw [hT]; exact hcB) hoB hclB hg (hsize.trans hml.symm) (argsL := As) (rest := rest) (fun sig h => hn.trans (hlen sig h)) hstack hW (by rw [hb]; exact hdg)
    (fun vm₁ hW₁ => ⟨hf.1, hf.2, hPc (T.setVm vm₁) hT hW₁⟩) with ⟨v, vm₁, ⟨U', l2, c2, s2⟩, hW₁, X', ⟨g', mk, t, L, e1, e2, hq, h1, hL, h2, h3⟩, st⟩ | ⟨q, vm₁, ⟨U', l2, c2, s2⟩, hW₁, X', ⟨g', mk, t, L, E, ce, e1, e2, hq, hce, hcv, hcl, h1, hL, h2, h3⟩, st⟩
  · dsimp only [Pt.U, Pt.locs, Pt.cells, Pt.slots] at X' e1 e2 h1 h2 h3 st
    subst h1; subst h2; subst h3
    exact Or.inl ⟨v, (T.setVm vm₁).calling g' mk (Value.ref b :: As).toArray, t, U', L, hT, X', hL, e1, e2, hq, st⟩
  · dsimp only [Pt.U, Pt.locs, Pt.cells, Pt.slots] at X' e1 e2 h1 h2 h3 st hcl
    subst h1; subst h2; subst h3
    exact Or.inr ⟨q, (T.setVm vm₁).calling g' mk (Value.ref b :: As).toArray, t, U', L, E, ce, hT, X', hL, e1, e2, hq, hce, hcv, vx_cls hW₁ hcl, st⟩
theorem vx_runSX {hh : List (Nat × Nat × Nat × Nat)} (S : CallFix p m c cc nL s args Ts own) (hM : vx_Met l y ws rm Pc Qc XC mc ms free) (cw : vx_CSW R s args own index y bytes maxL ret hh ws rm mc ms n) (hp : PreS s H Pc As)
    (hg : g.method = m) (hn : As.length = n) (hsize : g.locals.size = nL) (hstack : g.stack = As.reverse ++ rest) (hW : 2 * g.monitorRoom + (rest.map fun v => v.category).sum ≤ 8) (hdg : decode cc g.pc = .ok (.invokestatic index, 3)) (hf : cells + mc ≤ R.cells ∧ slots + ms ≤ R.slots) :
    vx_Run p l e R s m args below meth c H locs cells slots mc ms g rest (Qc As.toArray) XC free := by
  obtain ⟨⟨hrc, hrs, hfr, hlo, hws, hcw⟩, hcode, hini, hy, hlen, hl, hstt⟩ := cw
  have hK : vx_Back l R p e below s args y 3 8 (PreOf R mc ms Pc) (PostOf Qc mc ms free) (vx_Post XC mc ms free) := vx_backW (hh := hh) (bytes := bytes) (maxL := maxL) (ret := ret) hM hp.1 hrc hrs hfr hlo hws hcw (fun a' U hW => word_at hW (Or.inl (by first | rfl | simp [Cond.onTables, Cond.keeps, Cond.steady])) hini)
  obtain ⟨hx, hb, hml, ho, -⟩ := S
  intro T hT X
  rcases vx_callSX X hx (hh := hh) (bytes := bytes) (maxL := maxL) (ret := ret) ho hl hstt hini hcode hy hK hg (hsize.trans hml.symm) (argsL := As) (rest := rest) (fun sig h => hn.trans (hlen sig h)) hstack hW (by rw [hb]; exact hdg)
    (fun vm₁ hW₁ => ⟨hf.1, hf.2, hp.2 (T.setVm vm₁) hT hW₁⟩) with ⟨v, vm₁, ⟨U', l2, c2, s2⟩, hW₁, X', ⟨g', mk, t, L, e1, e2, hq, h1, hL, h2, h3⟩, st⟩ | ⟨q, vm₁, ⟨U', l2, c2, s2⟩, hW₁, X', ⟨g', mk, t, L, E, ce, e1, e2, hq, hce, hcv, hcl, h1, hL, h2, h3⟩, st⟩
  · dsimp only [Pt.U, Pt.locs, Pt.cells, Pt.slots] at X' e1 e2 h1 h2 h3 st
    subst h1; subst h2; subst h3
    exact Or.inl ⟨v, (T.setVm vm₁).calling g' mk As.toArray, t, U', L, hT, X', hL, e1, e2, hq, st⟩
  · dsimp only [Pt.U, Pt.locs, Pt.cells, Pt.slots] at X' e1 e2 h1 h2 h3 st hcl
    subst h1; subst h2; subst h3
    exact Or.inr ⟨q, (T.setVm vm₁).calling g' mk As.toArray, t, U', L, E, ce, hT, X', hL, e1, e2, hq, hce, hcv, vx_cls hW₁ hcl, st⟩
end
end VXH
theorem vx_ofWH {l : Launch} {y : MethodName} {ws ws' : List Cond} {rm : Room} {Pc : Array Value → State → Prop} {Qc : Array Value → State → Outcome → State → Prop} {XC : String → State → State → Prop} {mc ms : Nat} {free : Addr → Prop} {cc : ByteArray} {maxL : Nat} {ret : Option FieldType} {hh : List (Nat × Nat × Nat × Nat)}
    (hy : plainName y.cls = true) (hw : ws = Cond.codeWith y cc maxL ret hh :: ws')
    (body : ∀ p e s m args below meth c s₁, BodyLoose p l y (headSpec ws rm) cc maxL ret e s m args below meth c s₁ → c.maxLocals = maxL → Pc args s →
      W p l e (headSpec ws rm).room s m args below meth c s.heap [] 0 0 (vx_MQ below Qc XC args s mc ms free) (entryFrame m args maxL)) : vx_Met l y ws rm Pc Qc XC mc ms free := by
  refine MetFree.of_bodyS (code := cc) (maxLocals := maxL) (ret := ret) hy ?_ ?_
  · intro args s m h hn
    obtain ⟨m9, meth, c, hn9, h1, h2, h3, h4, -, h5, h6, -⟩ := Cond.codeWith_spec (atoms_spec (ws := ws) h _ (by rw [hw]; exact List.mem_cons_self))
    cases hn.symm.trans hn9
    exact ⟨meth, c, h1, h2, h3, h4, h5, h6⟩
  · intro p e s m args below meth c s₁ B hml hP _
    have hh0 : s₁.heap = s.heap := by rw [B.state]; rfl
    obtain ⟨t, a1, o, b1, b2, b3⟩ := body p e s m args below meth c s₁ B hml hP s₁ hh0 (Stand.of_body B)
    exact ⟨t, o, a1, b1, b2, b3⟩
/-! ===== END ===== -/

/-! ===== BEGIN what the machine throws by itself, no traces kept ===== -/
section VXM
set_option maxHeartbeats 1000000 in
/-- the machine throws cls with the message text, no traces kept: from its note over the frame g to 'throwing' over the same frame (follows the proofs of Stand.vmThrowsMessage, Shelf/KitTracedVmS.lean, and Stand.throwsMessageColdBareV, StandMessageColdV.lean, without the step out of the frame) -/
theorem vx_vmAt {p : Program} {l : Launch} {e : Env} {R : Room} {s : State} {m₀ : MethodId} {args : Array Value} {below : List Frame} {meth : Method} {c : Code} {W : State} {locs : List Loc} {cells slots : Nat}
    (X : Stand p l e R s m₀ args below meth c W locs cells slots) (hexec : p.tables.exec = Jvm.exec) (htr : e.platform.stackTraces = false) {cls : String} {names : List String} {text : String}
    (hcls : Bundle.fit cls = true) (hnames : ∀ n ∈ names, Bundle.fit n = true) (hsoe : (cls == "java/lang/StackOverflowError") = false) (hoom : (cls == "java/lang/OutOfMemoryError") = false)
    (h : ∀ a ∈ Bundle.messageArmAtoms cls names, a.before args s = true)
    (hlocs : ∀ x ∈ locs, ∀ cell, s.heap[x.base]? = some cell → cell.vm.isStatics = false)
    (htext : (text == notModelled) = false) (hlimit : ¬ (stringBytes (stringToUtf16 text)).size > e.platform.arrayLengthLimit) (hheap : ¬ (stringBytes (stringToUtf16 text)).size * componentBytes .byte > e.platform.maxHeapBytes)
    {g : JFrame} (hg : g.method = m₀) (hsize : g.locals.size = c.maxLocals)
    (hRframes : names.length + 4 < R.frames) (hRlocals : 2 * g.monitorRoom + (g.stack.map fun v => v.category).sum + 10240 ≤ R.locals) (hshort : 13 * names.length + 55 ≤ 10240)
    (hRcells : cells + 3 ≤ R.cells) (hRslots : slots + ((stringBytes (stringToUtf16 text)).size + 4 + 6) ≤ R.slots) (hlocks : meth.locks = false) :
    ∃ (S : State) (q : Addr) (ce : Cell), (∀ target, Steps p.tables e below ((S.setTop g).pushFrame (.throwing q)) target → Steps p.tables e below ((W.setTop g).pushFrame (.throwNew cls (some text) none)) target) ∧
      Stand p l e R s m₀ args below meth c S locs (cells + 3) (slots + ((stringBytes (stringToUtf16 text)).size + 4 + 6)) ∧ S.heap[q]? = some ce ∧ s.vm.findClass cls = some ce.cls ∧ ce.vm = .none := by
  have howns : e.platform.frameOwnsMonitors = true := by rw [X.admits.platform]
  have hfin : e.platform.finalization = false := by rw [X.admits.platform]
  have hpl : e.platform.magicAccessors = ({} : Platform).magicAccessors := by rw [X.admits.platform]
  have a : ∀ x, x ∈ Bundle.messageArmAtoms cls names → x.holds args s none s [] = true := fun x hx => h x hx
  obtain ⟨T, Z0, L, -, Y⟩ := ThrowableC.of_atoms (args := args) howns hfin hpl (fun x hx => h x (by simp [Bundle.messageArmAtoms, hx]))
  obtain ⟨Z, M, LZ, LM, hnZ⟩ := Init0T.ofS_atoms (args := args) hpl L Y (fun x hx => h x (by simp [Bundle.messageArmAtoms, hx]))
  obtain ⟨P1, Ps, hlen, L1, hL, hP1m, hlink1, hlink⟩ := Bundle.chainS (args := args) hpl hnZ names cls hcls hnames (fun x hx => h x (by simp [Bundle.messageArmAtoms, hx]))
  obtain ⟨Zs, LZs, hn4, hfitv, hfitc⟩ := StringT.of_atoms (args := args) (fun x hx => h x (by simp [Bundle.messageArmAtoms, hx]))
  have hfound : s.vm.findClass cls = some P1.m.cls := findClass_of_methodNamed hP1m
  obtain ⟨c1, kX, hc1, hk, hord, -, -, hn6⟩ := Cond.instantiable_spec (a (.instantiable cls 6) (by simp [Bundle.messageArmAtoms]))
  cases Option.some.inj (hc1.symm.trans hfound)
  have hinit := Cond.initialized_spec hfound hk (a (.initialized cls) (by simp [Bundle.messageArmAtoms]))
  have hctor : kX.findMethod "<init>" "(Ljava/lang/String;)V" = some P1.m.idx := findMethod_of_methodNamed hP1m hk
  have hsel0 : selectMethod e.platform s.vm P1.m.cls T.fill0 = .method T.fill0 := by
    obtain ⟨c2, r2, m2, q1, q2, q3, q4, -⟩ := Cond.selects_spec (a (.selects cls Bundle.tFill0 Bundle.tFill0) (by simp [Bundle.messageArmAtoms]))
    cases Option.some.inj (q1.symm.trans hfound)
    cases Option.some.inj (q2.symm.trans (State.methodFound?_of_named Y.fill0 (by decide)))
    cases Option.some.inj (q3.symm.trans Y.fill0)
    rw [Launch.admits_selectMethod X.admits]; exact q4
  have hselF : selectMethod e.platform s.vm P1.m.cls T.fill = .method T.fill := by
    obtain ⟨c2, r2, m2, q1, q2, q3, q4, -⟩ := Cond.selects_spec (a (.selects cls Bundle.tFill Bundle.tFill) (by simp [Bundle.messageArmAtoms]))
    cases Option.some.inj (q1.symm.trans hfound)
    cases Option.some.inj (q2.symm.trans (State.methodFound?_of_named Y.fill (by decide)))
    cases Option.some.inj (q3.symm.trans Y.fill)
    rw [Launch.admits_selectMethod X.admits]; exact q4
  obtain ⟨cellS0, hcS0, hiss⟩ := Y.statics
  obtain ⟨u0, hu0⟩ := Cond.staticRefV Y.unassigned L.unassignedStatic L.statics hcS0 hiss (a (.isRef (.static Bundle.tN "UNASSIGNED_STACK" Bundle.steD)) (by simp [Bundle.messageArmAtoms]))
  obtain ⟨sen, hsen⟩ := Cond.staticRefV Y.sentinel L.sentinelStatic L.statics hcS0 hiss (a (.isRef (.static Bundle.tN "SUPPRESSED_SENTINEL" Bundle.listD)) (by simp [Bundle.messageArmAtoms]))
  obtain ⟨ci198, i198, fB, hk198, hg198, ha198, hsB, -, hnB, htB, hffB⟩ := Cond.ownField (t := .object "java/lang/Object") Y.found L.cls (by decide +kernel) (a (.fieldLink Bundle.tN 198 Bundle.tN "backtrace" "Ljava/lang/Object;") (by simp [Bundle.messageArmAtoms])) (a (.lays Bundle.tN Bundle.tN "backtrace" "Ljava/lang/Object;") (by simp [Bundle.messageArmAtoms])) e.platform hpl
  obtain ⟨cellS, hcS', heS, -, hkeep⟩ := X.same.2.2.2.2.2 T.aS cellS0 hcS0
  have hcellS : W.heap[T.aS]? = some cellS := hcS'
  have hout' : ∀ i, (⟨T.aS, i⟩ : Loc) ∉ locs := fun i hmem => by
    have := hlocs _ hmem cellS0 hcS0
    rw [hiss] at this; cases this
  have hknownS : cellS.vm ≠ .unknown := by
    rw [heS]; intro hu
    rw [show cellS0.vm = .unknown from hu] at hiss
    cases hiss
  have hvU : cellS.slots[T.fUnassigned.slot]? = some u0.v := by rw [hkeep _ (hout' _)]; exact hu0
  have hvSen : cellS.slots[T.fSentinel.slot]? = some sen.v := by rw [hkeep _ (hout' _)]; exact hsen
  obtain ⟨iM, hffM⟩ := Y.msg
  obtain ⟨tyC, dC, hdC, hdnC⟩ := Cond.laysAt hfound hk Y.cause (a (.lays cls Bundle.tN "cause" "Ljava/lang/Throwable;") (by simp [Bundle.messageArmAtoms]))
  obtain ⟨tyS, dS, hdS, hdnS⟩ := Cond.laysAt hfound hk Y.stack (a (.lays cls Bundle.tN "stackTrace" Bundle.steD) (by simp [Bundle.messageArmAtoms]))
  obtain ⟨tyP, dP, hdP, hdnP⟩ := Cond.laysAt hfound hk Y.supp (a (.lays cls Bundle.tN "suppressedExceptions" Bundle.listD) (by simp [Bundle.messageArmAtoms]))
  obtain ⟨tyM, dM, hdM, hdnM⟩ := Cond.laysAt hfound hk hffM (a (.lays cls Bundle.tN "detailMessage" "Ljava/lang/String;") (by simp [Bundle.messageArmAtoms]))
  obtain ⟨tyB, dB, hdB, hdnB⟩ := Cond.laysAt hfound hk hffB (a (.lays cls Bundle.tN "backtrace" "Ljava/lang/Object;") (by simp [Bundle.messageArmAtoms]))
  have bC := Cond.laysApart hdB hdC hdnB hdnC (by rw [hnB, Y.causeName]; decide)
  have bS := Cond.laysApart hdB hdS hdnB hdnS (by rw [hnB, Y.stackName]; decide)
  have bP := Cond.laysApart hdB hdP hdnB hdnP (by rw [hnB, Y.suppName]; decide)
  have hbk : ((preparedCellV T.toThrowableT (freshCell P1.m.cls kX) (W.heap.size + 2) u0 sen).withEntry W.cur).slots[fB.slot]? = some .null := by
    have := fresh_default (c := P1.m.cls) tyB
    rw [htB] at this
    simpa [preparedCellV, Cell.setSlot, Cell.withEntry, Array.getElem?_setIfInBounds, bC, bS, bP, bC.symm, bS.symm, bP.symm, defaultValue] using this
  have tkC := Takes.of_laid (v := .ref (W.heap.size + 2)) hk hord tyC (by rw [Y.causeType]; rfl)
  have tkS := Takes.of_laid (v := u0.v) hk hord tyS (by rw [Y.stackType]; exact fits_refV_array _ u0)
  have tkP := Takes.of_laid (v := sen.v) hk hord tyP (by rw [Y.suppType]; exact fits_refV_object _ sen)
  have tkM := Takes.of_laid (v := .ref (W.heap.size + 1)) hk hord tyM (by rw [Y.msgType]; rfl)
  have hskip : SkipFacts T e.platform s (fun u => u) u0 ((preparedCellV T.toThrowableT (freshCell P1.m.cls kX) (W.heap.size + 2) u0 sen).withEntry W.cur) := ⟨{ ci198 := ci198, i198 := i198, fBack := fB }, ⟨hk198, hg198, ha198, hsB⟩, hbk, fun _ _ => rfl⟩
  have h0 : At W g.method c below := by rw [hg]; exact X.here
  obtain ⟨hbeyond, hfreeW⟩ := X.vmMayThrow hsize (.throwNew cls (some text) none) (fun f hf => by cases hf) rfl hRlocals
  have hfr' : W.frames.length + Ps.length + 4 < (e.platform.stackLimits W.me).1 := by have := X.framesAbove hRframes; omega
  have hwd' : (stackUse (.java g :: W.frames.tail)).2 + 13 * Ps.length + 55 ≤ (e.platform.stackLimits W.me).2 := by have := X.stackAbove hsize (K := 13 * Ps.length + 55) (by omega); omega
  have hslots : W.slotsUsed + (stringBytes (stringToUtf16 text)).size + Zs.kS.instanceTypes.size + kX.instanceTypes.size ≤ e.platform.maxSlots := by
    have := X.slotsAbove hRslots
    rw [hn4, hn6]
    omega
  obtain ⟨vm', hW', st⟩ := Steps.vmThrowsMessageColdByV p (s₀ := s) (S := W) (g := g) h0 hexec T L Z LZ M LM X.warmed (t := W.cur) rfl Zs LZs P1 L1 Ps hL hlink1 hlink hsoe hoom hfound hk hinit hord hctor
    (Launch.admits_hotImplicitExceptions X.admits) hbeyond hfreeW htext hlimit hheap (X.cellsAbove hRcells) hslots (hfitv _) (hfitc _)
    (Nn := fun u => u) heapOnly_id (fun _ _ => rfl) (fun _ => rfl) (fun u x y => setCell_twice _ _ _ _) (fun _ => Nat.le_refl _) (cN := ((preparedCellV T.toThrowableT (freshCell P1.m.cls kX) (W.heap.size + 2) u0 sen).withEntry W.cur))
    hsel0 hcellS hknownS hvU tkS (fun _ hu => hu) (fun _ hu => hu) rfl rfl rfl (by simp [preparedCellV, Cell.setSlot, Cell.withEntry]) hskip (fun _ _ hA hW _ hroom _ hrest => L.nativeOff p htr hA hW hroom hrest) hselF hvSen tkC tkP tkM Y.objLocals rfl hfr' hwd'
  rw [plainBareV_eq T.toThrowableT (W.heap.size + 2) u0 sen (.ref (W.heap.size + 1)) W.cur rfl rfl] at st
  obtain ⟨-, -, w3, w4, -, -, -⟩ := withThrown_facts e.platform W Zs text P1.m.cls kX
  have X3 := ((X.pushed (bytesOf Zs.cB (stringToUtf16 text))).pushed (stringAt Zs.cS Zs.kS Zs.fv Zs.fc (stringToUtf16 text) W.heap.size)).pushed (freshCell P1.m.cls kX)
  rw [← withString_eq] at X3
  have X4 := X3.noted hW'
  have ha : (W.heap.size + 2) < ((withThrown W Zs text P1.m.cls kX).setVm vm').heap.size := by show _ < (withThrown W Zs text P1.m.cls kX).heap.size; rw [w3]; omega
  have hcell : ((withThrown W Zs text P1.m.cls kX).setVm vm').heap[(W.heap.size + 2)]? = some (freshCell P1.m.cls kX) := w4
  have X5 := ((((X4.stored hcell T.fCause.slot (.ref (W.heap.size + 2))).storedAgain ha T.fStack.slot u0.v).storedAgain ha T.fSupp.slot sen.v).storedAgain ha T.fStack.slot u0.v).storedAgain ha T.fMsg.slot (.ref (W.heap.size + 1))
  obtain ⟨g₁, hfrM⟩ := X5.frames_eq
  have hU : ((((withThrown W Zs text P1.m.cls kX).setVm vm').setCell (W.heap.size + 2) (plainBareV T.toThrowableT (freshCell P1.m.cls kX) (W.heap.size + 2) u0 sen (.ref (W.heap.size + 1)))).setTop g).pushFrame (.throwing (W.heap.size + 2)) = (((withThrown W Zs text P1.m.cls kX).setVm vm').setCell (W.heap.size + 2) (plainBareV T.toThrowableT (freshCell P1.m.cls kX) (W.heap.size + 2) u0 sen (.ref (W.heap.size + 1)))).setFrames (.throwing (W.heap.size + 2) :: .java g :: below) := by
    rw [State.pushFrame, State.frames_setTop _ hfrM, State.setTop_of_frames _ hfrM, State.setFrames_setFrames]
  have b1 : (bytesOf Zs.cB (stringToUtf16 text)).slots.size = (stringBytes (stringToUtf16 text)).size := by
    rw [(Cell.writeAll_facts _ _).2.2]; simp [bytes0]
  have b2 : (stringAt Zs.cS Zs.kS Zs.fv Zs.fc (stringToUtf16 text) W.heap.size).slots.size = 4 := by simp [string0, Cell.setSlot, hn4]
  have b3 : (freshCell P1.m.cls kX).slots.size = 6 := by simp [hn6]
  rw [b1, b2, b3] at X5
  have e9 : slots + (stringBytes (stringToUtf16 text)).size + 4 + 6 = slots + ((stringBytes (stringToUtf16 text)).size + 4 + 6) := by omega
  rw [e9] at X5
  simp only [List.append_assoc, List.cons_append, List.nil_append] at X5
  refine ⟨((withThrown W Zs text P1.m.cls kX).setVm vm').setCell (W.heap.size + 2) (plainBareV T.toThrowableT (freshCell P1.m.cls kX) (W.heap.size + 2) u0 sen (.ref (W.heap.size + 1))), W.heap.size + 2, _, fun target ht => st _ (by rw [X.tail, ← hU]; exact ht),
    X5.forget (fun y hy => ?_), heapAt_setCell_self _ ha, hfound, rfl⟩
  simp only [List.mem_cons, List.not_mem_nil, or_false] at hy
  have hge : s.heap.size ≤ W.heap.size := X.same.2.1
  rcases hy with rfl | rfl | rfl | rfl | rfl <;> exact Nat.le_trans hge (Nat.le_add_right _ 2)
set_option maxHeartbeats 1000000 in
/-- the machine throws NullPointerException, no traces kept: from its note over the frame g to 'throwing' over the same frame (follows the proof of Stand.vmThrowsNpe, Shelf42/KT2.lean; throwsNpeColdBareVAt, Shelf42/NT91.lean, called) -/
theorem vx_npeAt {p : Program} {l : Launch} {e : Env} {R : Room} {s : State} {m₀ : MethodId} {args : Array Value} {below : List Frame} {meth : Method} {c : Code} {W : State} {locs : List Loc} {cells slots : Nat}
    (X : Stand p l e R s m₀ args below meth c W locs cells slots) (hexec : p.tables.exec = Jvm.exec) (htr : e.platform.stackTraces = false) {n : Nat}
    (h : ∀ a ∈ Bundle.npeArmAtoms n, a.before args s = true)
    (hlocs : ∀ x ∈ locs, ∀ cell, s.heap[x.base]? = some cell → cell.vm.isStatics = false)
    {g : JFrame} (hg : g.method = m₀) (hsize : g.locals.size = c.maxLocals)
    (hRframes : 7 < R.frames) (hRlocals : 2 * g.monitorRoom + (g.stack.map fun v => v.category).sum + 10240 ≤ R.locals)
    (hRcells : cells + 1 ≤ R.cells) (hRslots : slots + n ≤ R.slots) (hlocks : meth.locks = false) :
    ∃ (S : State) (q : Addr) (ce : Cell), (∀ target, Steps p.tables e below ((S.setTop g).pushFrame (.throwing q)) target → Steps p.tables e below ((W.setTop g).pushFrame (.throwNew "java/lang/NullPointerException" none none)) target) ∧
      Stand p l e R s m₀ args below meth c S locs (cells + 1) (slots + n) ∧ S.heap[q]? = some ce ∧ s.vm.findClass "java/lang/NullPointerException" = some ce.cls ∧ ce.vm = .none := by
  have howns : e.platform.frameOwnsMonitors = true := by rw [X.admits.platform]
  have hfin : e.platform.finalization = false := by rw [X.admits.platform]
  have hpl : e.platform.magicAccessors = ({} : Platform).magicAccessors := by rw [X.admits.platform]
  have hpl2 : e.platform.arrayCloneIsPublic = true := by rw [X.admits.platform]
  have a' : ∀ x, x ∈ Bundle.npeArmAtoms n → x.holds args s none s [] = true := fun x hx => h x hx
  obtain ⟨T, Z, L, LZ, Y⟩ := ThrowableC.of_atoms (args := args) howns hfin hpl (fun x hx => h x (by simp [Bundle.npeArmAtoms, hx]))
  obtain ⟨N, LN, hcN, hnNF, hordN, hffS⟩ := NpeC.of_atoms (args := args) hpl hpl2 L Y (fun x hx => h x (by simp [Bundle.npeArmAtoms, hx]))
  obtain ⟨P1, L1, hP1m, hP1s⟩ := PassC.of_atoms (args := args) (s := s) hpl (X := Bundle.nN) (Y := Bundle.rN) (by decide) (by decide) LibCode.NullPointerException.Init0.at_0 LibCode.NullPointerException.Init0.at_1 LibCode.NullPointerException.Init0.at_4 (fun x hx => h x (by simp [Bundle.npeArmAtoms, hx]))
  obtain ⟨PR, LR, hPRm, hPRs⟩ := PassC.of_atoms (args := args) (s := s) hpl (X := Bundle.rN) (Y := Bundle.eN) (by decide) (by decide) LibCode.RuntimeException.Init0.at_0 LibCode.RuntimeException.Init0.at_1 LibCode.RuntimeException.Init0.at_4 (fun x hx => h x (by simp [Bundle.npeArmAtoms, hx]))
  obtain ⟨PE, LEx, hPEm, hPEs⟩ := PassC.of_atoms (args := args) (s := s) hpl (X := Bundle.eN) (Y := Bundle.tN) (by decide) (by decide) LibCode.Exception.Init0.at_0 LibCode.Exception.Init0.at_1 LibCode.Exception.Init0.at_4 (fun x hx => h x (by simp [Bundle.npeArmAtoms, hx]))
  have hfound : s.vm.findClass Bundle.nN = some P1.m.cls := findClass_of_methodNamed hP1m
  have ecls : N.cN = P1.m.cls := Option.some.inj (hcN.symm.trans hfound)
  have hk : s.vm.classes[P1.m.cls]? = some N.kN := by rw [← ecls]; exact LN.cls
  have hinit := Cond.initialized_spec hfound hk (a' (.initialized Bundle.nN) (by simp [Bundle.npeArmAtoms]))
  have hctor : N.kN.findMethod "<init>" "()V" = some P1.m.idx := findMethod_of_methodNamed hP1m hk
  obtain ⟨c1, k1, hc1, hk1, -, -, -, hn⟩ := Cond.instantiable_spec (a' (.instantiable Bundle.nN n) (by simp [Bundle.npeArmAtoms]))
  cases Option.some.inj (hc1.symm.trans hfound)
  cases Option.some.inj (hk1.symm.trans hk)
  have hfsz : (freshCell P1.m.cls N.kN).slots.size = n := by simp [hn]
  have hlink1 : P1.sup = PR.m := Option.some.inj (hP1s.symm.trans hPRm)
  have hlinkR : PR.sup = PE.m := Option.some.inj (hPRs.symm.trans hPEm)
  have hlinkE : PE.sup = Z.m T.toThrowableT := Option.some.inj (hPEs.symm.trans Y.init0)
  have hLs : ∀ P, P ∈ [PR, PE] → P.Links0 e.platform s := fun P hP => by
    simp only [List.mem_cons, List.not_mem_nil, or_false] at hP
    rcases hP with rfl | rfl
    · exact LR
    · exact LEx
  have hsel0 : selectMethod e.platform s.vm P1.m.cls T.fill0 = .method T.fill0 := by
    obtain ⟨c2, r2, m2, q1, q2, q3, q4, -⟩ := Cond.selects_spec (a' (.selects Bundle.nN Bundle.tFill0 Bundle.tFill0) (by simp [Bundle.npeArmAtoms]))
    cases Option.some.inj (q1.symm.trans hfound)
    cases Option.some.inj (q2.symm.trans (State.methodFound?_of_named Y.fill0 (by decide)))
    cases Option.some.inj (q3.symm.trans Y.fill0)
    rw [Launch.admits_selectMethod X.admits]; exact q4
  have hselF : selectMethod e.platform s.vm P1.m.cls T.fill = .method N.fill := by
    obtain ⟨c2, r2, m2, q1, q2, q3, q4, -⟩ := Cond.selects_spec (a' (.selects Bundle.nN Bundle.tFill Bundle.nFill) (by simp [Bundle.npeArmAtoms]))
    cases Option.some.inj (q1.symm.trans hfound)
    cases Option.some.inj (q2.symm.trans (State.methodFound?_of_named Y.fill (by decide)))
    cases Option.some.inj (q3.symm.trans hnNF)
    rw [Launch.admits_selectMethod X.admits]; exact q4
  obtain ⟨cellS0, hcS0, hiss⟩ := Y.statics
  obtain ⟨u0, hu0⟩ := Cond.staticRefV Y.unassigned L.unassignedStatic L.statics hcS0 hiss (a' (.isRef (.static Bundle.tN "UNASSIGNED_STACK" Bundle.steD)) (by simp [Bundle.npeArmAtoms]))
  obtain ⟨sen, hsen⟩ := Cond.staticRefV Y.sentinel L.sentinelStatic L.statics hcS0 hiss (a' (.isRef (.static Bundle.tN "SUPPRESSED_SENTINEL" Bundle.listD)) (by simp [Bundle.npeArmAtoms]))
  obtain ⟨ci198, i198, fB, hk198, hg198, ha198, hsB, -, hnB, htB, hffB⟩ := Cond.ownField (t := .object "java/lang/Object") Y.found L.cls (by decide +kernel) (a' (.fieldLink Bundle.tN 198 Bundle.tN "backtrace" Bundle.objD) (by simp [Bundle.npeArmAtoms])) (a' (.lays Bundle.tN Bundle.tN "backtrace" Bundle.objD) (by simp [Bundle.npeArmAtoms])) e.platform hpl
  obtain ⟨cellS, hcS', heS, -, hkeep⟩ := X.same.2.2.2.2.2 T.aS cellS0 hcS0
  have hcellS : W.heap[T.aS]? = some cellS := hcS'
  have hout' : ∀ i, (⟨T.aS, i⟩ : Loc) ∉ locs := fun i hmem => by
    have := hlocs _ hmem cellS0 hcS0
    rw [hiss] at this; cases this
  have hknownS : cellS.vm ≠ .unknown := by
    rw [heS]; intro hu
    rw [show cellS0.vm = .unknown from hu] at hiss
    cases hiss
  have hvU : cellS.slots[T.fUnassigned.slot]? = some u0.v := by rw [hkeep _ (hout' _)]; exact hu0
  have hvSen : cellS.slots[T.fSentinel.slot]? = some sen.v := by rw [hkeep _ (hout' _)]; exact hsen
  obtain ⟨tyC, dC, hdC, hdnC⟩ := Cond.laysAt hfound hk Y.cause (a' (.lays Bundle.nN Bundle.tN "cause" "Ljava/lang/Throwable;") (by simp [Bundle.npeArmAtoms]))
  obtain ⟨tyS, dS, hdS, hdnS⟩ := Cond.laysAt hfound hk Y.stack (a' (.lays Bundle.nN Bundle.tN "stackTrace" Bundle.steD) (by simp [Bundle.npeArmAtoms]))
  obtain ⟨tyP, dP, hdP, hdnP⟩ := Cond.laysAt hfound hk Y.supp (a' (.lays Bundle.nN Bundle.tN "suppressedExceptions" Bundle.listD) (by simp [Bundle.npeArmAtoms]))
  obtain ⟨tyX, dX, hdX, hdnX⟩ := Cond.laysAt hfound hk hffS (a' (.lays Bundle.nN Bundle.nN "extendedMessageState" "I") (by simp [Bundle.npeArmAtoms, Bundle.npeAtoms]))
  obtain ⟨hnX, htX⟩ := State.fieldFound?_type hffS (t := .int) (by decide +kernel)
  have xC := Cond.laysApart hdC hdX hdnC hdnX (by rw [hnX, Y.causeName]; decide)
  have xS := Cond.laysApart hdS hdX hdnS hdnX (by rw [hnX, Y.stackName]; decide)
  have xP := Cond.laysApart hdP hdX hdnP hdnX (by rw [hnX, Y.suppName]; decide)
  have hv0 : (freshCell P1.m.cls N.kN).slots[N.fState.slot]? = some (.int 0) := by
    have := fresh_default (c := P1.m.cls) tyX
    rw [htX] at this; exact this
  obtain ⟨tyB, dB, hdB, hdnB⟩ := Cond.laysAt hfound hk hffB (a' (.lays Bundle.nN Bundle.tN "backtrace" Bundle.objD) (by simp [Bundle.npeArmAtoms]))
  have bC := Cond.laysApart hdB hdC hdnB hdnC (by rw [hnB, Y.causeName]; decide)
  have bS := Cond.laysApart hdB hdS hdnB hdnS (by rw [hnB, Y.stackName]; decide)
  have bP := Cond.laysApart hdB hdP hdnB hdnP (by rw [hnB, Y.suppName]; decide)
  have bX := Cond.laysApart hdB hdX hdnB hdnX (by rw [hnB, hnX]; decide)
  have hbk : ((npeCell N.toNpeT (preparedCellV T.toThrowableT (freshCell P1.m.cls N.kN) W.heap.size u0 sen) W.cur).withEntry W.cur).slots[fB.slot]? = some .null := by
    have := fresh_default (c := P1.m.cls) tyB
    rw [htB] at this
    simpa [npeCell, preparedCellV, Cell.setSlot, Cell.withEntry, Array.getElem?_setIfInBounds, bC, bS, bP, bX, bC.symm, bS.symm, bP.symm, bX.symm, defaultValue] using this
  have tkC := Takes.of_laid (v := .ref W.heap.size) hk hordN tyC (by rw [Y.causeType]; rfl)
  have tkS := Takes.of_laid (v := u0.v) hk hordN tyS (by rw [Y.stackType]; exact fits_refV_array _ u0)
  have tkP := Takes.of_laid (v := sen.v) hk hordN tyP (by rw [Y.suppType]; exact fits_refV_object _ sen)
  have tkX := Takes.of_laid (v := .int 1) hk hordN tyX (by rw [htX]; rfl)
  have hskip : SkipFacts T e.platform s (fun u => u) u0 ((npeCell N.toNpeT (preparedCellV T.toThrowableT (freshCell P1.m.cls N.kN) W.heap.size u0 sen) W.cur).withEntry W.cur) := ⟨{ ci198 := ci198, i198 := i198, fBack := fB }, ⟨hk198, hg198, ha198, hsB⟩, hbk, fun _ _ => rfl⟩
  obtain ⟨vm', X3, st, -⟩ := X.throwsNpeColdBareVAt hexec hg hsize T L Z LZ N LN P1 L1 [PR, PE] hLs hlink1 ⟨hlinkR, hlinkE, trivial⟩ hfound hk hinit hordN hctor hsel0 hselF hcellS hknownS hvU hvSen
    hv0 xC xS xP tkC tkS tkP tkX Y.objLocals hskip (fun _ _ hA hW _ hroom _ hrest => L.nativeOff p htr hA hW hroom hrest) (by simpa using hRframes) hRlocals (by simp) hRcells (by rw [hn]; exact hRslots)
  have hlt : W.heap.size < ((W.pushCell (freshCell P1.m.cls N.kN)).setVm vm').heap.size := by
    show W.heap.size < (W.pushCell (freshCell P1.m.cls N.kN)).heap.size
    rw [State.heap_size_pushCell]; omega
  rw [hfsz] at X3
  obtain ⟨g₁, hfrM⟩ := X3.frames_eq
  have hU : ((((W.pushCell (freshCell P1.m.cls N.kN)).setVm vm').setCell W.heap.size (npeBareV T.toThrowableT N.toNpeT (freshCell P1.m.cls N.kN) W.heap.size u0 sen)).setTop g).pushFrame (.throwing W.heap.size) = (((W.pushCell (freshCell P1.m.cls N.kN)).setVm vm').setCell W.heap.size (npeBareV T.toThrowableT N.toNpeT (freshCell P1.m.cls N.kN) W.heap.size u0 sen)).setFrames (.throwing W.heap.size :: .java g :: below) := by
    rw [State.pushFrame, State.frames_setTop _ hfrM, State.setTop_of_frames _ hfrM, State.setFrames_setFrames]
  refine ⟨_, W.heap.size, _, fun target ht => st.trans (by rw [← hU]; exact ht), X3.forget (fun y hy => ?_), heapAt_setCell_self _ hlt, hfound, rfl⟩
  simp only [List.mem_cons, List.not_mem_nil, or_false] at hy
  have hge : s.heap.size ≤ W.heap.size := X.same.2.1
  rcases hy with rfl | rfl | rfl | rfl | rfl <;> exact hge
/-- the words of a machine's NullPointerException, but the four that speak of the heap -/
def vx_atN (n : Nat) : List Cond := (Bundle.npeArmAtoms n).filter vx_no
/-- the words of a machine's throw with a message, but the four that speak of the heap -/
def vx_atM (X : String) (names : List String) : List Cond := (Bundle.messageArmAtoms X names).filter vx_no
section
variable {p : Program} {l : Launch} {e : Env} {R : Room} {s : State} {m : MethodId} {args : Array Value} {below : List Frame} {meth : Method} {c : Code} {H : Heap} {locs : List Loc} {cells slots : Nat}
/-- a frame seen from a rebased start, seen from the first start again -/
theorem vx_back9 {T S : State} {R' : Room} {k n : Nat} (X : Stand p l e R s m args below meth c T locs cells slots) (Y : Stand p l e R' ((T.setVm s.vm).setFrames (.invoking m args :: below)) m args below meth c T [] 0 0) (Z : Stand p l e R' ((T.setVm s.vm).setFrames (.invoking m args :: below)) m args below meth c S [] k n) :
    Stand p l e R s m args below meth c S locs (cells + k) (slots + n) := by
  have hW0 : s.WarmedH ((T.setVm s.vm).setFrames (.invoking m args :: below)).vm := State.WarmedH.refl s
  refine { admits := X.admits, cas := X.cas, clock := X.clock, frames := X.frames, room := X.room, hears := X.hears, method := X.method, code := X.code, here := Z.here, tail := Z.tail, warmed := State.WarmedH.trans hW0 Z.warmed, limits := Z.limits.trans (Y.limits.symm.trans X.limits), bytes := Z.bytes.trans (Y.bytes.symm.trans X.bytes), same := ?_ }
  obtain ⟨e1, e2⟩ := Z.same
  rw [State.setFrames_setFrames] at e1
  have h2 : (T.setVm s.vm).sameButNew (S.setVm s.vm) [] k n := ⟨e1, e2⟩
  have h3 := X.same.trans h2
  rw [List.append_nil] at h3
  exact h3
/-- from the machine's note that E is thrown here with this text -/
def vx_Note (p : Program) (l : Launch) (e : Env) (R : Room) (s : State) (m : MethodId) (args : Array Value) (below : List Frame) (meth : Method) (c : Code) (H : Heap) (locs : List Loc) (cells slots : Nat) (Q : State → Prop) (g : JFrame) (E text : String) : Prop :=
  ∀ T : State, T.heap = H → Stand p l e R s m args below meth c T locs cells slots → ∃ t, Steps p.tables e below ((T.setTop g).pushFrame (.throwNew E (some text) none)) t ∧ Q t
theorem vx_vm {pc : Nat} {ls : Array Slot} {rest : List Value} {Q : State → Prop} (hexec : p.tables.exec = Jvm.exec) (hl : l.stackTraces = false) {cls text : String} {names : List String} {nb : Nat} {A : Nat → Prop}
    (hcls : Bundle.fit cls = true) (hnames : ∀ n ∈ names, Bundle.fit n = true) (hsoe : (cls == "java/lang/StackOverflowError") = false) (hoom : (cls == "java/lang/OutOfMemoryError") = false)
    (hat : ∀ w ∈ vx_atM cls names, w.before args s = true) (hgood : ∀ w ∈ vx_atM cls names, vx_ot w = true)
    (hU : vx_Zq Bundle.tN "UNASSIGNED_STACK" Bundle.steD A s s.heap) (hN : vx_Zq Bundle.tN "SUPPRESSED_SENTINEL" Bundle.listD A s s.heap) (hS : va_S A s.heap H locs) (hsize : ls.size = c.maxLocals)
    (htext : (text == notModelled) = false) (hnb : (stringBytes (stringToUtf16 text)).size ≤ nb) (hnb1 : nb ≤ 1000)
    (hRframes : names.length + 4 < R.frames) (hRlocals : (rest.map fun v => v.category).sum + 10240 ≤ R.locals) (hshort : 13 * names.length + 55 ≤ 10240) (hRcells : cells + 3 ≤ R.cells) (hRslots : slots + (nb + 10) ≤ R.slots) (hlocks : meth.locks = false)
    (k : ∀ (H1 : Heap) (q9 : Addr) (ce : Cell), H.size ≤ H1.size → (∀ q : Nat, q < H.size → H1[q]? = H[q]?) → va_S A s.heap H1 locs → H1[q9]? = some ce → ce.vm = .none → s.vm.findClass cls = some ce.cls → vx_W p l e R s m args below meth c H1 locs (cells + 3) (slots + (nb + 10)) Q (F0 m pc ls rest) q9) :
    vx_Note p l e R s m args below meth c H locs cells slots Q (F0 m pc ls rest) cls text := by
  intro T hT X
  have htr : e.platform.stackTraces = false := (show e.platform.stackTraces = l.stackTraces by rw [X.admits.platform]).trans hl
  have Y := vx_rebase X (R' := { frames := R.frames, locals := R.locals, cells := 3, slots := nb + 10 }) (Nat.le_refl _) (Nat.le_refl _) hRcells hRslots
  have hhp : ((T.setVm s.vm).setFrames (.invoking m args :: below)).heap = H := hT
  have hW0 : s.WarmedH ((T.setVm s.vm).setFrames (.invoking m args :: below)).vm := State.WarmedH.refl s
  have hat' : ∀ w ∈ vx_atM cls names, w.before args ((T.setVm s.vm).setFrames (.invoking m args :: below)) = true := fun w hw => vx_ot_at hW0 rfl (hgood w hw) (hat w hw)
  have hU' : vx_Zq Bundle.tN "UNASSIGNED_STACK" Bundle.steD A ((T.setVm s.vm).setFrames (.invoking m args :: below)) ((T.setVm s.vm).setFrames (.invoking m args :: below)).heap := by rw [hhp]; exact vx_Zq.moved hW0.alike (hU.kept hS.2.1)
  have hN' : vx_Zq Bundle.tN "SUPPRESSED_SENTINEL" Bundle.listD A ((T.setVm s.vm).setFrames (.invoking m args :: below)) ((T.setVm s.vm).setFrames (.invoking m args :: below)).heap := by rw [hhp]; exact vx_Zq.moved hW0.alike (hN.kept hS.2.1)
  obtain ⟨S, q, ce, st, Z, hce, hcl', hv⟩ := vx_vmAt Y hexec htr (cls := cls) (names := names) (text := text) hcls hnames hsoe hoom (vx_own hat' (vx_isRefq hU'.1) (vx_isRefq hN'.1) hU'.2.word hN'.2.word) (fun x hx => nomatch hx) htext
    (by rw [Launch.admits_arrayLengthLimit X.admits]; omega) (by rw [Launch.admits_maxHeapBytes X.admits]; simp only [componentBytes]; omega)
    (g := F0 m pc ls rest) rfl hsize hRframes (by show 2 * 0 + (rest.map fun v => v.category).sum + 10240 ≤ R.locals; omega) hshort (by show 0 + 3 ≤ 3; omega) (by show 0 + (_ + 4 + 6) ≤ nb + 10; omega) hlocks
  obtain ⟨f1, f2⟩ := vx_frame Z.same
  have f1' : H.size ≤ S.heap.size := by rw [← hT]; exact f1
  have f2' : ∀ q : Nat, q < H.size → S.heap[q]? = H[q]? := fun q hq => by
    rw [← hT]
    exact f2 q (by rw [← hT] at hq; exact hq) (fun z hz => nomatch hz)
  have X5 := vx_back9 X Y Z
  have X6 : Stand p l e R s m args below meth c S locs (cells + 3) (slots + (nb + 10)) := { X5 with same := X5.same.mono (by omega) (by omega) }
  obtain ⟨t, a1, b1⟩ := k S.heap q ce f1' f2' ⟨Nat.le_trans hS.1 f1', fun q h1 h2 => (f2' q (Nat.lt_of_lt_of_le h1 hS.1)).trans (hS.2.1 q h1 h2), hS.2.2⟩ hce hv hcl' S rfl X6
  exact ⟨t, st t a1, b1⟩
/-- from the machine's note that NullPointerException is thrown here -/
def vx_NoteN (p : Program) (l : Launch) (e : Env) (R : Room) (s : State) (m : MethodId) (args : Array Value) (below : List Frame) (meth : Method) (c : Code) (H : Heap) (locs : List Loc) (cells slots : Nat) (Q : State → Prop) (g : JFrame) : Prop :=
  ∀ T : State, T.heap = H → Stand p l e R s m args below meth c T locs cells slots → ∃ t, Steps p.tables e below ((T.setTop g).pushFrame (.throwNew "java/lang/NullPointerException" none none)) t ∧ Q t
theorem vx_npe {pc : Nat} {ls : Array Slot} {rest : List Value} {Q : State → Prop} (hexec : p.tables.exec = Jvm.exec) (hl : l.stackTraces = false) {nb : Nat} {A : Nat → Prop}
    (hat : ∀ w ∈ vx_atN nb, w.before args s = true) (hgood : ∀ w ∈ vx_atN nb, vx_ot w = true)
    (hU : vx_Zq Bundle.tN "UNASSIGNED_STACK" Bundle.steD A s s.heap) (hN : vx_Zq Bundle.tN "SUPPRESSED_SENTINEL" Bundle.listD A s s.heap) (hS : va_S A s.heap H locs) (hsize : ls.size = c.maxLocals)
    (hRframes : 7 < R.frames) (hRlocals : (rest.map fun v => v.category).sum + 10240 ≤ R.locals) (hRcells : cells + 1 ≤ R.cells) (hRslots : slots + nb ≤ R.slots) (hlocks : meth.locks = false)
    (k : ∀ (H1 : Heap) (q9 : Addr) (ce : Cell), H.size ≤ H1.size → (∀ q : Nat, q < H.size → H1[q]? = H[q]?) → va_S A s.heap H1 locs → H1[q9]? = some ce → ce.vm = .none → s.vm.findClass "java/lang/NullPointerException" = some ce.cls → vx_W p l e R s m args below meth c H1 locs (cells + 1) (slots + nb) Q (F0 m pc ls rest) q9) :
    vx_NoteN p l e R s m args below meth c H locs cells slots Q (F0 m pc ls rest) := by
  intro T hT X
  have htr : e.platform.stackTraces = false := (show e.platform.stackTraces = l.stackTraces by rw [X.admits.platform]).trans hl
  have Y := vx_rebase X (R' := { frames := R.frames, locals := R.locals, cells := 1, slots := nb }) (Nat.le_refl _) (Nat.le_refl _) hRcells hRslots
  have hhp : ((T.setVm s.vm).setFrames (.invoking m args :: below)).heap = H := hT
  have hW0 : s.WarmedH ((T.setVm s.vm).setFrames (.invoking m args :: below)).vm := State.WarmedH.refl s
  have hat' : ∀ w ∈ vx_atN nb, w.before args ((T.setVm s.vm).setFrames (.invoking m args :: below)) = true := fun w hw => vx_ot_at hW0 rfl (hgood w hw) (hat w hw)
  have hU' : vx_Zq Bundle.tN "UNASSIGNED_STACK" Bundle.steD A ((T.setVm s.vm).setFrames (.invoking m args :: below)) ((T.setVm s.vm).setFrames (.invoking m args :: below)).heap := by rw [hhp]; exact vx_Zq.moved hW0.alike (hU.kept hS.2.1)
  have hN' : vx_Zq Bundle.tN "SUPPRESSED_SENTINEL" Bundle.listD A ((T.setVm s.vm).setFrames (.invoking m args :: below)) ((T.setVm s.vm).setFrames (.invoking m args :: below)).heap := by rw [hhp]; exact vx_Zq.moved hW0.alike (hN.kept hS.2.1)
  obtain ⟨S, q, ce, st, Z, hce, hcl', hv⟩ := vx_npeAt Y hexec htr (n := nb) (vx_own hat' (vx_isRefq hU'.1) (vx_isRefq hN'.1) hU'.2.word hN'.2.word) (fun x hx => nomatch hx)
    (g := F0 m pc ls rest) rfl hsize hRframes (by show 2 * 0 + (rest.map fun v => v.category).sum + 10240 ≤ R.locals; omega) (by show 0 + 1 ≤ 1; omega) (by show 0 + nb ≤ nb; omega) hlocks
  obtain ⟨f1, f2⟩ := vx_frame Z.same
  have f1' : H.size ≤ S.heap.size := by rw [← hT]; exact f1
  have f2' : ∀ q : Nat, q < H.size → S.heap[q]? = H[q]? := fun q hq => by
    rw [← hT]
    exact f2 q (by rw [← hT] at hq; exact hq) (fun z hz => nomatch hz)
  have X5 := vx_back9 X Y Z
  have X6 : Stand p l e R s m args below meth c S locs (cells + 1) (slots + nb) := { X5 with same := X5.same.mono (by omega) (by omega) }
  obtain ⟨t, a1, b1⟩ := k S.heap q ce f1' f2' ⟨Nat.le_trans hS.1 f1', fun q h1 h2 => (f2' q (Nat.lt_of_lt_of_le h1 hS.1)).trans (hS.2.1 q h1 h2), hS.2.2⟩ hce hv hcl' S rfl X6
  exact ⟨t, st t a1, b1⟩
variable {Q : State → Prop} {cc : ByteArray} {pc : Nat} {ls : Array Slot} {rest : List Value}
theorem vx_idivZ (hexec : p.tables.exec = Jvm.exec) (hb : c.code = cc) {a b : Int32} (h0 : b = 0) (d : decode cc pc = .ok (.idiv, 1)) (k : vx_Note p l e R s m args below meth c H locs cells slots Q (F0 m pc ls rest) "java/lang/ArithmeticException" "/ by zero") :
    W p l e R s m args below meth c H locs cells slots Q (F0 m pc ls (.int b :: .int a :: rest)) := by
  intro T hT X
  obtain ⟨t, st, q⟩ := k T hT X
  exact ⟨t, X.idivZero hexec (g := F0 m pc ls (.int b :: .int a :: rest)) rfl (a := a) (rest := rest) (by rw [h0]) (by rw [hb]; exact d) t st, q⟩
theorem vx_iremZ (hexec : p.tables.exec = Jvm.exec) (hb : c.code = cc) {a b : Int32} (h0 : b = 0) (d : decode cc pc = .ok (.irem, 1)) (k : vx_Note p l e R s m args below meth c H locs cells slots Q (F0 m pc ls rest) "java/lang/ArithmeticException" "/ by zero") :
    W p l e R s m args below meth c H locs cells slots Q (F0 m pc ls (.int b :: .int a :: rest)) := by
  intro T hT X
  obtain ⟨t, st, q⟩ := k T hT X
  exact ⟨t, X.iremZero hexec (g := F0 m pc ls (.int b :: .int a :: rest)) rfl (a := a) (rest := rest) (by rw [h0]) (by rw [hb]; exact d) t st, q⟩
theorem vx_ldivZ (hexec : p.tables.exec = Jvm.exec) (hb : c.code = cc) {a b : Int64} (h0 : b = 0) (d : decode cc pc = .ok (.ldiv, 1)) (k : vx_Note p l e R s m args below meth c H locs cells slots Q (F0 m pc ls rest) "java/lang/ArithmeticException" "/ by zero") :
    W p l e R s m args below meth c H locs cells slots Q (F0 m pc ls (.long b :: .long a :: rest)) := by
  intro T hT X
  obtain ⟨t, st, q⟩ := k T hT X
  exact ⟨t, X.ldivZero hexec (g := F0 m pc ls (.long b :: .long a :: rest)) rfl (a := a) (rest := rest) (by rw [h0]) (by rw [hb]; exact d) t st, q⟩
theorem vx_lremZ (hexec : p.tables.exec = Jvm.exec) (hb : c.code = cc) {a b : Int64} (h0 : b = 0) (d : decode cc pc = .ok (.lrem, 1)) (k : vx_Note p l e R s m args below meth c H locs cells slots Q (F0 m pc ls rest) "java/lang/ArithmeticException" "/ by zero") :
    W p l e R s m args below meth c H locs cells slots Q (F0 m pc ls (.long b :: .long a :: rest)) := by
  intro T hT X
  obtain ⟨t, st, q⟩ := k T hT X
  exact ⟨t, X.lremZero hexec (g := F0 m pc ls (.long b :: .long a :: rest)) rfl (a := a) (rest := rest) (by rw [h0]) (by rw [hb]; exact d) t st, q⟩
theorem vx_ialdZ {D : va_G} {cl : List vw_C} {ws : va_W} {tys : List (ClassId × FieldType)} {a : Nat} (hexec : p.tables.exec = Jvm.exec) (hb : c.code = cc) (hK : va_K D cl tys s) (hP : va_P D cl ws H) (q0 t0 : Nat) {cA : ClassId} {n : Nat} {f : Nat → Int32} (ha : ws[q0]? = some (a, .inl (cA, n, .inl f))) (ht : tys[t0]? = some (cA, .int)) {i : Int32} (hout : ¬ vp_in i n) (hdg : decode cc pc = .ok (.iaload, 1))
    (k : ∀ tx : String, tx = (toString "Index " ++ toString i ++ toString " out of bounds for length " ++ toString n : String) → vx_Note p l e R s m args below meth c H locs cells slots Q (F0 m pc ls rest) "java/lang/ArrayIndexOutOfBoundsException" tx) : W p l e R s m args below meth c H locs cells slots Q (F0 m pc ls (.int i :: .ref a :: rest)) := by
  intro T hT X
  obtain ⟨t, st, q⟩ := k _ rfl T hT X
  refine ⟨t, ?_, q⟩
  have h1 := X.ialoadOut hexec (by rw [hT]; exact hP q0 _ ha) ((hK.2 t0 _ ht).1 n (fun j => .int (f j))) (j := i) (by show (i < 0 ∨ (arrV _ _ _).slots.size ≤ _); rw [arrV_size]; exact Classical.byContradiction hout) (g := F0 m pc ls (.int i :: .ref a :: rest)) rfl (rest := rest) rfl (by rw [hb]; exact hdg) t
  simp only [arrV_size] at h1
  exact h1 st
theorem vx_iastZ {D : va_G} {cl : List vw_C} {ws : va_W} {tys : List (ClassId × FieldType)} {a : Nat} (hexec : p.tables.exec = Jvm.exec) (hb : c.code = cc) (hK : va_K D cl tys s) (hP : va_P D cl ws H) (q0 t0 : Nat) {cA : ClassId} {n : Nat} {f : Nat → Int32} (ha : ws[q0]? = some (a, .inl (cA, n, .inl f))) (ht : tys[t0]? = some (cA, .int)) {i : Int32} {x : Int32} (hout : ¬ vp_in i n) (hdg : decode cc pc = .ok (.iastore, 1))
    (k : ∀ tx : String, tx = (toString "Index " ++ toString i ++ toString " out of bounds for length " ++ toString n : String) → vx_Note p l e R s m args below meth c H locs cells slots Q (F0 m pc ls rest) "java/lang/ArrayIndexOutOfBoundsException" tx) : W p l e R s m args below meth c H locs cells slots Q (F0 m pc ls (.int x :: .int i :: .ref a :: rest)) := by
  intro T hT X
  obtain ⟨t, st, q⟩ := k _ rfl T hT X
  refine ⟨t, ?_, q⟩
  have h1 := X.iastoreOut hexec (by rw [hT]; exact hP q0 _ ha) ((hK.2 t0 _ ht).1 n (fun j => .int (f j))) (j := i) (by show (i < 0 ∨ (arrV _ _ _).slots.size ≤ _); rw [arrV_size]; exact Classical.byContradiction hout) (g := F0 m pc ls (.int x :: .int i :: .ref a :: rest)) rfl (rest := rest) rfl (by rw [hb]; exact hdg) t
  simp only [arrV_size] at h1
  exact h1 st
theorem vx_baldZ {D : va_G} {cl : List vw_C} {ws : va_W} {tys : List (ClassId × FieldType)} {a : Nat} (hexec : p.tables.exec = Jvm.exec) (hb : c.code = cc) (hK : va_K D cl tys s) (hP : va_P D cl ws H) (q0 t0 : Nat) {cA : ClassId} {n : Nat} {f : Nat → Int32} (ha : ws[q0]? = some (a, .inl (cA, n, .inl f))) (ht : tys[t0]? = some (cA, .byte)) {i : Int32} (hout : ¬ vp_in i n) (hdg : decode cc pc = .ok (.baload, 1))
    (k : ∀ tx : String, tx = (toString "Index " ++ toString i ++ toString " out of bounds for length " ++ toString n : String) → vx_Note p l e R s m args below meth c H locs cells slots Q (F0 m pc ls rest) "java/lang/ArrayIndexOutOfBoundsException" tx) : W p l e R s m args below meth c H locs cells slots Q (F0 m pc ls (.int i :: .ref a :: rest)) := by
  intro T hT X
  obtain ⟨t, st, q⟩ := k _ rfl T hT X
  refine ⟨t, ?_, q⟩
  have h1 := X.baloadOut hexec (by rw [hT]; exact hP q0 _ ha) ((hK.2 t0 _ ht).1 n (fun j => .int (f j))) (j := i) (by show (i < 0 ∨ (arrV _ _ _).slots.size ≤ _); rw [arrV_size]; exact Classical.byContradiction hout) (g := F0 m pc ls (.int i :: .ref a :: rest)) rfl (rest := rest) rfl (by rw [hb]; exact hdg) t
  simp only [arrV_size] at h1
  exact h1 st
theorem vx_bastZ {D : va_G} {cl : List vw_C} {ws : va_W} {tys : List (ClassId × FieldType)} {a : Nat} (hexec : p.tables.exec = Jvm.exec) (hb : c.code = cc) (hK : va_K D cl tys s) (hP : va_P D cl ws H) (q0 t0 : Nat) {cA : ClassId} {n : Nat} {f : Nat → Int32} (ha : ws[q0]? = some (a, .inl (cA, n, .inl f))) (ht : tys[t0]? = some (cA, .byte)) {i : Int32} {x : Int32} (hout : ¬ vp_in i n) (hdg : decode cc pc = .ok (.bastore, 1))
    (k : ∀ tx : String, tx = (toString "Index " ++ toString i ++ toString " out of bounds for length " ++ toString n : String) → vx_Note p l e R s m args below meth c H locs cells slots Q (F0 m pc ls rest) "java/lang/ArrayIndexOutOfBoundsException" tx) : W p l e R s m args below meth c H locs cells slots Q (F0 m pc ls (.int x :: .int i :: .ref a :: rest)) := by
  intro T hT X
  obtain ⟨t, st, q⟩ := k _ rfl T hT X
  refine ⟨t, ?_, q⟩
  have h1 := X.bastoreOut hexec (by rw [hT]; exact hP q0 _ ha) ((hK.2 t0 _ ht).1 n (fun j => .int (f j))) (j := i) (by show (i < 0 ∨ (arrV _ _ _).slots.size ≤ _); rw [arrV_size]; exact Classical.byContradiction hout) (g := F0 m pc ls (.int x :: .int i :: .ref a :: rest)) rfl (rest := rest) rfl (by rw [hb]; exact hdg) t
  simp only [arrV_size] at h1
  exact h1 st
theorem vx_zaldZ {D : va_G} {cl : List vw_C} {ws : va_W} {tys : List (ClassId × FieldType)} {a : Nat} (hexec : p.tables.exec = Jvm.exec) (hb : c.code = cc) (hK : va_K D cl tys s) (hP : va_P D cl ws H) (q0 t0 : Nat) {cA : ClassId} {n : Nat} {f : Nat → Int32} (ha : ws[q0]? = some (a, .inl (cA, n, .inl f))) (ht : tys[t0]? = some (cA, .boolean)) {i : Int32} (hout : ¬ vp_in i n) (hdg : decode cc pc = .ok (.baload, 1))
    (k : ∀ tx : String, tx = (toString "Index " ++ toString i ++ toString " out of bounds for length " ++ toString n : String) → vx_Note p l e R s m args below meth c H locs cells slots Q (F0 m pc ls rest) "java/lang/ArrayIndexOutOfBoundsException" tx) : W p l e R s m args below meth c H locs cells slots Q (F0 m pc ls (.int i :: .ref a :: rest)) := by
  intro T hT X
  obtain ⟨t, st, q⟩ := k _ rfl T hT X
  refine ⟨t, ?_, q⟩
  have h1 := X.baloadOut hexec (by rw [hT]; exact hP q0 _ ha) ((hK.2 t0 _ ht).1 n (fun j => .int (f j))) (j := i) (by show (i < 0 ∨ (arrV _ _ _).slots.size ≤ _); rw [arrV_size]; exact Classical.byContradiction hout) (g := F0 m pc ls (.int i :: .ref a :: rest)) rfl (rest := rest) rfl (by rw [hb]; exact hdg) t
  simp only [arrV_size] at h1
  exact h1 st
theorem vx_zastZ {D : va_G} {cl : List vw_C} {ws : va_W} {tys : List (ClassId × FieldType)} {a : Nat} (hexec : p.tables.exec = Jvm.exec) (hb : c.code = cc) (hK : va_K D cl tys s) (hP : va_P D cl ws H) (q0 t0 : Nat) {cA : ClassId} {n : Nat} {f : Nat → Int32} (ha : ws[q0]? = some (a, .inl (cA, n, .inl f))) (ht : tys[t0]? = some (cA, .boolean)) {i : Int32} {x : Int32} (hout : ¬ vp_in i n) (hdg : decode cc pc = .ok (.bastore, 1))
    (k : ∀ tx : String, tx = (toString "Index " ++ toString i ++ toString " out of bounds for length " ++ toString n : String) → vx_Note p l e R s m args below meth c H locs cells slots Q (F0 m pc ls rest) "java/lang/ArrayIndexOutOfBoundsException" tx) : W p l e R s m args below meth c H locs cells slots Q (F0 m pc ls (.int x :: .int i :: .ref a :: rest)) := by
  intro T hT X
  obtain ⟨t, st, q⟩ := k _ rfl T hT X
  refine ⟨t, ?_, q⟩
  have h1 := X.bastoreOut hexec (by rw [hT]; exact hP q0 _ ha) ((hK.2 t0 _ ht).1 n (fun j => .int (f j))) (j := i) (by show (i < 0 ∨ (arrV _ _ _).slots.size ≤ _); rw [arrV_size]; exact Classical.byContradiction hout) (g := F0 m pc ls (.int x :: .int i :: .ref a :: rest)) rfl (rest := rest) rfl (by rw [hb]; exact hdg) t
  simp only [arrV_size] at h1
  exact h1 st
theorem vx_caldZ {D : va_G} {cl : List vw_C} {ws : va_W} {tys : List (ClassId × FieldType)} {a : Nat} (hexec : p.tables.exec = Jvm.exec) (hb : c.code = cc) (hK : va_K D cl tys s) (hP : va_P D cl ws H) (q0 t0 : Nat) {cA : ClassId} {n : Nat} {f : Nat → Int32} (ha : ws[q0]? = some (a, .inl (cA, n, .inl f))) (ht : tys[t0]? = some (cA, .char)) {i : Int32} (hout : ¬ vp_in i n) (hdg : decode cc pc = .ok (.caload, 1))
    (k : ∀ tx : String, tx = (toString "Index " ++ toString i ++ toString " out of bounds for length " ++ toString n : String) → vx_Note p l e R s m args below meth c H locs cells slots Q (F0 m pc ls rest) "java/lang/ArrayIndexOutOfBoundsException" tx) : W p l e R s m args below meth c H locs cells slots Q (F0 m pc ls (.int i :: .ref a :: rest)) := by
  intro T hT X
  obtain ⟨t, st, q⟩ := k _ rfl T hT X
  refine ⟨t, ?_, q⟩
  have h1 := X.caloadOut hexec (by rw [hT]; exact hP q0 _ ha) ((hK.2 t0 _ ht).1 n (fun j => .int (f j))) (j := i) (by show (i < 0 ∨ (arrV _ _ _).slots.size ≤ _); rw [arrV_size]; exact Classical.byContradiction hout) (g := F0 m pc ls (.int i :: .ref a :: rest)) rfl (rest := rest) rfl (by rw [hb]; exact hdg) t
  simp only [arrV_size] at h1
  exact h1 st
theorem vx_castZ {D : va_G} {cl : List vw_C} {ws : va_W} {tys : List (ClassId × FieldType)} {a : Nat} (hexec : p.tables.exec = Jvm.exec) (hb : c.code = cc) (hK : va_K D cl tys s) (hP : va_P D cl ws H) (q0 t0 : Nat) {cA : ClassId} {n : Nat} {f : Nat → Int32} (ha : ws[q0]? = some (a, .inl (cA, n, .inl f))) (ht : tys[t0]? = some (cA, .char)) {i : Int32} {x : Int32} (hout : ¬ vp_in i n) (hdg : decode cc pc = .ok (.castore, 1))
    (k : ∀ tx : String, tx = (toString "Index " ++ toString i ++ toString " out of bounds for length " ++ toString n : String) → vx_Note p l e R s m args below meth c H locs cells slots Q (F0 m pc ls rest) "java/lang/ArrayIndexOutOfBoundsException" tx) : W p l e R s m args below meth c H locs cells slots Q (F0 m pc ls (.int x :: .int i :: .ref a :: rest)) := by
  intro T hT X
  obtain ⟨t, st, q⟩ := k _ rfl T hT X
  refine ⟨t, ?_, q⟩
  have h1 := X.castoreOut hexec (by rw [hT]; exact hP q0 _ ha) ((hK.2 t0 _ ht).1 n (fun j => .int (f j))) (j := i) (by show (i < 0 ∨ (arrV _ _ _).slots.size ≤ _); rw [arrV_size]; exact Classical.byContradiction hout) (g := F0 m pc ls (.int x :: .int i :: .ref a :: rest)) rfl (rest := rest) rfl (by rw [hb]; exact hdg) t
  simp only [arrV_size] at h1
  exact h1 st
theorem vx_saldZ {D : va_G} {cl : List vw_C} {ws : va_W} {tys : List (ClassId × FieldType)} {a : Nat} (hexec : p.tables.exec = Jvm.exec) (hb : c.code = cc) (hK : va_K D cl tys s) (hP : va_P D cl ws H) (q0 t0 : Nat) {cA : ClassId} {n : Nat} {f : Nat → Int32} (ha : ws[q0]? = some (a, .inl (cA, n, .inl f))) (ht : tys[t0]? = some (cA, .short)) {i : Int32} (hout : ¬ vp_in i n) (hdg : decode cc pc = .ok (.saload, 1))
    (k : ∀ tx : String, tx = (toString "Index " ++ toString i ++ toString " out of bounds for length " ++ toString n : String) → vx_Note p l e R s m args below meth c H locs cells slots Q (F0 m pc ls rest) "java/lang/ArrayIndexOutOfBoundsException" tx) : W p l e R s m args below meth c H locs cells slots Q (F0 m pc ls (.int i :: .ref a :: rest)) := by
  intro T hT X
  obtain ⟨t, st, q⟩ := k _ rfl T hT X
  refine ⟨t, ?_, q⟩
  have h1 := X.saloadOut hexec (by rw [hT]; exact hP q0 _ ha) ((hK.2 t0 _ ht).1 n (fun j => .int (f j))) (j := i) (by show (i < 0 ∨ (arrV _ _ _).slots.size ≤ _); rw [arrV_size]; exact Classical.byContradiction hout) (g := F0 m pc ls (.int i :: .ref a :: rest)) rfl (rest := rest) rfl (by rw [hb]; exact hdg) t
  simp only [arrV_size] at h1
  exact h1 st
theorem vx_sastZ {D : va_G} {cl : List vw_C} {ws : va_W} {tys : List (ClassId × FieldType)} {a : Nat} (hexec : p.tables.exec = Jvm.exec) (hb : c.code = cc) (hK : va_K D cl tys s) (hP : va_P D cl ws H) (q0 t0 : Nat) {cA : ClassId} {n : Nat} {f : Nat → Int32} (ha : ws[q0]? = some (a, .inl (cA, n, .inl f))) (ht : tys[t0]? = some (cA, .short)) {i : Int32} {x : Int32} (hout : ¬ vp_in i n) (hdg : decode cc pc = .ok (.sastore, 1))
    (k : ∀ tx : String, tx = (toString "Index " ++ toString i ++ toString " out of bounds for length " ++ toString n : String) → vx_Note p l e R s m args below meth c H locs cells slots Q (F0 m pc ls rest) "java/lang/ArrayIndexOutOfBoundsException" tx) : W p l e R s m args below meth c H locs cells slots Q (F0 m pc ls (.int x :: .int i :: .ref a :: rest)) := by
  intro T hT X
  obtain ⟨t, st, q⟩ := k _ rfl T hT X
  refine ⟨t, ?_, q⟩
  have h1 := X.sastoreOut hexec (by rw [hT]; exact hP q0 _ ha) ((hK.2 t0 _ ht).1 n (fun j => .int (f j))) (j := i) (by show (i < 0 ∨ (arrV _ _ _).slots.size ≤ _); rw [arrV_size]; exact Classical.byContradiction hout) (g := F0 m pc ls (.int x :: .int i :: .ref a :: rest)) rfl (rest := rest) rfl (by rw [hb]; exact hdg) t
  simp only [arrV_size] at h1
  exact h1 st
theorem vx_laldZ {D : va_G} {cl : List vw_C} {ws : va_W} {tys : List (ClassId × FieldType)} {a : Nat} (hexec : p.tables.exec = Jvm.exec) (hb : c.code = cc) (hK : va_K D cl tys s) (hP : va_P D cl ws H) (q0 t0 : Nat) {cA : ClassId} {n : Nat} {f : Nat → Int64} (ha : ws[q0]? = some (a, .inl (cA, n, .inr (.inl f)))) (ht : tys[t0]? = some (cA, .long)) {i : Int32} (hout : ¬ vp_in i n) (hdg : decode cc pc = .ok (.laload, 1))
    (k : ∀ tx : String, tx = (toString "Index " ++ toString i ++ toString " out of bounds for length " ++ toString n : String) → vx_Note p l e R s m args below meth c H locs cells slots Q (F0 m pc ls rest) "java/lang/ArrayIndexOutOfBoundsException" tx) : W p l e R s m args below meth c H locs cells slots Q (F0 m pc ls (.int i :: .ref a :: rest)) := by
  intro T hT X
  obtain ⟨t, st, q⟩ := k _ rfl T hT X
  refine ⟨t, ?_, q⟩
  have h1 := X.laloadOut hexec (by rw [hT]; exact hP q0 _ ha) ((hK.2 t0 _ ht).1 n (fun j => .long (f j))) (j := i) (by show (i < 0 ∨ (arrV _ _ _).slots.size ≤ _); rw [arrV_size]; exact Classical.byContradiction hout) (g := F0 m pc ls (.int i :: .ref a :: rest)) rfl (rest := rest) rfl (by rw [hb]; exact hdg) t
  simp only [arrV_size] at h1
  exact h1 st
theorem vx_lastZ {D : va_G} {cl : List vw_C} {ws : va_W} {tys : List (ClassId × FieldType)} {a : Nat} (hexec : p.tables.exec = Jvm.exec) (hb : c.code = cc) (hK : va_K D cl tys s) (hP : va_P D cl ws H) (q0 t0 : Nat) {cA : ClassId} {n : Nat} {f : Nat → Int64} (ha : ws[q0]? = some (a, .inl (cA, n, .inr (.inl f)))) (ht : tys[t0]? = some (cA, .long)) {i : Int32} {x : Int64} (hout : ¬ vp_in i n) (hdg : decode cc pc = .ok (.lastore, 1))
    (k : ∀ tx : String, tx = (toString "Index " ++ toString i ++ toString " out of bounds for length " ++ toString n : String) → vx_Note p l e R s m args below meth c H locs cells slots Q (F0 m pc ls rest) "java/lang/ArrayIndexOutOfBoundsException" tx) : W p l e R s m args below meth c H locs cells slots Q (F0 m pc ls (.long x :: .int i :: .ref a :: rest)) := by
  intro T hT X
  obtain ⟨t, st, q⟩ := k _ rfl T hT X
  refine ⟨t, ?_, q⟩
  have h1 := X.lastoreOut hexec (by rw [hT]; exact hP q0 _ ha) ((hK.2 t0 _ ht).1 n (fun j => .long (f j))) (j := i) (by show (i < 0 ∨ (arrV _ _ _).slots.size ≤ _); rw [arrV_size]; exact Classical.byContradiction hout) (g := F0 m pc ls (.long x :: .int i :: .ref a :: rest)) rfl (rest := rest) rfl (by rw [hb]; exact hdg) t
  simp only [arrV_size] at h1
  exact h1 st
theorem vx_faldZ {D : va_G} {cl : List vw_C} {ws : va_W} {tys : List (ClassId × FieldType)} {a : Nat} (hexec : p.tables.exec = Jvm.exec) (hb : c.code = cc) (hK : va_K D cl tys s) (hP : va_P D cl ws H) (q0 t0 : Nat) {cA : ClassId} {n : Nat} {f : Nat → UInt32} (ha : ws[q0]? = some (a, .inl (cA, n, .inr (.inr (.inl f))))) (ht : tys[t0]? = some (cA, .float)) {i : Int32} (hout : ¬ vp_in i n) (hdg : decode cc pc = .ok (.faload, 1))
    (k : ∀ tx : String, tx = (toString "Index " ++ toString i ++ toString " out of bounds for length " ++ toString n : String) → vx_Note p l e R s m args below meth c H locs cells slots Q (F0 m pc ls rest) "java/lang/ArrayIndexOutOfBoundsException" tx) : W p l e R s m args below meth c H locs cells slots Q (F0 m pc ls (.int i :: .ref a :: rest)) := by
  intro T hT X
  obtain ⟨t, st, q⟩ := k _ rfl T hT X
  refine ⟨t, ?_, q⟩
  have h1 := X.faloadOut hexec (by rw [hT]; exact hP q0 _ ha) ((hK.2 t0 _ ht).1 n (fun j => .float (f j))) (j := i) (by show (i < 0 ∨ (arrV _ _ _).slots.size ≤ _); rw [arrV_size]; exact Classical.byContradiction hout) (g := F0 m pc ls (.int i :: .ref a :: rest)) rfl (rest := rest) rfl (by rw [hb]; exact hdg) t
  simp only [arrV_size] at h1
  exact h1 st
theorem vx_fastZ {D : va_G} {cl : List vw_C} {ws : va_W} {tys : List (ClassId × FieldType)} {a : Nat} (hexec : p.tables.exec = Jvm.exec) (hb : c.code = cc) (hK : va_K D cl tys s) (hP : va_P D cl ws H) (q0 t0 : Nat) {cA : ClassId} {n : Nat} {f : Nat → UInt32} (ha : ws[q0]? = some (a, .inl (cA, n, .inr (.inr (.inl f))))) (ht : tys[t0]? = some (cA, .float)) {i : Int32} {x : UInt32} (hout : ¬ vp_in i n) (hdg : decode cc pc = .ok (.fastore, 1))
    (k : ∀ tx : String, tx = (toString "Index " ++ toString i ++ toString " out of bounds for length " ++ toString n : String) → vx_Note p l e R s m args below meth c H locs cells slots Q (F0 m pc ls rest) "java/lang/ArrayIndexOutOfBoundsException" tx) : W p l e R s m args below meth c H locs cells slots Q (F0 m pc ls (.float x :: .int i :: .ref a :: rest)) := by
  intro T hT X
  obtain ⟨t, st, q⟩ := k _ rfl T hT X
  refine ⟨t, ?_, q⟩
  have h1 := X.fastoreOut hexec (by rw [hT]; exact hP q0 _ ha) ((hK.2 t0 _ ht).1 n (fun j => .float (f j))) (j := i) (by show (i < 0 ∨ (arrV _ _ _).slots.size ≤ _); rw [arrV_size]; exact Classical.byContradiction hout) (g := F0 m pc ls (.float x :: .int i :: .ref a :: rest)) rfl (rest := rest) rfl (by rw [hb]; exact hdg) t
  simp only [arrV_size] at h1
  exact h1 st
theorem vx_daldZ {D : va_G} {cl : List vw_C} {ws : va_W} {tys : List (ClassId × FieldType)} {a : Nat} (hexec : p.tables.exec = Jvm.exec) (hb : c.code = cc) (hK : va_K D cl tys s) (hP : va_P D cl ws H) (q0 t0 : Nat) {cA : ClassId} {n : Nat} {f : Nat → UInt64} (ha : ws[q0]? = some (a, .inl (cA, n, .inr (.inr (.inr (.inl f)))))) (ht : tys[t0]? = some (cA, .double)) {i : Int32} (hout : ¬ vp_in i n) (hdg : decode cc pc = .ok (.daload, 1))
    (k : ∀ tx : String, tx = (toString "Index " ++ toString i ++ toString " out of bounds for length " ++ toString n : String) → vx_Note p l e R s m args below meth c H locs cells slots Q (F0 m pc ls rest) "java/lang/ArrayIndexOutOfBoundsException" tx) : W p l e R s m args below meth c H locs cells slots Q (F0 m pc ls (.int i :: .ref a :: rest)) := by
  intro T hT X
  obtain ⟨t, st, q⟩ := k _ rfl T hT X
  refine ⟨t, ?_, q⟩
  have h1 := X.daloadOut hexec (by rw [hT]; exact hP q0 _ ha) ((hK.2 t0 _ ht).1 n (fun j => .double (f j))) (j := i) (by show (i < 0 ∨ (arrV _ _ _).slots.size ≤ _); rw [arrV_size]; exact Classical.byContradiction hout) (g := F0 m pc ls (.int i :: .ref a :: rest)) rfl (rest := rest) rfl (by rw [hb]; exact hdg) t
  simp only [arrV_size] at h1
  exact h1 st
theorem vx_dastZ {D : va_G} {cl : List vw_C} {ws : va_W} {tys : List (ClassId × FieldType)} {a : Nat} (hexec : p.tables.exec = Jvm.exec) (hb : c.code = cc) (hK : va_K D cl tys s) (hP : va_P D cl ws H) (q0 t0 : Nat) {cA : ClassId} {n : Nat} {f : Nat → UInt64} (ha : ws[q0]? = some (a, .inl (cA, n, .inr (.inr (.inr (.inl f)))))) (ht : tys[t0]? = some (cA, .double)) {i : Int32} {x : UInt64} (hout : ¬ vp_in i n) (hdg : decode cc pc = .ok (.dastore, 1))
    (k : ∀ tx : String, tx = (toString "Index " ++ toString i ++ toString " out of bounds for length " ++ toString n : String) → vx_Note p l e R s m args below meth c H locs cells slots Q (F0 m pc ls rest) "java/lang/ArrayIndexOutOfBoundsException" tx) : W p l e R s m args below meth c H locs cells slots Q (F0 m pc ls (.double x :: .int i :: .ref a :: rest)) := by
  intro T hT X
  obtain ⟨t, st, q⟩ := k _ rfl T hT X
  refine ⟨t, ?_, q⟩
  have h1 := X.dastoreOut hexec (by rw [hT]; exact hP q0 _ ha) ((hK.2 t0 _ ht).1 n (fun j => .double (f j))) (j := i) (by show (i < 0 ∨ (arrV _ _ _).slots.size ≤ _); rw [arrV_size]; exact Classical.byContradiction hout) (g := F0 m pc ls (.double x :: .int i :: .ref a :: rest)) rfl (rest := rest) rfl (by rw [hb]; exact hdg) t
  simp only [arrV_size] at h1
  exact h1 st
theorem vx_arraylengthN (hexec : p.tables.exec = Jvm.exec) (hb : c.code = cc) (hdg : decode cc pc = .ok (.arraylength, 1)) (k : vx_NoteN p l e R s m args below meth c H locs cells slots Q (F0 m pc ls rest)) : W p l e R s m args below meth c H locs cells slots Q (F0 m pc ls (.null :: rest)) := by
  intro T hT X
  obtain ⟨t, st, q⟩ := k T hT X
  exact ⟨t, X.arraylengthNull hexec (g := F0 m pc ls (.null :: rest)) rfl (rest := rest) rfl (by rw [hb]; exact hdg) t st, q⟩
theorem vx_ialoadN (hexec : p.tables.exec = Jvm.exec) (hb : c.code = cc) {i : Int32} (hdg : decode cc pc = .ok (.iaload, 1)) (k : vx_NoteN p l e R s m args below meth c H locs cells slots Q (F0 m pc ls rest)) : W p l e R s m args below meth c H locs cells slots Q (F0 m pc ls (.int i :: .null :: rest)) := by
  intro T hT X
  obtain ⟨t, st, q⟩ := k T hT X
  exact ⟨t, X.ialoadNull hexec (g := F0 m pc ls (.int i :: .null :: rest)) rfl (rest := rest) rfl (by rw [hb]; exact hdg) t st, q⟩
theorem vx_laloadN (hexec : p.tables.exec = Jvm.exec) (hb : c.code = cc) {i : Int32} (hdg : decode cc pc = .ok (.laload, 1)) (k : vx_NoteN p l e R s m args below meth c H locs cells slots Q (F0 m pc ls rest)) : W p l e R s m args below meth c H locs cells slots Q (F0 m pc ls (.int i :: .null :: rest)) := by
  intro T hT X
  obtain ⟨t, st, q⟩ := k T hT X
  exact ⟨t, X.laloadNull hexec (g := F0 m pc ls (.int i :: .null :: rest)) rfl (rest := rest) rfl (by rw [hb]; exact hdg) t st, q⟩
theorem vx_faloadN (hexec : p.tables.exec = Jvm.exec) (hb : c.code = cc) {i : Int32} (hdg : decode cc pc = .ok (.faload, 1)) (k : vx_NoteN p l e R s m args below meth c H locs cells slots Q (F0 m pc ls rest)) : W p l e R s m args below meth c H locs cells slots Q (F0 m pc ls (.int i :: .null :: rest)) := by
  intro T hT X
  obtain ⟨t, st, q⟩ := k T hT X
  exact ⟨t, X.faloadNull hexec (g := F0 m pc ls (.int i :: .null :: rest)) rfl (rest := rest) rfl (by rw [hb]; exact hdg) t st, q⟩
theorem vx_daloadN (hexec : p.tables.exec = Jvm.exec) (hb : c.code = cc) {i : Int32} (hdg : decode cc pc = .ok (.daload, 1)) (k : vx_NoteN p l e R s m args below meth c H locs cells slots Q (F0 m pc ls rest)) : W p l e R s m args below meth c H locs cells slots Q (F0 m pc ls (.int i :: .null :: rest)) := by
  intro T hT X
  obtain ⟨t, st, q⟩ := k T hT X
  exact ⟨t, X.daloadNull hexec (g := F0 m pc ls (.int i :: .null :: rest)) rfl (rest := rest) rfl (by rw [hb]; exact hdg) t st, q⟩
theorem vx_aaloadN (hexec : p.tables.exec = Jvm.exec) (hb : c.code = cc) {i : Int32} (hdg : decode cc pc = .ok (.aaload, 1)) (k : vx_NoteN p l e R s m args below meth c H locs cells slots Q (F0 m pc ls rest)) : W p l e R s m args below meth c H locs cells slots Q (F0 m pc ls (.int i :: .null :: rest)) := by
  intro T hT X
  obtain ⟨t, st, q⟩ := k T hT X
  exact ⟨t, X.aaloadNull hexec (g := F0 m pc ls (.int i :: .null :: rest)) rfl (rest := rest) rfl (by rw [hb]; exact hdg) t st, q⟩
theorem vx_baloadN (hexec : p.tables.exec = Jvm.exec) (hb : c.code = cc) {i : Int32} (hdg : decode cc pc = .ok (.baload, 1)) (k : vx_NoteN p l e R s m args below meth c H locs cells slots Q (F0 m pc ls rest)) : W p l e R s m args below meth c H locs cells slots Q (F0 m pc ls (.int i :: .null :: rest)) := by
  intro T hT X
  obtain ⟨t, st, q⟩ := k T hT X
  exact ⟨t, X.baloadNull hexec (g := F0 m pc ls (.int i :: .null :: rest)) rfl (rest := rest) rfl (by rw [hb]; exact hdg) t st, q⟩
theorem vx_caloadN (hexec : p.tables.exec = Jvm.exec) (hb : c.code = cc) {i : Int32} (hdg : decode cc pc = .ok (.caload, 1)) (k : vx_NoteN p l e R s m args below meth c H locs cells slots Q (F0 m pc ls rest)) : W p l e R s m args below meth c H locs cells slots Q (F0 m pc ls (.int i :: .null :: rest)) := by
  intro T hT X
  obtain ⟨t, st, q⟩ := k T hT X
  exact ⟨t, X.caloadNull hexec (g := F0 m pc ls (.int i :: .null :: rest)) rfl (rest := rest) rfl (by rw [hb]; exact hdg) t st, q⟩
theorem vx_saloadN (hexec : p.tables.exec = Jvm.exec) (hb : c.code = cc) {i : Int32} (hdg : decode cc pc = .ok (.saload, 1)) (k : vx_NoteN p l e R s m args below meth c H locs cells slots Q (F0 m pc ls rest)) : W p l e R s m args below meth c H locs cells slots Q (F0 m pc ls (.int i :: .null :: rest)) := by
  intro T hT X
  obtain ⟨t, st, q⟩ := k T hT X
  exact ⟨t, X.saloadNull hexec (g := F0 m pc ls (.int i :: .null :: rest)) rfl (rest := rest) rfl (by rw [hb]; exact hdg) t st, q⟩
theorem vx_iastoreN (hexec : p.tables.exec = Jvm.exec) (hb : c.code = cc) {x : Int32} {i : Int32} (hdg : decode cc pc = .ok (.iastore, 1)) (k : vx_NoteN p l e R s m args below meth c H locs cells slots Q (F0 m pc ls rest)) : W p l e R s m args below meth c H locs cells slots Q (F0 m pc ls (.int x :: .int i :: .null :: rest)) := by
  intro T hT X
  obtain ⟨t, st, q⟩ := k T hT X
  exact ⟨t, X.iastoreNull hexec (g := F0 m pc ls (.int x :: .int i :: .null :: rest)) rfl (rest := rest) rfl (by rw [hb]; exact hdg) t st, q⟩
theorem vx_lastoreN (hexec : p.tables.exec = Jvm.exec) (hb : c.code = cc) {x : Int64} {i : Int32} (hdg : decode cc pc = .ok (.lastore, 1)) (k : vx_NoteN p l e R s m args below meth c H locs cells slots Q (F0 m pc ls rest)) : W p l e R s m args below meth c H locs cells slots Q (F0 m pc ls (.long x :: .int i :: .null :: rest)) := by
  intro T hT X
  obtain ⟨t, st, q⟩ := k T hT X
  exact ⟨t, X.lastoreNull hexec (g := F0 m pc ls (.long x :: .int i :: .null :: rest)) rfl (rest := rest) rfl (by rw [hb]; exact hdg) t st, q⟩
theorem vx_fastoreN (hexec : p.tables.exec = Jvm.exec) (hb : c.code = cc) {x : UInt32} {i : Int32} (hdg : decode cc pc = .ok (.fastore, 1)) (k : vx_NoteN p l e R s m args below meth c H locs cells slots Q (F0 m pc ls rest)) : W p l e R s m args below meth c H locs cells slots Q (F0 m pc ls (.float x :: .int i :: .null :: rest)) := by
  intro T hT X
  obtain ⟨t, st, q⟩ := k T hT X
  exact ⟨t, X.fastoreNull hexec (g := F0 m pc ls (.float x :: .int i :: .null :: rest)) rfl (rest := rest) rfl (by rw [hb]; exact hdg) t st, q⟩
theorem vx_dastoreN (hexec : p.tables.exec = Jvm.exec) (hb : c.code = cc) {x : UInt64} {i : Int32} (hdg : decode cc pc = .ok (.dastore, 1)) (k : vx_NoteN p l e R s m args below meth c H locs cells slots Q (F0 m pc ls rest)) : W p l e R s m args below meth c H locs cells slots Q (F0 m pc ls (.double x :: .int i :: .null :: rest)) := by
  intro T hT X
  obtain ⟨t, st, q⟩ := k T hT X
  exact ⟨t, X.dastoreNull hexec (g := F0 m pc ls (.double x :: .int i :: .null :: rest)) rfl (rest := rest) rfl (by rw [hb]; exact hdg) t st, q⟩
theorem vx_bastoreN (hexec : p.tables.exec = Jvm.exec) (hb : c.code = cc) {x : Int32} {i : Int32} (hdg : decode cc pc = .ok (.bastore, 1)) (k : vx_NoteN p l e R s m args below meth c H locs cells slots Q (F0 m pc ls rest)) : W p l e R s m args below meth c H locs cells slots Q (F0 m pc ls (.int x :: .int i :: .null :: rest)) := by
  intro T hT X
  obtain ⟨t, st, q⟩ := k T hT X
  exact ⟨t, X.bastoreNull hexec (g := F0 m pc ls (.int x :: .int i :: .null :: rest)) rfl (rest := rest) rfl (by rw [hb]; exact hdg) t st, q⟩
theorem vx_castoreN (hexec : p.tables.exec = Jvm.exec) (hb : c.code = cc) {x : Int32} {i : Int32} (hdg : decode cc pc = .ok (.castore, 1)) (k : vx_NoteN p l e R s m args below meth c H locs cells slots Q (F0 m pc ls rest)) : W p l e R s m args below meth c H locs cells slots Q (F0 m pc ls (.int x :: .int i :: .null :: rest)) := by
  intro T hT X
  obtain ⟨t, st, q⟩ := k T hT X
  exact ⟨t, X.castoreNull hexec (g := F0 m pc ls (.int x :: .int i :: .null :: rest)) rfl (rest := rest) rfl (by rw [hb]; exact hdg) t st, q⟩
theorem vx_sastoreN (hexec : p.tables.exec = Jvm.exec) (hb : c.code = cc) {x : Int32} {i : Int32} (hdg : decode cc pc = .ok (.sastore, 1)) (k : vx_NoteN p l e R s m args below meth c H locs cells slots Q (F0 m pc ls rest)) : W p l e R s m args below meth c H locs cells slots Q (F0 m pc ls (.int x :: .int i :: .null :: rest)) := by
  intro T hT X
  obtain ⟨t, st, q⟩ := k T hT X
  exact ⟨t, X.sastoreNull hexec (g := F0 m pc ls (.int x :: .int i :: .null :: rest)) rfl (rest := rest) rfl (by rw [hb]; exact hdg) t st, q⟩
theorem vx_invokeN {own C : String} {index maxL : Nat} {y : MethodName} {bytes : ByteArray} {ret : Option FieldType} (hexec : p.tables.exec = Jvm.exec) (hb : c.code = cc) (hown : s.vm.findClass own = some m.cls) (hlink : (Cond.methodLink own index y).before args s = true) (hinst : (Cond.instanceMethod y).before args s = true) (hcode : (Cond.code y bytes maxL ret).before args s = true) (hsel : (Cond.selects C y y).before args s = true)
    (hx : y.cls ≠ "java/lang/invoke/MethodHandle" ∧ y.cls ≠ "java/lang/invoke/VarHandle") {As : List Value} (hlen : (parseMethodDescriptor y.desc).map (fun d => d.parameters.length) = some As.length) (hdg : decode cc pc = .ok (.invokevirtual index, 3))
    (k : vx_NoteN p l e R s m args below meth c H locs cells slots Q (F0 m pc ls rest)) {st0 : List Value} (hst : st0 = As.reverse ++ .null :: rest) : W p l e R s m args below meth c H locs cells slots Q (F0 m pc ls st0) := by
  intro T hT X
  obtain ⟨r0, r, hn, hrm, hstR, hsigR⟩ := va_Decl.of hinst hcode
  obtain ⟨c2, r2, m2, q1, q2, q3, q4, kP, hkP, hkPi⟩ := Cond.selects_spec hsel
  cases hn.symm.trans q3
  have hl9 : As.length = r.sig.parameters.length := by
    rw [hsigR] at hlen
    exact (Option.some.inj hlen).symm
  obtain ⟨vm', X1, st1⟩ := X.invokevirtualNull hexec hown hlink hn hrm hstR hkP hkPi hx (g := F0 m pc ls st0) rfl (argsL := As) (rest := rest) hl9 hst (by rw [hb]; exact hdg)
  obtain ⟨t, st, q⟩ := k (T.setVm vm') hT X1
  exact ⟨t, st1 t st, q⟩
theorem vx_newarrayZ {atype : ArrayType} (hexec : p.tables.exec = Jvm.exec) (hb : c.code = cc) {n : Int32} (h0 : n < 0) (hdg : decode cc pc = .ok (.newarray atype, 2)) (k : ∀ tx : String, tx = toString n → vx_Note p l e R s m args below meth c H locs cells slots Q (F0 m pc ls rest) "java/lang/NegativeArraySizeException" tx) : W p l e R s m args below meth c H locs cells slots Q (F0 m pc ls (.int n :: rest)) := by
  intro T hT X
  obtain ⟨t, st, q⟩ := k _ rfl T hT X
  exact ⟨t, X.newarrayNegative hexec (g := F0 m pc ls (.int n :: rest)) rfl h0 (rest := rest) rfl (by rw [hb]; exact hdg) t st, q⟩
end
end VXM
/-! ===== END ===== -/
end
section
def RX0 : String := "FountainShow$1"
def TX0 : u_T := fun k => match k with
  | _ => ("", "", "", false)
def tyX0 : Nat → FieldType := fun k => match k with
  | _ => .int
theorem nmX0 : ∀ a, a < 0 → ∀ b, b < 0 → a ≠ b → (TX0 a).2.1 ≠ (TX0 b).2.1 := by decide +kernel
theorem tyX0_ok : ∀ k, k < 0 → parseFieldDescriptor (TX0 k).2.2.1 = some (tyX0 k) := by decide +kernel
def RX1 : String := "FountainShow$Command"
def TX1 : u_T := fun k => match k with
  | _ => ("", "", "", false)
def tyX1 : Nat → FieldType := fun k => match k with
  | _ => .int
theorem nmX1 : ∀ a, a < 0 → ∀ b, b < 0 → a ≠ b → (TX1 a).2.1 ≠ (TX1 b).2.1 := by decide +kernel
theorem tyX1_ok : ∀ k, k < 0 → parseFieldDescriptor (TX1 k).2.2.1 = some (tyX1 k) := by decide +kernel
def RX2 : String := "FountainShow$Figures"
def TX2 : u_T := fun k => match k with
  | 0 => ("FountainShow$Figures", "stepCounts", "[I", true)
  | 1 => ("FountainShow$Figures", "delays", "[I", true)
  | 2 => ("FountainShow$Figures", "jets", "[I", true)
  | 3 => ("FountainShow$Figures", "openings", "[I", true)
  | _ => ("FountainShow$Figures", "count", "I", false)
def tyX2 : Nat → FieldType := fun k => match k with
  | 0 => .array .int
  | 1 => .array .int
  | 2 => .array .int
  | 3 => .array .int
  | _ => .int
theorem nmX2 : ∀ a, a < 5 → ∀ b, b < 5 → a ≠ b → (TX2 a).2.1 ≠ (TX2 b).2.1 := by decide +kernel
theorem tyX2_ok : ∀ k, k < 5 → parseFieldDescriptor (TX2 k).2.2.1 = some (tyX2 k) := by decide +kernel
abbrev cX2_init : ByteArray := prog_4_method_1_code
def yX2_init : MethodName := ⟨RX2, "<init>", "()V"⟩
abbrev cX2_copyFrom : ByteArray := prog_4_method_2_code
def yX2_copyFrom : MethodName := ⟨RX2, "copyFrom", "(LFountainShow$Figures;)V"⟩
abbrev cX2_has : ByteArray := prog_4_method_3_code
def yX2_has : MethodName := ⟨RX2, "has", "(I)Z"⟩
abbrev cX2_hasStep : ByteArray := prog_4_method_4_code
def yX2_hasStep : MethodName := ⟨RX2, "hasStep", "(II)Z"⟩
abbrev cX2_problemOfAdding : ByteArray := prog_4_method_5_code
def yX2_problemOfAdding : MethodName := ⟨RX2, "problemOfAdding", "()LFountainShow$Problem;"⟩
abbrev cX2_append : ByteArray := prog_4_method_6_code
def yX2_append : MethodName := ⟨RX2, "append", "()I"⟩
abbrev cX2_drop : ByteArray := prog_4_method_7_code
def yX2_drop : MethodName := ⟨RX2, "drop", "(I)I"⟩
abbrev cX2_moveStep : ByteArray := prog_4_method_8_code
def yX2_moveStep : MethodName := ⟨RX2, "moveStep", "(II)V"⟩
abbrev cX2_appendStep : ByteArray := prog_4_method_9_code
def yX2_appendStep : MethodName := ⟨RX2, "appendStep", "(IIII)I"⟩
abbrev cX2_dropStep : ByteArray := prog_4_method_10_code
def yX2_dropStep : MethodName := ⟨RX2, "dropStep", "(II)I"⟩
abbrev cX2_lengthOf : ByteArray := prog_4_method_11_code
def yX2_lengthOf : MethodName := ⟨RX2, "lengthOf", "(I)I"⟩
abbrev cX2_countUsing : ByteArray := prog_4_method_12_code
def yX2_countUsing : MethodName := ⟨RX2, "countUsing", "(I)I"⟩
abbrev cX2_uses : ByteArray := prog_4_method_13_code
def yX2_uses : MethodName := ⟨RX2, "uses", "(II)Z"⟩
abbrev cX2_forgetJet : ByteArray := prog_4_method_14_code
def yX2_forgetJet : MethodName := ⟨RX2, "forgetJet", "(I)I"⟩
abbrev cX2_forgetJetIn : ByteArray := prog_4_method_15_code
def yX2_forgetJetIn : MethodName := ⟨RX2, "forgetJetIn", "(II)I"⟩
def RX3 : String := "FountainShow$Jets"
def TX3 : u_T := fun k => match k with
  | 0 => ("FountainShow$Jets", "positions", "[I", true)
  | 1 => ("FountainShow$Jets", "openings", "[I", true)
  | 2 => ("FountainShow$Jets", "count", "I", false)
  | 3 => ("FountainShow$Jets", "capacity", "I", false)
  | _ => ("FountainShow$Jets", "wind", "I", false)
def tyX3 : Nat → FieldType := fun k => match k with
  | 0 => .array .int
  | 1 => .array .int
  | 2 => .int
  | 3 => .int
  | _ => .int
theorem nmX3 : ∀ a, a < 5 → ∀ b, b < 5 → a ≠ b → (TX3 a).2.1 ≠ (TX3 b).2.1 := by decide +kernel
theorem tyX3_ok : ∀ k, k < 5 → parseFieldDescriptor (TX3 k).2.2.1 = some (tyX3 k) := by decide +kernel
abbrev cX3_init : ByteArray := prog_5_method_1_code
def yX3_init : MethodName := ⟨RX3, "<init>", "()V"⟩
abbrev cX3_copyFrom : ByteArray := prog_5_method_2_code
def yX3_copyFrom : MethodName := ⟨RX3, "copyFrom", "(LFountainShow$Jets;)V"⟩
abbrev cX3_has : ByteArray := prog_5_method_3_code
def yX3_has : MethodName := ⟨RX3, "has", "(I)Z"⟩
abbrev cX3_problemOfAdding : ByteArray := prog_5_method_4_code
def yX3_problemOfAdding : MethodName := ⟨RX3, "problemOfAdding", "(I)LFountainShow$Problem;"⟩
abbrev cX3_isTaken : ByteArray := prog_5_method_5_code
def yX3_isTaken : MethodName := ⟨RX3, "isTaken", "(I)Z"⟩
abbrev cX3_append : ByteArray := prog_5_method_6_code
def yX3_append : MethodName := ⟨RX3, "append", "(I)I"⟩
abbrev cX3_drop : ByteArray := prog_5_method_7_code
def yX3_drop : MethodName := ⟨RX3, "drop", "(I)V"⟩
abbrev cX3_problemOfOpening : ByteArray := prog_5_method_8_code
def yX3_problemOfOpening : MethodName := ⟨RX3, "problemOfOpening", "(II)LFountainShow$Problem;"⟩
abbrev cX3_changeOpening : ByteArray := prog_5_method_9_code
def yX3_changeOpening : MethodName := ⟨RX3, "changeOpening", "(II)I"⟩
abbrev cX3_problemOfCapacity : ByteArray := prog_5_method_10_code
def yX3_problemOfCapacity : MethodName := ⟨RX3, "problemOfCapacity", "(I)LFountainShow$Problem;"⟩
abbrev cX3_changeCapacity : ByteArray := prog_5_method_11_code
def yX3_changeCapacity : MethodName := ⟨RX3, "changeCapacity", "(I)I"⟩
abbrev cX3_problemOfWind : ByteArray := prog_5_method_12_code
def yX3_problemOfWind : MethodName := ⟨RX3, "problemOfWind", "(I)LFountainShow$Problem;"⟩
abbrev cX3_changeWind : ByteArray := prog_5_method_13_code
def yX3_changeWind : MethodName := ⟨RX3, "changeWind", "(I)I"⟩
abbrev cX3_sumOfOpenings : ByteArray := prog_5_method_14_code
def yX3_sumOfOpenings : MethodName := ⟨RX3, "sumOfOpenings", "()I"⟩
abbrev cX3_supplyFor : ByteArray := prog_5_method_15_code
def yX3_supplyFor : MethodName := ⟨RX3, "supplyFor", "(I)I"⟩
abbrev cX3_heightOf : ByteArray := prog_5_method_16_code
def yX3_heightOf : MethodName := ⟨RX3, "heightOf", "(II)I"⟩
abbrev cX3_landingOf : ByteArray := prog_5_method_17_code
def yX3_landingOf : MethodName := ⟨RX3, "landingOf", "(II)I"⟩
abbrev cX3_isOutside : ByteArray := prog_5_method_18_code
def yX3_isOutside : MethodName := ⟨RX3, "isOutside", "(I)Z"⟩
abbrev cX3_countWild : ByteArray := prog_5_method_19_code
def yX3_countWild : MethodName := ⟨RX3, "countWild", "()I"⟩
abbrev cX3_findFirstWild : ByteArray := prog_5_method_20_code
def yX3_findFirstWild : MethodName := ⟨RX3, "findFirstWild", "()I"⟩
abbrev cX3_closeWildJets : ByteArray := prog_5_method_21_code
def yX3_closeWildJets : MethodName := ⟨RX3, "closeWildJets", "()I"⟩
abbrev cX3_findHighest : ByteArray := prog_5_method_22_code
def yX3_findHighest : MethodName := ⟨RX3, "findHighest", "()I"⟩
abbrev cX3_findByRank : ByteArray := prog_5_method_23_code
def yX3_findByRank : MethodName := ⟨RX3, "findByRank", "(I)I"⟩
abbrev cX3_rankOf : ByteArray := prog_5_method_24_code
def yX3_rankOf : MethodName := ⟨RX3, "rankOf", "(I)I"⟩
abbrev cX3_findNearestLanding : ByteArray := prog_5_method_25_code
def yX3_findNearestLanding : MethodName := ⟨RX3, "findNearestLanding", "(I)I"⟩
abbrev cX3_distance : ByteArray := prog_5_method_26_code
def yX3_distance : MethodName := ⟨RX3, "distance", "(III)J"⟩
abbrev cX3_countCrossingPairs : ByteArray := prog_5_method_27_code
def yX3_countCrossingPairs : MethodName := ⟨RX3, "countCrossingPairs", "()I"⟩
def RX4 : String := "FountainShow$LandingSorter"
def TX4 : u_T := fun k => match k with
  | 0 => ("FountainShow$LandingSorter", "landings", "[I", true)
  | _ => ("FountainShow$LandingSorter", "merged", "[I", true)
def tyX4 : Nat → FieldType := fun k => match k with
  | 0 => .array .int
  | _ => .array .int
theorem nmX4 : ∀ a, a < 2 → ∀ b, b < 2 → a ≠ b → (TX4 a).2.1 ≠ (TX4 b).2.1 := by decide +kernel
theorem tyX4_ok : ∀ k, k < 2 → parseFieldDescriptor (TX4 k).2.2.1 = some (tyX4 k) := by decide +kernel
abbrev cX4_init : ByteArray := prog_6_method_1_code
def yX4_init : MethodName := ⟨RX4, "<init>", "()V"⟩
abbrev cX4_countInversions : ByteArray := prog_6_method_2_code
def yX4_countInversions : MethodName := ⟨RX4, "countInversions", "(LFountainShow$Jets;)I"⟩
abbrev cX4_takeLandings : ByteArray := prog_6_method_3_code
def yX4_takeLandings : MethodName := ⟨RX4, "takeLandings", "(LFountainShow$Jets;)V"⟩
abbrev cX4_merge : ByteArray := prog_6_method_4_code
def yX4_merge : MethodName := ⟨RX4, "merge", "(III)I"⟩
def RX5 : String := "FountainShow$Problem"
def TX5 : u_T := fun k => match k with
  | _ => ("", "", "", false)
def tyX5 : Nat → FieldType := fun k => match k with
  | _ => .int
theorem nmX5 : ∀ a, a < 0 → ∀ b, b < 0 → a ≠ b → (TX5 a).2.1 ≠ (TX5 b).2.1 := by decide +kernel
theorem tyX5_ok : ∀ k, k < 0 → parseFieldDescriptor (TX5 k).2.2.1 = some (tyX5 k) := by decide +kernel
def RX6 : String := "FountainShow$Script"
def TX6 : u_T := fun k => match k with
  | 0 => ("FountainShow$Script", "text", "[C", true)
  | 1 => ("FountainShow$Script", "length", "I", false)
  | 2 => ("FountainShow$Script", "place", "I", false)
  | 3 => ("FountainShow$Script", "commandCount", "I", false)
  | 4 => ("FountainShow$Script", "command", "LFountainShow$Command;", false)
  | 5 => ("FountainShow$Script", "numbers", "[I", true)
  | _ => ("FountainShow$Script", "numberCount", "I", false)
def tyX6 : Nat → FieldType := fun k => match k with
  | 0 => .array .char
  | 1 => .int
  | 2 => .int
  | 3 => .int
  | 4 => .object "FountainShow$Command"
  | 5 => .array .int
  | _ => .int
theorem nmX6 : ∀ a, a < 7 → ∀ b, b < 7 → a ≠ b → (TX6 a).2.1 ≠ (TX6 b).2.1 := by decide +kernel
theorem tyX6_ok : ∀ k, k < 7 → parseFieldDescriptor (TX6 k).2.2.1 = some (tyX6 k) := by decide +kernel
abbrev cX6_init : ByteArray := prog_8_method_1_code
def yX6_init : MethodName := ⟨RX6, "<init>", "()V"⟩
abbrev cX6_isFull : ByteArray := prog_8_method_2_code
def yX6_isFull : MethodName := ⟨RX6, "isFull", "()Z"⟩
abbrev cX6_append : ByteArray := prog_8_method_3_code
def yX6_append : MethodName := ⟨RX6, "append", "(C)I"⟩
abbrev cX6_findError : ByteArray := prog_8_method_4_code
def yX6_findError : MethodName := ⟨RX6, "findError", "()I"⟩
abbrev cX6_skipSemicolon : ByteArray := prog_8_method_5_code
def yX6_skipSemicolon : MethodName := ⟨RX6, "skipSemicolon", "()Z"⟩
abbrev cX6_readCommand : ByteArray := prog_8_method_6_code
def yX6_readCommand : MethodName := ⟨RX6, "readCommand", "()Z"⟩
abbrev cX6_fits : ByteArray := prog_8_method_7_code
def yX6_fits : MethodName := ⟨RX6, "fits", "(Ljava/lang/String;)Z"⟩
abbrev cX6_takePart : ByteArray := prog_8_method_8_code
def yX6_takePart : MethodName := ⟨RX6, "takePart", "(C)Z"⟩
abbrev cX6_takeNumber : ByteArray := prog_8_method_9_code
def yX6_takeNumber : MethodName := ⟨RX6, "takeNumber", "(I)Z"⟩
abbrev cX6_standsAtDigit : ByteArray := prog_8_method_10_code
def yX6_standsAtDigit : MethodName := ⟨RX6, "standsAtDigit", "()Z"⟩
abbrev cX6_takeSign : ByteArray := prog_8_method_11_code
def yX6_takeSign : MethodName := ⟨RX6, "takeSign", "()Z"⟩
abbrev cX6_takeCharacter : ByteArray := prog_8_method_12_code
def yX6_takeCharacter : MethodName := ⟨RX6, "takeCharacter", "(C)Z"⟩
abbrev cX6_keepNumber : ByteArray := prog_8_method_13_code
def yX6_keepNumber : MethodName := ⟨RX6, "keepNumber", "(I)V"⟩
def RX7 : String := "FountainShow$Stage"
def TX7 : u_T := fun k => match k with
  | 0 => ("FountainShow$Stage", "jets", "LFountainShow$Jets;", true)
  | 1 => ("FountainShow$Stage", "figures", "LFountainShow$Figures;", true)
  | 2 => ("FountainShow$Stage", "entryFigures", "[I", true)
  | 3 => ("FountainShow$Stage", "entryStarts", "[I", true)
  | 4 => ("FountainShow$Stage", "entryCount", "I", false)
  | 5 => ("FountainShow$Stage", "beat", "I", false)
  | 6 => ("FountainShow$Stage", "pumped", "J", false)
  | _ => ("FountainShow$Stage", "shortage", "J", false)
def tyX7 : Nat → FieldType := fun k => match k with
  | 0 => .object "FountainShow$Jets"
  | 1 => .object "FountainShow$Figures"
  | 2 => .array .int
  | 3 => .array .int
  | 4 => .int
  | 5 => .int
  | 6 => .long
  | _ => .long
theorem nmX7 : ∀ a, a < 8 → ∀ b, b < 8 → a ≠ b → (TX7 a).2.1 ≠ (TX7 b).2.1 := by decide +kernel
theorem tyX7_ok : ∀ k, k < 8 → parseFieldDescriptor (TX7 k).2.2.1 = some (tyX7 k) := by decide +kernel
abbrev cX7_init : ByteArray := prog_9_method_1_code
def yX7_init : MethodName := ⟨RX7, "<init>", "()V"⟩
abbrev cX7_copyFrom : ByteArray := prog_9_method_2_code
def yX7_copyFrom : MethodName := ⟨RX7, "copyFrom", "(LFountainShow$Stage;)V"⟩
abbrev cX7_dropJet : ByteArray := prog_9_method_3_code
def yX7_dropJet : MethodName := ⟨RX7, "dropJet", "(I)I"⟩
abbrev cX7_problemOfDroppingFigure : ByteArray := prog_9_method_4_code
def yX7_problemOfDroppingFigure : MethodName := ⟨RX7, "problemOfDroppingFigure", "(I)LFountainShow$Problem;"⟩
abbrev cX7_dropFigure : ByteArray := prog_9_method_5_code
def yX7_dropFigure : MethodName := ⟨RX7, "dropFigure", "(I)I"⟩
abbrev cX7_problemOfStep : ByteArray := prog_9_method_6_code
def yX7_problemOfStep : MethodName := ⟨RX7, "problemOfStep", "(IIII)LFountainShow$Problem;"⟩
abbrev cX7_problemOfPlaying : ByteArray := prog_9_method_7_code
def yX7_problemOfPlaying : MethodName := ⟨RX7, "problemOfPlaying", "(II)LFountainShow$Problem;"⟩
abbrev cX7_appendEntry : ByteArray := prog_9_method_8_code
def yX7_appendEntry : MethodName := ⟨RX7, "appendEntry", "(II)I"⟩
abbrev cX7_dropEntry : ByteArray := prog_9_method_9_code
def yX7_dropEntry : MethodName := ⟨RX7, "dropEntry", "(I)I"⟩
abbrev cX7_moveEntry : ByteArray := prog_9_method_10_code
def yX7_moveEntry : MethodName := ⟨RX7, "moveEntry", "(II)V"⟩
abbrev cX7_problemOfPassing : ByteArray := prog_9_method_11_code
def yX7_problemOfPassing : MethodName := ⟨RX7, "problemOfPassing", "(I)LFountainShow$Problem;"⟩
abbrev cX7_passBeats : ByteArray := prog_9_method_12_code
def yX7_passBeats : MethodName := ⟨RX7, "passBeats", "(I)I"⟩
abbrev cX7_passOneBeat : ByteArray := prog_9_method_13_code
def yX7_passOneBeat : MethodName := ⟨RX7, "passOneBeat", "()I"⟩
abbrev cX7_happenDueSteps : ByteArray := prog_9_method_14_code
def yX7_happenDueSteps : MethodName := ⟨RX7, "happenDueSteps", "(I)V"⟩
abbrev cX7_dropFinishedEntries : ByteArray := prog_9_method_15_code
def yX7_dropFinishedEntries : MethodName := ⟨RX7, "dropFinishedEntries", "()I"⟩
abbrev cX7_beatsToEmptyQueue : ByteArray := prog_9_method_16_code
def yX7_beatsToEmptyQueue : MethodName := ⟨RX7, "beatsToEmptyQueue", "()I"⟩
abbrev cX7_demandFromLastSteps : ByteArray := prog_9_method_17_code
def yX7_demandFromLastSteps : MethodName := ⟨RX7, "demandFromLastSteps", "(I)I"⟩
abbrev cX7_openingFromLastStep : ByteArray := prog_9_method_18_code
def yX7_openingFromLastStep : MethodName := ⟨RX7, "openingFromLastStep", "(II)I"⟩
abbrev cX7_problemOf : ByteArray := prog_9_method_19_code
def yX7_problemOf : MethodName := ⟨RX7, "problemOf", "(LFountainShow$Command;[I)LFountainShow$Problem;"⟩
abbrev cX7_carryOut : ByteArray := prog_9_method_20_code
def yX7_carryOut : MethodName := ⟨RX7, "carryOut", "(LFountainShow$Command;[I)V"⟩
def RX8 : String := "FountainShow"
def TX8 : u_T := fun k => match k with
  | 0 => ("FountainShow", "stage", "LFountainShow$Stage;", true)
  | 1 => ("FountainShow", "trial", "LFountainShow$Stage;", true)
  | 2 => ("FountainShow", "saved", "LFountainShow$Stage;", true)
  | 3 => ("FountainShow", "isSaved", "Z", false)
  | 4 => ("FountainShow", "history", "[LFountainShow$Stage;", true)
  | 5 => ("FountainShow", "historyNext", "I", false)
  | 6 => ("FountainShow", "historyCount", "I", false)
  | 7 => ("FountainShow", "sorter", "LFountainShow$LandingSorter;", true)
  | 8 => ("FountainShow", "script", "LFountainShow$Script;", true)
  | 9 => ("FountainShow", "output", "Ljava/lang/StringBuilder;", true)
  | 10 => ("FountainShow", "keptErrorPosition", "I", false)
  | _ => ("FountainShow", "keptFailedCommand", "I", false)
def tyX8 : Nat → FieldType := fun k => match k with
  | 0 => .object "FountainShow$Stage"
  | 1 => .object "FountainShow$Stage"
  | 2 => .object "FountainShow$Stage"
  | 3 => .boolean
  | 4 => .array (.object "FountainShow$Stage")
  | 5 => .int
  | 6 => .int
  | 7 => .object "FountainShow$LandingSorter"
  | 8 => .object "FountainShow$Script"
  | 9 => .object "java/lang/StringBuilder"
  | 10 => .int
  | _ => .int
theorem nmX8 : ∀ a, a < 12 → ∀ b, b < 12 → a ≠ b → (TX8 a).2.1 ≠ (TX8 b).2.1 := by decide +kernel
theorem tyX8_ok : ∀ k, k < 12 → parseFieldDescriptor (TX8 k).2.2.1 = some (tyX8 k) := by decide +kernel
abbrev cX8_init : ByteArray := prog_1_method_1_code
def yX8_init : MethodName := ⟨RX8, "<init>", "()V"⟩
abbrev cX8_addJet : ByteArray := prog_1_method_2_code
def yX8_addJet : MethodName := ⟨RX8, "addJet", "(I)I"⟩
abbrev cX8_removeJet : ByteArray := prog_1_method_3_code
def yX8_removeJet : MethodName := ⟨RX8, "removeJet", "(I)I"⟩
abbrev cX8_setOpening : ByteArray := prog_1_method_4_code
def yX8_setOpening : MethodName := ⟨RX8, "setOpening", "(II)I"⟩
abbrev cX8_jetCount : ByteArray := prog_1_method_5_code
def yX8_jetCount : MethodName := ⟨RX8, "jetCount", "()I"⟩
abbrev cX8_position : ByteArray := prog_1_method_6_code
def yX8_position : MethodName := ⟨RX8, "position", "(I)I"⟩
abbrev cX8_opening : ByteArray := prog_1_method_7_code
def yX8_opening : MethodName := ⟨RX8, "opening", "(I)I"⟩
abbrev cX8_height : ByteArray := prog_1_method_8_code
def yX8_height : MethodName := ⟨RX8, "height", "(I)I"⟩
abbrev cX8_landing : ByteArray := prog_1_method_9_code
def yX8_landing : MethodName := ⟨RX8, "landing", "(I)I"⟩
abbrev cX8_isWild : ByteArray := prog_1_method_10_code
def yX8_isWild : MethodName := ⟨RX8, "isWild", "(I)Z"⟩
abbrev cX8_wildCount : ByteArray := prog_1_method_11_code
def yX8_wildCount : MethodName := ⟨RX8, "wildCount", "()I"⟩
abbrev cX8_highestJet : ByteArray := prog_1_method_12_code
def yX8_highestJet : MethodName := ⟨RX8, "highestJet", "()I"⟩
abbrev cX8_jetByPosition : ByteArray := prog_1_method_13_code
def yX8_jetByPosition : MethodName := ⟨RX8, "jetByPosition", "(I)I"⟩
abbrev cX8_nearestLanding : ByteArray := prog_1_method_14_code
def yX8_nearestLanding : MethodName := ⟨RX8, "nearestLanding", "(I)I"⟩
abbrev cX8_crossings : ByteArray := prog_1_method_15_code
def yX8_crossings : MethodName := ⟨RX8, "crossings", "()I"⟩
abbrev cX8_crossingsByMerging : ByteArray := prog_1_method_16_code
def yX8_crossingsByMerging : MethodName := ⟨RX8, "crossingsByMerging", "()I"⟩
abbrev cX8_setCapacity : ByteArray := prog_1_method_17_code
def yX8_setCapacity : MethodName := ⟨RX8, "setCapacity", "(I)I"⟩
abbrev cX8_setWind : ByteArray := prog_1_method_18_code
def yX8_setWind : MethodName := ⟨RX8, "setWind", "(I)I"⟩
abbrev cX8_trim : ByteArray := prog_1_method_19_code
def yX8_trim : MethodName := ⟨RX8, "trim", "()I"⟩
abbrev cX8_capacity : ByteArray := prog_1_method_20_code
def yX8_capacity : MethodName := ⟨RX8, "capacity", "()I"⟩
abbrev cX8_wind : ByteArray := prog_1_method_21_code
def yX8_wind : MethodName := ⟨RX8, "wind", "()I"⟩
abbrev cX8_demand : ByteArray := prog_1_method_22_code
def yX8_demand : MethodName := ⟨RX8, "demand", "()I"⟩
abbrev cX8_supply : ByteArray := prog_1_method_23_code
def yX8_supply : MethodName := ⟨RX8, "supply", "()I"⟩
abbrev cX8_pumped : ByteArray := prog_1_method_24_code
def yX8_pumped : MethodName := ⟨RX8, "pumped", "()J"⟩
abbrev cX8_shortage : ByteArray := prog_1_method_25_code
def yX8_shortage : MethodName := ⟨RX8, "shortage", "()J"⟩
abbrev cX8_addFigure : ByteArray := prog_1_method_26_code
def yX8_addFigure : MethodName := ⟨RX8, "addFigure", "()I"⟩
abbrev cX8_removeFigure : ByteArray := prog_1_method_27_code
def yX8_removeFigure : MethodName := ⟨RX8, "removeFigure", "(I)I"⟩
abbrev cX8_addStep : ByteArray := prog_1_method_28_code
def yX8_addStep : MethodName := ⟨RX8, "addStep", "(IIII)I"⟩
abbrev cX8_removeStep : ByteArray := prog_1_method_29_code
def yX8_removeStep : MethodName := ⟨RX8, "removeStep", "(II)I"⟩
abbrev cX8_figureCount : ByteArray := prog_1_method_30_code
def yX8_figureCount : MethodName := ⟨RX8, "figureCount", "()I"⟩
abbrev cX8_stepCount : ByteArray := prog_1_method_31_code
def yX8_stepCount : MethodName := ⟨RX8, "stepCount", "(I)I"⟩
abbrev cX8_stepDelay : ByteArray := prog_1_method_32_code
def yX8_stepDelay : MethodName := ⟨RX8, "stepDelay", "(II)I"⟩
abbrev cX8_stepJet : ByteArray := prog_1_method_33_code
def yX8_stepJet : MethodName := ⟨RX8, "stepJet", "(II)I"⟩
abbrev cX8_stepOpening : ByteArray := prog_1_method_34_code
def yX8_stepOpening : MethodName := ⟨RX8, "stepOpening", "(II)I"⟩
abbrev cX8_figureLength : ByteArray := prog_1_method_35_code
def yX8_figureLength : MethodName := ⟨RX8, "figureLength", "(I)I"⟩
abbrev cX8_figuresUsing : ByteArray := prog_1_method_36_code
def yX8_figuresUsing : MethodName := ⟨RX8, "figuresUsing", "(I)I"⟩
abbrev cX8_play : ByteArray := prog_1_method_37_code
def yX8_play : MethodName := ⟨RX8, "play", "(II)I"⟩
abbrev cX8_cancel : ByteArray := prog_1_method_38_code
def yX8_cancel : MethodName := ⟨RX8, "cancel", "(I)I"⟩
abbrev cX8_pass : ByteArray := prog_1_method_39_code
def yX8_pass : MethodName := ⟨RX8, "pass", "(I)I"⟩
abbrev cX8_beat : ByteArray := prog_1_method_40_code
def yX8_beat : MethodName := ⟨RX8, "beat", "()I"⟩
abbrev cX8_queueLength : ByteArray := prog_1_method_41_code
def yX8_queueLength : MethodName := ⟨RX8, "queueLength", "()I"⟩
abbrev cX8_entryFigure : ByteArray := prog_1_method_42_code
def yX8_entryFigure : MethodName := ⟨RX8, "entryFigure", "(I)I"⟩
abbrev cX8_entryStart : ByteArray := prog_1_method_43_code
def yX8_entryStart : MethodName := ⟨RX8, "entryStart", "(I)I"⟩
abbrev cX8_beatsUntilEmpty : ByteArray := prog_1_method_44_code
def yX8_beatsUntilEmpty : MethodName := ⟨RX8, "beatsUntilEmpty", "()I"⟩
abbrev cX8_demandAfter : ByteArray := prog_1_method_45_code
def yX8_demandAfter : MethodName := ⟨RX8, "demandAfter", "(I)I"⟩
abbrev cX8_demandAfterBySteps : ByteArray := prog_1_method_46_code
def yX8_demandAfterBySteps : MethodName := ⟨RX8, "demandAfterBySteps", "(I)I"⟩
abbrev cX8_firstOverload : ByteArray := prog_1_method_47_code
def yX8_firstOverload : MethodName := ⟨RX8, "firstOverload", "(I)I"⟩
abbrev cX8_meanOpening : ByteArray := prog_1_method_48_code
def yX8_meanOpening : MethodName := ⟨RX8, "meanOpening", "()D"⟩
abbrev cX8_supplyFraction : ByteArray := prog_1_method_49_code
def yX8_supplyFraction : MethodName := ⟨RX8, "supplyFraction", "()F"⟩
abbrev cX8_writeFigure : ByteArray := prog_1_method_50_code
def yX8_writeFigure : MethodName := ⟨RX8, "writeFigure", "(I)I"⟩
abbrev cX8_outputCharacter : ByteArray := prog_1_method_51_code
def yX8_outputCharacter : MethodName := ⟨RX8, "outputCharacter", "(I)C"⟩
abbrev cX8_isConsistent : ByteArray := prog_1_method_52_code
def yX8_isConsistent : MethodName := ⟨RX8, "isConsistent", "()Z"⟩
abbrev cX8_feed : ByteArray := prog_1_method_53_code
def yX8_feed : MethodName := ⟨RX8, "feed", "(C)I"⟩
abbrev cX8_execute : ByteArray := prog_1_method_54_code
def yX8_execute : MethodName := ⟨RX8, "execute", "()I"⟩
abbrev cX8_errorPosition : ByteArray := prog_1_method_55_code
def yX8_errorPosition : MethodName := ⟨RX8, "errorPosition", "()I"⟩
abbrev cX8_failedCommand : ByteArray := prog_1_method_56_code
def yX8_failedCommand : MethodName := ⟨RX8, "failedCommand", "()I"⟩
abbrev cX8_undo : ByteArray := prog_1_method_57_code
def yX8_undo : MethodName := ⟨RX8, "undo", "()I"⟩
abbrev cX8_undoCount : ByteArray := prog_1_method_58_code
def yX8_undoCount : MethodName := ⟨RX8, "undoCount", "()I"⟩
abbrev cX8_save : ByteArray := prog_1_method_59_code
def yX8_save : MethodName := ⟨RX8, "save", "()I"⟩
abbrev cX8_restore : ByteArray := prog_1_method_60_code
def yX8_restore : MethodName := ⟨RX8, "restore", "()I"⟩
abbrev cX8_remember : ByteArray := prog_1_method_61_code
def yX8_remember : MethodName := ⟨RX8, "remember", "()V"⟩
abbrev cX8_refuse : ByteArray := prog_1_method_62_code
def yX8_refuse : MethodName := ⟨RX8, "refuse", "(LFountainShow$Problem;)V"⟩
abbrev cX8_requireJet : ByteArray := prog_1_method_63_code
def yX8_requireJet : MethodName := ⟨RX8, "requireJet", "(I)V"⟩
abbrev cX8_requireAnyJet : ByteArray := prog_1_method_64_code
def yX8_requireAnyJet : MethodName := ⟨RX8, "requireAnyJet", "()V"⟩
abbrev cX8_requireFigure : ByteArray := prog_1_method_65_code
def yX8_requireFigure : MethodName := ⟨RX8, "requireFigure", "(I)V"⟩
abbrev cX8_requireStep : ByteArray := prog_1_method_66_code
def yX8_requireStep : MethodName := ⟨RX8, "requireStep", "(II)V"⟩
abbrev cX8_requireEntry : ByteArray := prog_1_method_67_code
def yX8_requireEntry : MethodName := ⟨RX8, "requireEntry", "(I)V"⟩
abbrev cX8_requireForecast : ByteArray := prog_1_method_68_code
def yX8_requireForecast : MethodName := ⟨RX8, "requireForecast", "(I)V"⟩
abbrev cX8_slot : ByteArray := prog_1_method_69_code
def yX8_slot : MethodName := ⟨RX8, "slot", "(II)I"⟩
abbrev cX8_writeStep : ByteArray := prog_1_method_70_code
def yX8_writeStep : MethodName := ⟨RX8, "writeStep", "(I)V"⟩
abbrev cX8_performUntilProblem : ByteArray := prog_1_method_71_code
def yX8_performUntilProblem : MethodName := ⟨RX8, "performUntilProblem", "()I"⟩
def RX9 : String := "FountainShowModel"
def TX9 : u_T := fun k => match k with
  | 0 => ("FountainShowModel", "thrown", "I", false)
  | 1 => ("FountainShowModel", "s", "[I", true)
  | 2 => ("FountainShowModel", "frame", "[I", true)
  | 3 => ("FountainShowModel", "saved", "[I", true)
  | 4 => ("FountainShowModel", "history", "[I", true)
  | 5 => ("FountainShowModel", "thought", "[I", true)
  | 6 => ("FountainShowModel", "kept", "I", false)
  | 7 => ("FountainShowModel", "hasSaved", "Z", false)
  | 8 => ("FountainShowModel", "text", "[I", true)
  | 9 => ("FountainShowModel", "told", "[I", true)
  | 10 => ("FountainShowModel", "out", "[I", true)
  | 11 => ("FountainShowModel", "length", "I", false)
  | 12 => ("FountainShowModel", "outLength", "I", false)
  | 13 => ("FountainShowModel", "faultAt", "I", false)
  | 14 => ("FountainShowModel", "failedAt", "I", false)
  | 15 => ("FountainShowModel", "answer", "I", false)
  | 16 => ("FountainShowModel", "spot", "I", false)
  | 17 => ("FountainShowModel", "end", "I", false)
  | 18 => ("FountainShowModel", "commands", "I", false)
  | _ => ("FountainShowModel", "isWrong", "Z", false)
def tyX9 : Nat → FieldType := fun k => match k with
  | 0 => .int
  | 1 => .array .int
  | 2 => .array .int
  | 3 => .array .int
  | 4 => .array .int
  | 5 => .array .int
  | 6 => .int
  | 7 => .boolean
  | 8 => .array .int
  | 9 => .array .int
  | 10 => .array .int
  | 11 => .int
  | 12 => .int
  | 13 => .int
  | 14 => .int
  | 15 => .int
  | 16 => .int
  | 17 => .int
  | 18 => .int
  | _ => .boolean
theorem nmX9 : ∀ a, a < 20 → ∀ b, b < 20 → a ≠ b → (TX9 a).2.1 ≠ (TX9 b).2.1 := by decide +kernel
theorem tyX9_ok : ∀ k, k < 20 → parseFieldDescriptor (TX9 k).2.2.1 = some (tyX9 k) := by decide +kernel
abbrev cX9_init : ByteArray := prog_11_method_1_code
def yX9_init : MethodName := ⟨RX9, "<init>", "()V"⟩
abbrev cX9_thrown : ByteArray := prog_11_method_2_code
def yX9_thrown : MethodName := ⟨RX9, "thrown", "()I"⟩
abbrev cX9_fails : ByteArray := prog_11_method_3_code
def yX9_fails : MethodName := ⟨RX9, "fails", "(I)I"⟩
abbrev cX9_in : ByteArray := prog_11_method_4_code
def yX9_in : MethodName := ⟨RX9, "in", "(III)Z"⟩
abbrev cX9_remembers : ByteArray := prog_11_method_5_code
def yX9_remembers : MethodName := ⟨RX9, "remembers", "()V"⟩
abbrev cX9_changed : ByteArray := prog_11_method_6_code
def yX9_changed : MethodName := ⟨RX9, "changed", "(I)I"⟩
abbrev cX9_done : ByteArray := prog_11_method_7_code
def yX9_done : MethodName := ⟨RX9, "done", "(I)I"⟩
abbrev cX9_ends : ByteArray := prog_11_method_8_code
def yX9_ends : MethodName := ⟨RX9, "ends", "(I)I"⟩
abbrev cX9_isJet : ByteArray := prog_11_method_9_code
def yX9_isJet : MethodName := ⟨RX9, "isJet", "(I)Z"⟩
abbrev cX9_isFigure : ByteArray := prog_11_method_10_code
def yX9_isFigure : MethodName := ⟨RX9, "isFigure", "(I)Z"⟩
abbrev cX9_isEntry : ByteArray := prog_11_method_11_code
def yX9_isEntry : MethodName := ⟨RX9, "isEntry", "(I)Z"⟩
abbrev cX9_place : ByteArray := prog_11_method_12_code
def yX9_place : MethodName := ⟨RX9, "place", "(I)I"⟩
abbrev cX9_valve : ByteArray := prog_11_method_13_code
def yX9_valve : MethodName := ⟨RX9, "valve", "(I)I"⟩
abbrev cX9_steps : ByteArray := prog_11_method_14_code
def yX9_steps : MethodName := ⟨RX9, "steps", "(I)I"⟩
abbrev cX9_at : ByteArray := prog_11_method_15_code
def yX9_at : MethodName := ⟨RX9, "at", "(III)I"⟩
abbrev cX9_asked : ByteArray := prog_11_method_16_code
def yX9_asked : MethodName := ⟨RX9, "asked", "()I"⟩
abbrev cX9_given : ByteArray := prog_11_method_17_code
def yX9_given : MethodName := ⟨RX9, "given", "()I"⟩
abbrev cX9_high : ByteArray := prog_11_method_18_code
def yX9_high : MethodName := ⟨RX9, "high", "(I)I"⟩
abbrev cX9_lands : ByteArray := prog_11_method_19_code
def yX9_lands : MethodName := ⟨RX9, "lands", "(I)I"⟩
abbrev cX9_wild : ByteArray := prog_11_method_20_code
def yX9_wild : MethodName := ⟨RX9, "wild", "(I)Z"⟩
abbrev cX9_lasts : ByteArray := prog_11_method_21_code
def yX9_lasts : MethodName := ⟨RX9, "lasts", "(I)I"⟩
abbrev cX9_due : ByteArray := prog_11_method_22_code
def yX9_due : MethodName := ⟨RX9, "due", "(I)I"⟩
abbrev cX9_addsJet : ByteArray := prog_11_method_23_code
def yX9_addsJet : MethodName := ⟨RX9, "addsJet", "(I)I"⟩
abbrev cX9_cuts : ByteArray := prog_11_method_24_code
def yX9_cuts : MethodName := ⟨RX9, "cuts", "(II)V"⟩
abbrev cX9_removesJet : ByteArray := prog_11_method_25_code
def yX9_removesJet : MethodName := ⟨RX9, "removesJet", "(I)I"⟩
abbrev cX9_opens : ByteArray := prog_11_method_26_code
def yX9_opens : MethodName := ⟨RX9, "opens", "(II)I"⟩
abbrev cX9_pumps : ByteArray := prog_11_method_27_code
def yX9_pumps : MethodName := ⟨RX9, "pumps", "(I)I"⟩
abbrev cX9_blows : ByteArray := prog_11_method_28_code
def yX9_blows : MethodName := ⟨RX9, "blows", "(I)I"⟩
abbrev cX9_trims : ByteArray := prog_11_method_29_code
def yX9_trims : MethodName := ⟨RX9, "trims", "()I"⟩
abbrev cX9_addsFigure : ByteArray := prog_11_method_30_code
def yX9_addsFigure : MethodName := ⟨RX9, "addsFigure", "()I"⟩
abbrev cX9_removesFigure : ByteArray := prog_11_method_31_code
def yX9_removesFigure : MethodName := ⟨RX9, "removesFigure", "(I)I"⟩
abbrev cX9_addsStep : ByteArray := prog_11_method_32_code
def yX9_addsStep : MethodName := ⟨RX9, "addsStep", "(IIII)I"⟩
abbrev cX9_isStep : ByteArray := prog_11_method_33_code
def yX9_isStep : MethodName := ⟨RX9, "isStep", "(II)Z"⟩
abbrev cX9_removesStep : ByteArray := prog_11_method_34_code
def yX9_removesStep : MethodName := ⟨RX9, "removesStep", "(II)I"⟩
abbrev cX9_plays : ByteArray := prog_11_method_35_code
def yX9_plays : MethodName := ⟨RX9, "plays", "(II)I"⟩
abbrev cX9_drops : ByteArray := prog_11_method_36_code
def yX9_drops : MethodName := ⟨RX9, "drops", "(I)V"⟩
abbrev cX9_cancels : ByteArray := prog_11_method_37_code
def yX9_cancels : MethodName := ⟨RX9, "cancels", "(I)I"⟩
abbrev cX9_oneBeat : ByteArray := prog_11_method_38_code
def yX9_oneBeat : MethodName := ⟨RX9, "oneBeat", "()I"⟩
abbrev cX9_passes : ByteArray := prog_11_method_39_code
def yX9_passes : MethodName := ⟨RX9, "passes", "(I)I"⟩
abbrev cX9_addJet : ByteArray := prog_11_method_40_code
def yX9_addJet : MethodName := ⟨RX9, "addJet", "(I)I"⟩
abbrev cX9_removeJet : ByteArray := prog_11_method_41_code
def yX9_removeJet : MethodName := ⟨RX9, "removeJet", "(I)I"⟩
abbrev cX9_setOpening : ByteArray := prog_11_method_42_code
def yX9_setOpening : MethodName := ⟨RX9, "setOpening", "(II)I"⟩
abbrev cX9_jetCount : ByteArray := prog_11_method_43_code
def yX9_jetCount : MethodName := ⟨RX9, "jetCount", "()I"⟩
abbrev cX9_isAsked : ByteArray := prog_11_method_44_code
def yX9_isAsked : MethodName := ⟨RX9, "isAsked", "(I)Z"⟩
abbrev cX9_position : ByteArray := prog_11_method_45_code
def yX9_position : MethodName := ⟨RX9, "position", "(I)I"⟩
abbrev cX9_opening : ByteArray := prog_11_method_46_code
def yX9_opening : MethodName := ⟨RX9, "opening", "(I)I"⟩
abbrev cX9_height : ByteArray := prog_11_method_47_code
def yX9_height : MethodName := ⟨RX9, "height", "(I)I"⟩
abbrev cX9_landing : ByteArray := prog_11_method_48_code
def yX9_landing : MethodName := ⟨RX9, "landing", "(I)I"⟩
abbrev cX9_isWild : ByteArray := prog_11_method_49_code
def yX9_isWild : MethodName := ⟨RX9, "isWild", "(I)Z"⟩
abbrev cX9_wildCount : ByteArray := prog_11_method_50_code
def yX9_wildCount : MethodName := ⟨RX9, "wildCount", "()I"⟩
abbrev cX9_highestJet : ByteArray := prog_11_method_51_code
def yX9_highestJet : MethodName := ⟨RX9, "highestJet", "()I"⟩
abbrev cX9_jetByPosition : ByteArray := prog_11_method_52_code
def yX9_jetByPosition : MethodName := ⟨RX9, "jetByPosition", "(I)I"⟩
abbrev cX9_away : ByteArray := prog_11_method_53_code
def yX9_away : MethodName := ⟨RX9, "away", "(II)J"⟩
abbrev cX9_nearestLanding : ByteArray := prog_11_method_54_code
def yX9_nearestLanding : MethodName := ⟨RX9, "nearestLanding", "(I)I"⟩
abbrev cX9_crossings : ByteArray := prog_11_method_55_code
def yX9_crossings : MethodName := ⟨RX9, "crossings", "()I"⟩
abbrev cX9_crossingsByMerging : ByteArray := prog_11_method_56_code
def yX9_crossingsByMerging : MethodName := ⟨RX9, "crossingsByMerging", "()I"⟩
abbrev cX9_setCapacity : ByteArray := prog_11_method_57_code
def yX9_setCapacity : MethodName := ⟨RX9, "setCapacity", "(I)I"⟩
abbrev cX9_setWind : ByteArray := prog_11_method_58_code
def yX9_setWind : MethodName := ⟨RX9, "setWind", "(I)I"⟩
abbrev cX9_trim : ByteArray := prog_11_method_59_code
def yX9_trim : MethodName := ⟨RX9, "trim", "()I"⟩
abbrev cX9_capacity : ByteArray := prog_11_method_60_code
def yX9_capacity : MethodName := ⟨RX9, "capacity", "()I"⟩
abbrev cX9_wind : ByteArray := prog_11_method_61_code
def yX9_wind : MethodName := ⟨RX9, "wind", "()I"⟩
abbrev cX9_demand : ByteArray := prog_11_method_62_code
def yX9_demand : MethodName := ⟨RX9, "demand", "()I"⟩
abbrev cX9_supply : ByteArray := prog_11_method_63_code
def yX9_supply : MethodName := ⟨RX9, "supply", "()I"⟩
abbrev cX9_pumped : ByteArray := prog_11_method_64_code
def yX9_pumped : MethodName := ⟨RX9, "pumped", "()J"⟩
abbrev cX9_shortage : ByteArray := prog_11_method_65_code
def yX9_shortage : MethodName := ⟨RX9, "shortage", "()J"⟩
abbrev cX9_addFigure : ByteArray := prog_11_method_66_code
def yX9_addFigure : MethodName := ⟨RX9, "addFigure", "()I"⟩
abbrev cX9_removeFigure : ByteArray := prog_11_method_67_code
def yX9_removeFigure : MethodName := ⟨RX9, "removeFigure", "(I)I"⟩
abbrev cX9_addStep : ByteArray := prog_11_method_68_code
def yX9_addStep : MethodName := ⟨RX9, "addStep", "(IIII)I"⟩
abbrev cX9_removeStep : ByteArray := prog_11_method_69_code
def yX9_removeStep : MethodName := ⟨RX9, "removeStep", "(II)I"⟩
abbrev cX9_figureCount : ByteArray := prog_11_method_70_code
def yX9_figureCount : MethodName := ⟨RX9, "figureCount", "()I"⟩
abbrev cX9_stepCount : ByteArray := prog_11_method_71_code
def yX9_stepCount : MethodName := ⟨RX9, "stepCount", "(I)I"⟩
abbrev cX9_askedStep : ByteArray := prog_11_method_72_code
def yX9_askedStep : MethodName := ⟨RX9, "askedStep", "(III)I"⟩
abbrev cX9_stepDelay : ByteArray := prog_11_method_73_code
def yX9_stepDelay : MethodName := ⟨RX9, "stepDelay", "(II)I"⟩
abbrev cX9_stepJet : ByteArray := prog_11_method_74_code
def yX9_stepJet : MethodName := ⟨RX9, "stepJet", "(II)I"⟩
abbrev cX9_stepOpening : ByteArray := prog_11_method_75_code
def yX9_stepOpening : MethodName := ⟨RX9, "stepOpening", "(II)I"⟩
abbrev cX9_figureLength : ByteArray := prog_11_method_76_code
def yX9_figureLength : MethodName := ⟨RX9, "figureLength", "(I)I"⟩
abbrev cX9_uses : ByteArray := prog_11_method_77_code
def yX9_uses : MethodName := ⟨RX9, "uses", "(II)Z"⟩
abbrev cX9_figuresUsing : ByteArray := prog_11_method_78_code
def yX9_figuresUsing : MethodName := ⟨RX9, "figuresUsing", "(I)I"⟩
abbrev cX9_play : ByteArray := prog_11_method_79_code
def yX9_play : MethodName := ⟨RX9, "play", "(II)I"⟩
abbrev cX9_cancel : ByteArray := prog_11_method_80_code
def yX9_cancel : MethodName := ⟨RX9, "cancel", "(I)I"⟩
abbrev cX9_pass : ByteArray := prog_11_method_81_code
def yX9_pass : MethodName := ⟨RX9, "pass", "(I)I"⟩
abbrev cX9_beat : ByteArray := prog_11_method_82_code
def yX9_beat : MethodName := ⟨RX9, "beat", "()I"⟩
abbrev cX9_queueLength : ByteArray := prog_11_method_83_code
def yX9_queueLength : MethodName := ⟨RX9, "queueLength", "()I"⟩
abbrev cX9_askedEntry : ByteArray := prog_11_method_84_code
def yX9_askedEntry : MethodName := ⟨RX9, "askedEntry", "(II)I"⟩
abbrev cX9_entryFigure : ByteArray := prog_11_method_85_code
def yX9_entryFigure : MethodName := ⟨RX9, "entryFigure", "(I)I"⟩
abbrev cX9_entryStart : ByteArray := prog_11_method_86_code
def yX9_entryStart : MethodName := ⟨RX9, "entryStart", "(I)I"⟩
abbrev cX9_beatsUntilEmpty : ByteArray := prog_11_method_87_code
def yX9_beatsUntilEmpty : MethodName := ⟨RX9, "beatsUntilEmpty", "()I"⟩
abbrev cX9_thinks : ByteArray := prog_11_method_88_code
def yX9_thinks : MethodName := ⟨RX9, "thinks", "()V"⟩
abbrev cX9_forgets : ByteArray := prog_11_method_89_code
def yX9_forgets : MethodName := ⟨RX9, "forgets", "()V"⟩
abbrev cX9_demandAfter : ByteArray := prog_11_method_90_code
def yX9_demandAfter : MethodName := ⟨RX9, "demandAfter", "(I)I"⟩
abbrev cX9_demandAfterBySteps : ByteArray := prog_11_method_91_code
def yX9_demandAfterBySteps : MethodName := ⟨RX9, "demandAfterBySteps", "(I)I"⟩
abbrev cX9_firstOverload : ByteArray := prog_11_method_92_code
def yX9_firstOverload : MethodName := ⟨RX9, "firstOverload", "(I)I"⟩
abbrev cX9_meanOpening : ByteArray := prog_11_method_93_code
def yX9_meanOpening : MethodName := ⟨RX9, "meanOpening", "()D"⟩
abbrev cX9_supplyFraction : ByteArray := prog_11_method_94_code
def yX9_supplyFraction : MethodName := ⟨RX9, "supplyFraction", "()F"⟩
abbrev cX9_writes : ByteArray := prog_11_method_95_code
def yX9_writes : MethodName := ⟨RX9, "writes", "(I)V"⟩
abbrev cX9_writesNumber : ByteArray := prog_11_method_96_code
def yX9_writesNumber : MethodName := ⟨RX9, "writesNumber", "(I)V"⟩
abbrev cX9_writeFigure : ByteArray := prog_11_method_97_code
def yX9_writeFigure : MethodName := ⟨RX9, "writeFigure", "(I)I"⟩
abbrev cX9_outputCharacter : ByteArray := prog_11_method_98_code
def yX9_outputCharacter : MethodName := ⟨RX9, "outputCharacter", "(I)C"⟩
abbrev cX9_isConsistent : ByteArray := prog_11_method_99_code
def yX9_isConsistent : MethodName := ⟨RX9, "isConsistent", "()Z"⟩
abbrev cX9_feed : ByteArray := prog_11_method_100_code
def yX9_feed : MethodName := ⟨RX9, "feed", "(C)I"⟩
abbrev cX9_here : ByteArray := prog_11_method_101_code
def yX9_here : MethodName := ⟨RX9, "here", "(I)I"⟩
abbrev cX9_says : ByteArray := prog_11_method_102_code
def yX9_says : MethodName := ⟨RX9, "says", "(Ljava/lang/String;)V"⟩
abbrev cX9_number : ByteArray := prog_11_method_103_code
def yX9_number : MethodName := ⟨RX9, "number", "(II)V"⟩
abbrev cX9_one : ByteArray := prog_11_method_104_code
def yX9_one : MethodName := ⟨RX9, "one", "(ILjava/lang/String;I)V"⟩
abbrev cX9_two : ByteArray := prog_11_method_105_code
def yX9_two : MethodName := ⟨RX9, "two", "(ILjava/lang/String;Ljava/lang/String;)V"⟩
abbrev cX9_breeze : ByteArray := prog_11_method_106_code
def yX9_breeze : MethodName := ⟨RX9, "breeze", "()V"⟩
abbrev cX9_readsOne : ByteArray := prog_11_method_107_code
def yX9_readsOne : MethodName := ⟨RX9, "readsOne", "()V"⟩
abbrev cX9_does : ByteArray := prog_11_method_108_code
def yX9_does : MethodName := ⟨RX9, "does", "(I)I"⟩
abbrev cX9_execute : ByteArray := prog_11_method_109_code
def yX9_execute : MethodName := ⟨RX9, "execute", "()I"⟩
abbrev cX9_errorPosition : ByteArray := prog_11_method_110_code
def yX9_errorPosition : MethodName := ⟨RX9, "errorPosition", "()I"⟩
abbrev cX9_failedCommand : ByteArray := prog_11_method_111_code
def yX9_failedCommand : MethodName := ⟨RX9, "failedCommand", "()I"⟩
abbrev cX9_undo : ByteArray := prog_11_method_112_code
def yX9_undo : MethodName := ⟨RX9, "undo", "()I"⟩
abbrev cX9_undoCount : ByteArray := prog_11_method_113_code
def yX9_undoCount : MethodName := ⟨RX9, "undoCount", "()I"⟩
abbrev cX9_save : ByteArray := prog_11_method_114_code
def yX9_save : MethodName := ⟨RX9, "save", "()I"⟩
abbrev cX9_restore : ByteArray := prog_11_method_115_code
def yX9_restore : MethodName := ⟨RX9, "restore", "()I"⟩
def RJx145de : String := "java/io/Serializable"
def TJx145de : u_T := fun k => match k with
  | _ => ("", "", "", false)
def tyJx145de : Nat → FieldType := fun k => match k with
  | _ => .int
theorem nmJx145de : ∀ a, a < 0 → ∀ b, b < 0 → a ≠ b → (TJx145de a).2.1 ≠ (TJx145de b).2.1 := by decide +kernel
theorem tyJx145de_ok : ∀ k, k < 0 → parseFieldDescriptor (TJx145de k).2.2.1 = some (tyJx145de k) := by decide +kernel
def RJ5 : String := "java/lang/AbstractStringBuilder"
def TJ5 : u_T := fun k => match k with
  | _ => ("", "", "", false)
def tyJ5 : Nat → FieldType := fun k => match k with
  | _ => .int
theorem nmJ5 : ∀ a, a < 0 → ∀ b, b < 0 → a ≠ b → (TJ5 a).2.1 ≠ (TJ5 b).2.1 := by decide +kernel
theorem tyJ5_ok : ∀ k, k < 0 → parseFieldDescriptor (TJ5 k).2.2.1 = some (tyJ5 k) := by decide +kernel
abbrev cJ5_init_d00df : ByteArray := prog_13_method_2_code
def yJ5_init_d00df : MethodName := ⟨RJ5, "<init>", "(I)V"⟩
abbrev cJ5_length_8abf5 : ByteArray := prog_13_method_6_code
def yJ5_length_8abf5 : MethodName := ⟨RJ5, "length", "()I"⟩
abbrev cJ5_ensureCapacityInternal_d00df : ByteArray := prog_13_method_9_code
def yJ5_ensureCapacityInternal_d00df : MethodName := ⟨RJ5, "ensureCapacityInternal", "(I)V"⟩
abbrev cJ5_newCapacity_0f7a4 : ByteArray := prog_13_method_10_code
def yJ5_newCapacity_0f7a4 : MethodName := ⟨RJ5, "newCapacity", "(I)I"⟩
abbrev cJ5_inflate_da8c8 : ByteArray := prog_13_method_11_code
def yJ5_inflate_da8c8 : MethodName := ⟨RJ5, "inflate", "()V"⟩
abbrev cJ5_setLength_d00df : ByteArray := prog_13_method_13_code
def yJ5_setLength_d00df : MethodName := ⟨RJ5, "setLength", "(I)V"⟩
abbrev cJ5_charAt_5068e : ByteArray := prog_13_method_14_code
def yJ5_charAt_5068e : MethodName := ⟨RJ5, "charAt", "(I)C"⟩
abbrev cJ5_append_cf1ce : ByteArray := prog_13_method_22_code
def yJ5_append_cf1ce : MethodName := ⟨RJ5, "append", "(Ljava/lang/String;)Ljava/lang/AbstractStringBuilder;"⟩
abbrev cJ5_appendNull_278bc : ByteArray := prog_13_method_26_code
def yJ5_appendNull_278bc : MethodName := ⟨RJ5, "appendNull", "()Ljava/lang/AbstractStringBuilder;"⟩
abbrev cJ5_append_3fe6f : ByteArray := prog_13_method_31_code
def yJ5_append_3fe6f : MethodName := ⟨RJ5, "append", "(C)Ljava/lang/AbstractStringBuilder;"⟩
abbrev cJ5_append_c97b9 : ByteArray := prog_13_method_32_code
def yJ5_append_c97b9 : MethodName := ⟨RJ5, "append", "(I)Ljava/lang/AbstractStringBuilder;"⟩
abbrev cJ5_getValue_6d5f1 : ByteArray := prog_13_method_64_code
def yJ5_getValue_6d5f1 : MethodName := ⟨RJ5, "getValue", "()[B"⟩
abbrev cJ5_isLatin1_aae02 : ByteArray := prog_13_method_68_code
def yJ5_isLatin1_aae02 : MethodName := ⟨RJ5, "isLatin1", "()Z"⟩
abbrev cJ5_inflateIfNeededFor_a7421 : ByteArray := prog_13_method_71_code
def yJ5_inflateIfNeededFor_a7421 : MethodName := ⟨RJ5, "inflateIfNeededFor", "(Ljava/lang/String;)V"⟩
abbrev cJ5_putStringAt_47b60 : ByteArray := prog_13_method_73_code
def yJ5_putStringAt_47b60 : MethodName := ⟨RJ5, "putStringAt", "(ILjava/lang/String;)V"⟩
def RJx2cfe8 : String := "java/lang/Appendable"
def TJx2cfe8 : u_T := fun k => match k with
  | _ => ("", "", "", false)
def tyJx2cfe8 : Nat → FieldType := fun k => match k with
  | _ => .int
theorem nmJx2cfe8 : ∀ a, a < 0 → ∀ b, b < 0 → a ≠ b → (TJx2cfe8 a).2.1 ≠ (TJx2cfe8 b).2.1 := by decide +kernel
theorem tyJx2cfe8_ok : ∀ k, k < 0 → parseFieldDescriptor (TJx2cfe8 k).2.2.1 = some (tyJx2cfe8 k) := by decide +kernel
def RJx00060 : String := "java/lang/ArrayIndexOutOfBoundsException"
def TJx00060 : u_T := fun k => match k with
  | 0 => ("java/lang/Throwable", "backtrace", "Ljava/lang/Object;", false)
  | 1 => ("java/lang/Throwable", "detailMessage", "Ljava/lang/String;", false)
  | 2 => ("java/lang/Throwable", "cause", "Ljava/lang/Throwable;", false)
  | 3 => ("java/lang/Throwable", "stackTrace", "[Ljava/lang/StackTraceElement;", false)
  | 4 => ("java/lang/Throwable", "depth", "I", false)
  | _ => ("java/lang/Throwable", "suppressedExceptions", "Ljava/util/List;", false)
def tyJx00060 : Nat → FieldType := fun k => match k with
  | 0 => .object "java/lang/Object"
  | 1 => .object "java/lang/String"
  | 2 => .object "java/lang/Throwable"
  | 3 => .array (.object "java/lang/StackTraceElement")
  | 4 => .int
  | _ => .object "java/util/List"
theorem nmJx00060 : ∀ a, a < 6 → ∀ b, b < 6 → a ≠ b → (TJx00060 a).2.1 ≠ (TJx00060 b).2.1 := by decide +kernel
theorem tyJx00060_ok : ∀ k, k < 6 → parseFieldDescriptor (TJx00060 k).2.2.1 = some (tyJx00060 k) := by decide +kernel
abbrev cJx00060_init_a7421 : ByteArray := prog_16_method_2_code
def yJx00060_init_a7421 : MethodName := ⟨RJx00060, "<init>", "(Ljava/lang/String;)V"⟩
abbrev cJx00060_init_d00df : ByteArray := prog_16_method_3_code
def yJx00060_init_d00df : MethodName := ⟨RJx00060, "<init>", "(I)V"⟩
def RJx9f9b0 : String := "java/lang/CharSequence"
def TJx9f9b0 : u_T := fun k => match k with
  | _ => ("", "", "", false)
def tyJx9f9b0 : Nat → FieldType := fun k => match k with
  | _ => .int
theorem nmJx9f9b0 : ∀ a, a < 0 → ∀ b, b < 0 → a ≠ b → (TJx9f9b0 a).2.1 ≠ (TJx9f9b0 b).2.1 := by decide +kernel
theorem tyJx9f9b0_ok : ∀ k, k < 0 → parseFieldDescriptor (TJx9f9b0 k).2.2.1 = some (tyJx9f9b0 k) := by decide +kernel
def RJx8e188 : String := "java/lang/Cloneable"
def TJx8e188 : u_T := fun k => match k with
  | _ => ("", "", "", false)
def tyJx8e188 : Nat → FieldType := fun k => match k with
  | _ => .int
theorem nmJx8e188 : ∀ a, a < 0 → ∀ b, b < 0 → a ≠ b → (TJx8e188 a).2.1 ≠ (TJx8e188 b).2.1 := by decide +kernel
theorem tyJx8e188_ok : ∀ k, k < 0 → parseFieldDescriptor (TJx8e188 k).2.2.1 = some (tyJx8e188 k) := by decide +kernel
def RJxb160c : String := "java/lang/Comparable"
def TJxb160c : u_T := fun k => match k with
  | _ => ("", "", "", false)
def tyJxb160c : Nat → FieldType := fun k => match k with
  | _ => .int
theorem nmJxb160c : ∀ a, a < 0 → ∀ b, b < 0 → a ≠ b → (TJxb160c a).2.1 ≠ (TJxb160c b).2.1 := by decide +kernel
theorem tyJxb160c_ok : ∀ k, k < 0 → parseFieldDescriptor (TJxb160c k).2.2.1 = some (tyJxb160c k) := by decide +kernel
def RJx29ce0 : String := "java/lang/Enum"
def TJx29ce0 : u_T := fun k => match k with
  | _ => ("", "", "", false)
def tyJx29ce0 : Nat → FieldType := fun k => match k with
  | _ => .int
theorem nmJx29ce0 : ∀ a, a < 0 → ∀ b, b < 0 → a ≠ b → (TJx29ce0 a).2.1 ≠ (TJx29ce0 b).2.1 := by decide +kernel
theorem tyJx29ce0_ok : ∀ k, k < 0 → parseFieldDescriptor (TJx29ce0 k).2.2.1 = some (tyJx29ce0 k) := by decide +kernel
abbrev cJx29ce0_ordinal_8abf5 : ByteArray := prog_20_method_2_code
def yJx29ce0_ordinal_8abf5 : MethodName := ⟨RJx29ce0, "ordinal", "()I"⟩
def RJ6 : String := "java/lang/Integer"
def TJ6 : u_T := fun k => match k with
  | _ => ("", "", "", false)
def tyJ6 : Nat → FieldType := fun k => match k with
  | _ => .int
theorem nmJ6 : ∀ a, a < 0 → ∀ b, b < 0 → a ≠ b → (TJ6 a).2.1 ≠ (TJ6 b).2.1 := by decide +kernel
theorem tyJ6_ok : ∀ k, k < 0 → parseFieldDescriptor (TJ6 k).2.2.1 = some (tyJ6 k) := by decide +kernel
abbrev cJ6_getChars_ba4f3 : ByteArray := prog_25_method_12_code
def yJ6_getChars_ba4f3 : MethodName := ⟨RJ6, "getChars", "(II[B)I"⟩
abbrev cJ6_stringSize_0f7a4 : ByteArray := prog_25_method_13_code
def yJ6_stringSize_0f7a4 : MethodName := ⟨RJ6, "stringSize", "(I)I"⟩
def RJ9 : String := "java/lang/Math"
def TJ9 : u_T := fun k => match k with
  | _ => ("", "", "", false)
def tyJ9 : Nat → FieldType := fun k => match k with
  | _ => .int
theorem nmJ9 : ∀ a, a < 0 → ∀ b, b < 0 → a ≠ b → (TJ9 a).2.1 ≠ (TJ9 b).2.1 := by decide +kernel
theorem tyJ9_ok : ∀ k, k < 0 → parseFieldDescriptor (TJ9 k).2.2.1 = some (tyJ9 k) := by decide +kernel
abbrev cJ9_abs_067f4 : ByteArray := prog_26_method_61_code
def yJ9_abs_067f4 : MethodName := ⟨RJ9, "abs", "(J)J"⟩
abbrev cJ9_max_7cf53 : ByteArray := prog_26_method_65_code
def yJ9_max_7cf53 : MethodName := ⟨RJ9, "max", "(II)I"⟩
abbrev cJ9_min_7cf53 : ByteArray := prog_26_method_69_code
def yJ9_min_7cf53 : MethodName := ⟨RJ9, "min", "(II)I"⟩
def RJxd2413 : String := "java/lang/Number"
def TJxd2413 : u_T := fun k => match k with
  | _ => ("", "", "", false)
def tyJxd2413 : Nat → FieldType := fun k => match k with
  | _ => .int
theorem nmJxd2413 : ∀ a, a < 0 → ∀ b, b < 0 → a ≠ b → (TJxd2413 a).2.1 ≠ (TJxd2413 b).2.1 := by decide +kernel
theorem tyJxd2413_ok : ∀ k, k < 0 → parseFieldDescriptor (TJxd2413 k).2.2.1 = some (tyJxd2413 k) := by decide +kernel
def RJ0 : String := "java/lang/String"
def TJ0 : u_T := fun k => match k with
  | 0 => ("java/lang/String", "value", "[B", true)
  | 1 => ("java/lang/String", "coder", "B", true)
  | 2 => ("java/lang/String", "hash", "I", false)
  | _ => ("java/lang/String", "hashIsZero", "Z", false)
def tyJ0 : Nat → FieldType := fun k => match k with
  | 0 => .array .byte
  | 1 => .byte
  | 2 => .int
  | _ => .boolean
theorem nmJ0 : ∀ a, a < 4 → ∀ b, b < 4 → a ≠ b → (TJ0 a).2.1 ≠ (TJ0 b).2.1 := by decide +kernel
theorem tyJ0_ok : ∀ k, k < 4 → parseFieldDescriptor (TJ0 k).2.2.1 = some (tyJ0 k) := by decide +kernel
abbrev cJ0_init_81219 : ByteArray := prog_29_method_53_code
def yJ0_init_81219 : MethodName := ⟨RJ0, "<init>", "(Ljava/lang/StringBuilder;)V"⟩
abbrev cJ0_length_8abf5 : ByteArray := prog_29_method_54_code
def yJ0_length_8abf5 : MethodName := ⟨RJ0, "length", "()I"⟩
abbrev cJ0_charAt_5068e : ByteArray := prog_29_method_56_code
def yJ0_charAt_5068e : MethodName := ⟨RJ0, "charAt", "(I)C"⟩
abbrev cJ0_getBytes_840e7 : ByteArray := prog_29_method_147_code
def yJ0_getBytes_840e7 : MethodName := ⟨RJ0, "getBytes", "([BIB)V"⟩
abbrev cJ0_init_db425 : ByteArray := prog_29_method_150_code
def yJ0_init_db425 : MethodName := ⟨RJ0, "<init>", "(Ljava/lang/AbstractStringBuilder;Ljava/lang/Void;)V"⟩
abbrev cJ0_coder_7d493 : ByteArray := prog_29_method_152_code
def yJ0_coder_7d493 : MethodName := ⟨RJ0, "coder", "()B"⟩
abbrev cJ0_isLatin1_aae02 : ByteArray := prog_29_method_154_code
def yJ0_isLatin1_aae02 : MethodName := ⟨RJ0, "isLatin1", "()Z"⟩
abbrev cJ0_checkIndex_df160 : ByteArray := prog_29_method_155_code
def yJ0_checkIndex_df160 : MethodName := ⟨RJ0, "checkIndex", "(II)V"⟩
abbrev cJ0_checkBoundsOffCount_cabcc : ByteArray := prog_29_method_157_code
def yJ0_checkBoundsOffCount_cabcc : MethodName := ⟨RJ0, "checkBoundsOffCount", "(III)I"⟩
abbrev cJ0_checkBoundsBeginEnd_23922 : ByteArray := prog_29_method_158_code
def yJ0_checkBoundsBeginEnd_23922 : MethodName := ⟨RJ0, "checkBoundsBeginEnd", "(III)V"⟩
def RJ4 : String := "java/lang/StringBuilder"
def TJ4 : u_T := fun k => match k with
  | 0 => ("java/lang/AbstractStringBuilder", "value", "[B", false)
  | 1 => ("java/lang/AbstractStringBuilder", "coder", "B", false)
  | 2 => ("java/lang/AbstractStringBuilder", "maybeLatin1", "Z", false)
  | _ => ("java/lang/AbstractStringBuilder", "count", "I", false)
def tyJ4 : Nat → FieldType := fun k => match k with
  | 0 => .array .byte
  | 1 => .byte
  | 2 => .boolean
  | _ => .int
theorem nmJ4 : ∀ a, a < 4 → ∀ b, b < 4 → a ≠ b → (TJ4 a).2.1 ≠ (TJ4 b).2.1 := by decide +kernel
theorem tyJ4_ok : ∀ k, k < 4 → parseFieldDescriptor (TJ4 k).2.2.1 = some (tyJ4 k) := by decide +kernel
abbrev cJ4_init_da8c8 : ByteArray := prog_30_method_1_code
def yJ4_init_da8c8 : MethodName := ⟨RJ4, "<init>", "()V"⟩
abbrev cJ4_append_15ec4 : ByteArray := prog_30_method_7_code
def yJ4_append_15ec4 : MethodName := ⟨RJ4, "append", "(Ljava/lang/String;)Ljava/lang/StringBuilder;"⟩
abbrev cJ4_append_cf468 : ByteArray := prog_30_method_14_code
def yJ4_append_cf468 : MethodName := ⟨RJ4, "append", "(C)Ljava/lang/StringBuilder;"⟩
abbrev cJ4_append_bf812 : ByteArray := prog_30_method_15_code
def yJ4_append_bf812 : MethodName := ⟨RJ4, "append", "(I)Ljava/lang/StringBuilder;"⟩
abbrev cJ4_toString_0e30d : ByteArray := prog_30_method_42_code
def yJ4_toString_0e30d : MethodName := ⟨RJ4, "toString", "()Ljava/lang/String;"⟩
abbrev cJ4_charAt_5068e : ByteArray := prog_30_method_88_code
def yJ4_charAt_5068e : MethodName := ⟨RJ4, "charAt", "(I)C"⟩
abbrev cJ4_setLength_d00df : ByteArray := prog_30_method_89_code
def yJ4_setLength_d00df : MethodName := ⟨RJ4, "setLength", "(I)V"⟩
abbrev cJ4_length_8abf5 : ByteArray := prog_30_method_93_code
def yJ4_length_8abf5 : MethodName := ⟨RJ4, "length", "()I"⟩
def RJx7c733 : String := "java/lang/StringIndexOutOfBoundsException"
def TJx7c733 : u_T := fun k => match k with
  | 0 => ("java/lang/Throwable", "backtrace", "Ljava/lang/Object;", false)
  | 1 => ("java/lang/Throwable", "detailMessage", "Ljava/lang/String;", false)
  | 2 => ("java/lang/Throwable", "cause", "Ljava/lang/Throwable;", false)
  | 3 => ("java/lang/Throwable", "stackTrace", "[Ljava/lang/StackTraceElement;", false)
  | 4 => ("java/lang/Throwable", "depth", "I", false)
  | _ => ("java/lang/Throwable", "suppressedExceptions", "Ljava/util/List;", false)
def tyJx7c733 : Nat → FieldType := fun k => match k with
  | 0 => .object "java/lang/Object"
  | 1 => .object "java/lang/String"
  | 2 => .object "java/lang/Throwable"
  | 3 => .array (.object "java/lang/StackTraceElement")
  | 4 => .int
  | _ => .object "java/util/List"
theorem nmJx7c733 : ∀ a, a < 6 → ∀ b, b < 6 → a ≠ b → (TJx7c733 a).2.1 ≠ (TJx7c733 b).2.1 := by decide +kernel
theorem tyJx7c733_ok : ∀ k, k < 6 → parseFieldDescriptor (TJx7c733 k).2.2.1 = some (tyJx7c733 k) := by decide +kernel
abbrev cJx7c733_init_d00df : ByteArray := prog_31_method_3_code
def yJx7c733_init_d00df : MethodName := ⟨RJx7c733, "<init>", "(I)V"⟩
def RJ1 : String := "java/lang/StringLatin1"
def TJ1 : u_T := fun k => match k with
  | _ => ("", "", "", false)
def tyJ1 : Nat → FieldType := fun k => match k with
  | _ => .int
theorem nmJ1 : ∀ a, a < 0 → ∀ b, b < 0 → a ≠ b → (TJ1 a).2.1 ≠ (TJ1 b).2.1 := by decide +kernel
theorem tyJ1_ok : ∀ k, k < 0 → parseFieldDescriptor (TJ1 k).2.2.1 = some (tyJ1 k) := by decide +kernel
abbrev cJ1_charAt_3b067 : ByteArray := prog_32_method_2_code
def yJ1_charAt_3b067 : MethodName := ⟨RJ1, "charAt", "([BI)C"⟩
abbrev cJ1_canEncode_fc78d : ByteArray := prog_32_method_3_code
def yJ1_canEncode_fc78d : MethodName := ⟨RJ1, "canEncode", "(C)Z"⟩
abbrev cJ1_fillNull_b72d1 : ByteArray := prog_32_method_48_code
def yJ1_fillNull_b72d1 : MethodName := ⟨RJ1, "fillNull", "([BII)V"⟩
abbrev cJ1_inflate_0e8fd : ByteArray := prog_32_method_50_code
def yJ1_inflate_0e8fd : MethodName := ⟨RJ1, "inflate", "([BI[BII)V"⟩
def RJ2 : String := "java/lang/StringUTF16"
def TJ2 : u_T := fun k => match k with
  | _ => ("", "", "", false)
def tyJ2 : Nat → FieldType := fun k => match k with
  | _ => .int
theorem nmJ2 : ∀ a, a < 0 → ∀ b, b < 0 → a ≠ b → (TJ2 a).2.1 ≠ (TJ2 b).2.1 := by decide +kernel
theorem tyJ2_ok : ∀ k, k < 0 → parseFieldDescriptor (TJ2 k).2.2.1 = some (tyJ2 k) := by decide +kernel
abbrev cJ2_newBytesFor_77867 : ByteArray := prog_33_method_2_code
def yJ2_newBytesFor_77867 : MethodName := ⟨RJ2, "newBytesFor", "(I)[B"⟩
abbrev cJ2_newBytesLength_0f7a4 : ByteArray := prog_33_method_3_code
def yJ2_newBytesLength_0f7a4 : MethodName := ⟨RJ2, "newBytesLength", "(I)I"⟩
abbrev cJ2_putChar_b72d1 : ByteArray := prog_33_method_4_code
def yJ2_putChar_b72d1 : MethodName := ⟨RJ2, "putChar", "([BII)V"⟩
abbrev cJ2_getChar_3b067 : ByteArray := prog_33_method_5_code
def yJ2_getChar_3b067 : MethodName := ⟨RJ2, "getChar", "([BI)C"⟩
abbrev cJ2_length_9d52b : ByteArray := prog_33_method_6_code
def yJ2_length_9d52b : MethodName := ⟨RJ2, "length", "([B)I"⟩
abbrev cJ2_coderFromArrayLen_85cad : ByteArray := prog_33_method_15_code
def yJ2_coderFromArrayLen_85cad : MethodName := ⟨RJ2, "coderFromArrayLen", "([BI)B"⟩
abbrev cJ2_compress_39247 : ByteArray := prog_33_method_17_code
def yJ2_compress_39247 : MethodName := ⟨RJ2, "compress", "([BII)[B"⟩
abbrev cJ2_compress_5af95 : ByteArray := prog_33_method_22_code
def yJ2_compress_5af95 : MethodName := ⟨RJ2, "compress", "([BI[BII)I"⟩
abbrev cJ2_fillNull_b72d1 : ByteArray := prog_33_method_70_code
def yJ2_fillNull_b72d1 : MethodName := ⟨RJ2, "fillNull", "([BII)V"⟩
abbrev cJ2_putCharSB_b72d1 : ByteArray := prog_33_method_71_code
def yJ2_putCharSB_b72d1 : MethodName := ⟨RJ2, "putCharSB", "([BII)V"⟩
abbrev cJ2_getChars_46870 : ByteArray := prog_33_method_77_code
def yJ2_getChars_46870 : MethodName := ⟨RJ2, "getChars", "(III[B)I"⟩
abbrev cJ2_putCharsAt_cd4e5 : ByteArray := prog_33_method_81_code
def yJ2_putCharsAt_cd4e5 : MethodName := ⟨RJ2, "putCharsAt", "([BICCCC)I"⟩
abbrev cJ2_charAt_3b067 : ByteArray := prog_33_method_83_code
def yJ2_charAt_3b067 : MethodName := ⟨RJ2, "charAt", "([BI)C"⟩
abbrev cJ2_inflate_0e8fd : ByteArray := prog_33_method_86_code
def yJ2_inflate_0e8fd : MethodName := ⟨RJ2, "inflate", "([BI[BII)V"⟩
abbrev cJ2_getChars_ba4f3 : ByteArray := prog_33_method_89_code
def yJ2_getChars_ba4f3 : MethodName := ⟨RJ2, "getChars", "(II[B)I"⟩
abbrev cJ2_checkIndex_2214a : ByteArray := prog_33_method_91_code
def yJ2_checkIndex_2214a : MethodName := ⟨RJ2, "checkIndex", "(I[B)V"⟩
abbrev cJ2_checkBoundsBeginEnd_d044e : ByteArray := prog_33_method_93_code
def yJ2_checkBoundsBeginEnd_d044e : MethodName := ⟨RJ2, "checkBoundsBeginEnd", "(II[B)V"⟩
abbrev cJ2_checkBoundsOffCount_d044e : ByteArray := prog_33_method_94_code
def yJ2_checkBoundsOffCount_d044e : MethodName := ⟨RJ2, "checkBoundsOffCount", "(II[B)V"⟩
def RJ10 : String := "java/lang/System"
def TJ10 : u_T := fun k => match k with
  | _ => ("", "", "", false)
def tyJ10 : Nat → FieldType := fun k => match k with
  | _ => .int
theorem nmJ10 : ∀ a, a < 0 → ∀ b, b < 0 → a ≠ b → (TJ10 a).2.1 ≠ (TJ10 b).2.1 := by decide +kernel
theorem tyJ10_ok : ∀ k, k < 0 → parseFieldDescriptor (TJ10 k).2.2.1 = some (tyJ10 k) := by decide +kernel
def RJxfd54e : String := "java/lang/constant/Constable"
def TJxfd54e : u_T := fun k => match k with
  | _ => ("", "", "", false)
def tyJxfd54e : Nat → FieldType := fun k => match k with
  | _ => .int
theorem nmJxfd54e : ∀ a, a < 0 → ∀ b, b < 0 → a ≠ b → (TJxfd54e a).2.1 ≠ (TJxfd54e b).2.1 := by decide +kernel
theorem tyJxfd54e_ok : ∀ k, k < 0 → parseFieldDescriptor (TJxfd54e k).2.2.1 = some (tyJxfd54e k) := by decide +kernel
def RJx3cf43 : String := "java/lang/constant/ConstantDesc"
def TJx3cf43 : u_T := fun k => match k with
  | _ => ("", "", "", false)
def tyJx3cf43 : Nat → FieldType := fun k => match k with
  | _ => .int
theorem nmJx3cf43 : ∀ a, a < 0 → ∀ b, b < 0 → a ≠ b → (TJx3cf43 a).2.1 ≠ (TJx3cf43 b).2.1 := by decide +kernel
theorem tyJx3cf43_ok : ∀ k, k < 0 → parseFieldDescriptor (TJx3cf43 k).2.2.1 = some (tyJx3cf43 k) := by decide +kernel
def RJ7 : String := "java/util/Arrays"
def TJ7 : u_T := fun k => match k with
  | _ => ("", "", "", false)
def tyJ7 : Nat → FieldType := fun k => match k with
  | _ => .int
theorem nmJ7 : ∀ a, a < 0 → ∀ b, b < 0 → a ≠ b → (TJ7 a).2.1 ≠ (TJ7 b).2.1 := by decide +kernel
theorem tyJ7_ok : ∀ k, k < 0 → parseFieldDescriptor (TJ7 k).2.2.1 = some (tyJ7 k) := by decide +kernel
abbrev cJ7_rangeCheck_23922 : ByteArray := prog_39_method_30_code
def yJ7_rangeCheck_23922 : MethodName := ⟨RJ7, "rangeCheck", "(III)V"⟩
abbrev cJ7_fill_eb02e : ByteArray := prog_39_method_110_code
def yJ7_fill_eb02e : MethodName := ⟨RJ7, "fill", "([BIIB)V"⟩
abbrev cJ7_copyOf_9075b : ByteArray := prog_39_method_121_code
def yJ7_copyOf_9075b : MethodName := ⟨RJ7, "copyOf", "([BI)[B"⟩
abbrev cJ7_checkLength_df160 : ByteArray := prog_39_method_131_code
def yJ7_checkLength_df160 : MethodName := ⟨RJ7, "checkLength", "(II)V"⟩
abbrev cJ7_copyOfRange_39247 : ByteArray := prog_39_method_132_code
def yJ7_copyOfRange_39247 : MethodName := ⟨RJ7, "copyOfRange", "([BII)[B"⟩
abbrev cJ7_copyOfRangeByte_39247 : ByteArray := prog_39_method_133_code
def yJ7_copyOfRangeByte_39247 : MethodName := ⟨RJ7, "copyOfRangeByte", "([BII)[B"⟩
def RJ8 : String := "jdk/internal/util/ArraysSupport"
def TJ8 : u_T := fun k => match k with
  | _ => ("", "", "", false)
def tyJ8 : Nat → FieldType := fun k => match k with
  | _ => .int
theorem nmJ8 : ∀ a, a < 0 → ∀ b, b < 0 → a ≠ b → (TJ8 a).2.1 ≠ (TJ8 b).2.1 := by decide +kernel
theorem tyJ8_ok : ∀ k, k < 0 → parseFieldDescriptor (TJ8 k).2.2.1 = some (tyJ8 k) := by decide +kernel
abbrev cJ8_newLength_cabcc : ByteArray := prog_41_method_27_code
def yJ8_newLength_cabcc : MethodName := ⟨RJ8, "newLength", "(III)I"⟩
abbrev cJ8_hugeLength_7cf53 : ByteArray := prog_41_method_28_code
def yJ8_hugeLength_7cf53 : MethodName := ⟨RJ8, "hugeLength", "(II)I"⟩
def RJ3 : String := "jdk/internal/util/Preconditions"
def TJ3 : u_T := fun k => match k with
  | _ => ("", "", "", false)
def tyJ3 : Nat → FieldType := fun k => match k with
  | _ => .int
theorem nmJ3 : ∀ a, a < 0 → ∀ b, b < 0 → a ≠ b → (TJ3 a).2.1 ≠ (TJ3 b).2.1 := by decide +kernel
theorem tyJ3_ok : ∀ k, k < 0 → parseFieldDescriptor (TJ3 k).2.2.1 = some (tyJ3 k) := by decide +kernel
abbrev cJ3_checkIndex_8e157 : ByteArray := prog_42_method_11_code
def yJ3_checkIndex_8e157 : MethodName := ⟨RJ3, "checkIndex", "(IILjava/util/function/BiFunction;)I"⟩
abbrev cJ3_checkFromToIndex_8c36e : ByteArray := prog_42_method_12_code
def yJ3_checkFromToIndex_8c36e : MethodName := ⟨RJ3, "checkFromToIndex", "(IIILjava/util/function/BiFunction;)I"⟩
abbrev cJ3_checkFromIndexSize_8c36e : ByteArray := prog_42_method_13_code
def yJ3_checkFromIndexSize_8c36e : MethodName := ⟨RJ3, "checkFromIndexSize", "(IIILjava/util/function/BiFunction;)I"⟩
def RL : String := "FountainShowLaw"
abbrev cL_addJet : ByteArray := method_3_code
def yL_addJet : MethodName := ⟨RL, "addJet", "(LFountainShow;I[J)I"⟩
abbrev cL_removeJet : ByteArray := method_4_code
def yL_removeJet : MethodName := ⟨RL, "removeJet", "(LFountainShow;I[J)I"⟩
abbrev cL_setOpening : ByteArray := method_5_code
def yL_setOpening : MethodName := ⟨RL, "setOpening", "(LFountainShow;II[J)I"⟩
abbrev cL_position : ByteArray := method_6_code
def yL_position : MethodName := ⟨RL, "position", "(LFountainShow;I[J)I"⟩
abbrev cL_opening : ByteArray := method_7_code
def yL_opening : MethodName := ⟨RL, "opening", "(LFountainShow;I[J)I"⟩
abbrev cL_height : ByteArray := method_8_code
def yL_height : MethodName := ⟨RL, "height", "(LFountainShow;I[J)I"⟩
abbrev cL_landing : ByteArray := method_9_code
def yL_landing : MethodName := ⟨RL, "landing", "(LFountainShow;I[J)I"⟩
abbrev cL_isWild : ByteArray := method_10_code
def yL_isWild : MethodName := ⟨RL, "isWild", "(LFountainShow;I[J)I"⟩
abbrev cL_highestJet : ByteArray := method_11_code
def yL_highestJet : MethodName := ⟨RL, "highestJet", "(LFountainShow;[J)I"⟩
abbrev cL_jetByPosition : ByteArray := method_12_code
def yL_jetByPosition : MethodName := ⟨RL, "jetByPosition", "(LFountainShow;I[J)I"⟩
abbrev cL_nearestLanding : ByteArray := method_13_code
def yL_nearestLanding : MethodName := ⟨RL, "nearestLanding", "(LFountainShow;I[J)I"⟩
abbrev cL_setCapacity : ByteArray := method_14_code
def yL_setCapacity : MethodName := ⟨RL, "setCapacity", "(LFountainShow;I[J)I"⟩
abbrev cL_setWind : ByteArray := method_15_code
def yL_setWind : MethodName := ⟨RL, "setWind", "(LFountainShow;I[J)I"⟩
abbrev cL_addFigure : ByteArray := method_16_code
def yL_addFigure : MethodName := ⟨RL, "addFigure", "(LFountainShow;[J)I"⟩
abbrev cL_removeFigure : ByteArray := method_17_code
def yL_removeFigure : MethodName := ⟨RL, "removeFigure", "(LFountainShow;I[J)I"⟩
abbrev cL_addStep : ByteArray := method_18_code
def yL_addStep : MethodName := ⟨RL, "addStep", "(LFountainShow;IIII[J)I"⟩
abbrev cL_removeStep : ByteArray := method_19_code
def yL_removeStep : MethodName := ⟨RL, "removeStep", "(LFountainShow;II[J)I"⟩
abbrev cL_stepCount : ByteArray := method_20_code
def yL_stepCount : MethodName := ⟨RL, "stepCount", "(LFountainShow;I[J)I"⟩
abbrev cL_stepDelay : ByteArray := method_21_code
def yL_stepDelay : MethodName := ⟨RL, "stepDelay", "(LFountainShow;II[J)I"⟩
abbrev cL_stepJet : ByteArray := method_22_code
def yL_stepJet : MethodName := ⟨RL, "stepJet", "(LFountainShow;II[J)I"⟩
abbrev cL_stepOpening : ByteArray := method_23_code
def yL_stepOpening : MethodName := ⟨RL, "stepOpening", "(LFountainShow;II[J)I"⟩
abbrev cL_figureLength : ByteArray := method_24_code
def yL_figureLength : MethodName := ⟨RL, "figureLength", "(LFountainShow;I[J)I"⟩
abbrev cL_figuresUsing : ByteArray := method_25_code
def yL_figuresUsing : MethodName := ⟨RL, "figuresUsing", "(LFountainShow;I[J)I"⟩
abbrev cL_play : ByteArray := method_26_code
def yL_play : MethodName := ⟨RL, "play", "(LFountainShow;II[J)I"⟩
abbrev cL_cancel : ByteArray := method_27_code
def yL_cancel : MethodName := ⟨RL, "cancel", "(LFountainShow;I[J)I"⟩
abbrev cL_pass : ByteArray := method_28_code
def yL_pass : MethodName := ⟨RL, "pass", "(LFountainShow;I[J)I"⟩
abbrev cL_entryFigure : ByteArray := method_29_code
def yL_entryFigure : MethodName := ⟨RL, "entryFigure", "(LFountainShow;I[J)I"⟩
abbrev cL_entryStart : ByteArray := method_30_code
def yL_entryStart : MethodName := ⟨RL, "entryStart", "(LFountainShow;I[J)I"⟩
abbrev cL_demandAfter : ByteArray := method_31_code
def yL_demandAfter : MethodName := ⟨RL, "demandAfter", "(LFountainShow;I[J)I"⟩
abbrev cL_demandAfterBySteps : ByteArray := method_32_code
def yL_demandAfterBySteps : MethodName := ⟨RL, "demandAfterBySteps", "(LFountainShow;I[J)I"⟩
abbrev cL_firstOverload : ByteArray := method_33_code
def yL_firstOverload : MethodName := ⟨RL, "firstOverload", "(LFountainShow;I[J)I"⟩
abbrev cL_meanOpening : ByteArray := method_34_code
def yL_meanOpening : MethodName := ⟨RL, "meanOpening", "(LFountainShow;[D)I"⟩
abbrev cL_supplyFraction : ByteArray := method_35_code
def yL_supplyFraction : MethodName := ⟨RL, "supplyFraction", "(LFountainShow;[D)I"⟩
abbrev cL_writeFigure : ByteArray := method_36_code
def yL_writeFigure : MethodName := ⟨RL, "writeFigure", "(LFountainShow;I[J)I"⟩
abbrev cL_outputCharacter : ByteArray := method_37_code
def yL_outputCharacter : MethodName := ⟨RL, "outputCharacter", "(LFountainShow;I[J)I"⟩
abbrev cL_feed : ByteArray := method_38_code
def yL_feed : MethodName := ⟨RL, "feed", "(LFountainShow;C[J)I"⟩
abbrev cL_execute : ByteArray := method_39_code
def yL_execute : MethodName := ⟨RL, "execute", "(LFountainShow;[J)I"⟩
abbrev cL_errorPosition : ByteArray := method_40_code
def yL_errorPosition : MethodName := ⟨RL, "errorPosition", "(LFountainShow;[J)I"⟩
abbrev cL_failedCommand : ByteArray := method_41_code
def yL_failedCommand : MethodName := ⟨RL, "failedCommand", "(LFountainShow;[J)I"⟩
abbrev cL_undo : ByteArray := method_42_code
def yL_undo : MethodName := ⟨RL, "undo", "(LFountainShow;[J)I"⟩
abbrev cL_restore : ByteArray := method_43_code
def yL_restore : MethodName := ⟨RL, "restore", "(LFountainShow;[J)I"⟩
abbrev cL_law : ByteArray := code
def yL_law : MethodName := ⟨RL, "law", "([I)Z"⟩
abbrev MI : Type := MethodName × ByteArray × Nat × Option FieldType × List (Nat × Nat × Nat × Nat)
abbrev mX2_init : MI := (yX2_init, cX2_init, 1, none, [])
abbrev mX2_copyFrom : MI := (yX2_copyFrom, cX2_copyFrom, 2, none, [])
abbrev mX2_has : MI := (yX2_has, cX2_has, 2, (some .boolean), [])
abbrev mX2_hasStep : MI := (yX2_hasStep, cX2_hasStep, 3, (some .boolean), [])
abbrev mX2_problemOfAdding : MI := (yX2_problemOfAdding, cX2_problemOfAdding, 1, (some (.object "FountainShow$Problem")), [])
abbrev mX2_append : MI := (yX2_append, cX2_append, 1, (some .int), [])
abbrev mX2_drop : MI := (yX2_drop, cX2_drop, 4, (some .int), [])
abbrev mX2_moveStep : MI := (yX2_moveStep, cX2_moveStep, 3, none, [])
abbrev mX2_appendStep : MI := (yX2_appendStep, cX2_appendStep, 6, (some .int), [])
abbrev mX2_dropStep : MI := (yX2_dropStep, cX2_dropStep, 4, (some .int), [])
abbrev mX2_lengthOf : MI := (yX2_lengthOf, cX2_lengthOf, 5, (some .int), [])
abbrev mX2_countUsing : MI := (yX2_countUsing, cX2_countUsing, 4, (some .int), [])
abbrev mX2_uses : MI := (yX2_uses, cX2_uses, 4, (some .boolean), [])
abbrev mX2_forgetJet : MI := (yX2_forgetJet, cX2_forgetJet, 4, (some .int), [])
abbrev mX2_forgetJetIn : MI := (yX2_forgetJetIn, cX2_forgetJetIn, 8, (some .int), [])
abbrev mX3_init : MI := (yX3_init, cX3_init, 1, none, [])
abbrev mX3_copyFrom : MI := (yX3_copyFrom, cX3_copyFrom, 2, none, [])
abbrev mX3_has : MI := (yX3_has, cX3_has, 2, (some .boolean), [])
abbrev mX3_problemOfAdding : MI := (yX3_problemOfAdding, cX3_problemOfAdding, 2, (some (.object "FountainShow$Problem")), [])
abbrev mX3_isTaken : MI := (yX3_isTaken, cX3_isTaken, 3, (some .boolean), [])
abbrev mX3_append : MI := (yX3_append, cX3_append, 2, (some .int), [])
abbrev mX3_drop : MI := (yX3_drop, cX3_drop, 3, none, [])
abbrev mX3_problemOfOpening : MI := (yX3_problemOfOpening, cX3_problemOfOpening, 3, (some (.object "FountainShow$Problem")), [])
abbrev mX3_changeOpening : MI := (yX3_changeOpening, cX3_changeOpening, 4, (some .int), [])
abbrev mX3_problemOfCapacity : MI := (yX3_problemOfCapacity, cX3_problemOfCapacity, 2, (some (.object "FountainShow$Problem")), [])
abbrev mX3_changeCapacity : MI := (yX3_changeCapacity, cX3_changeCapacity, 3, (some .int), [])
abbrev mX3_problemOfWind : MI := (yX3_problemOfWind, cX3_problemOfWind, 2, (some (.object "FountainShow$Problem")), [])
abbrev mX3_changeWind : MI := (yX3_changeWind, cX3_changeWind, 3, (some .int), [])
abbrev mX3_sumOfOpenings : MI := (yX3_sumOfOpenings, cX3_sumOfOpenings, 3, (some .int), [])
abbrev mX3_supplyFor : MI := (yX3_supplyFor, cX3_supplyFor, 2, (some .int), [])
abbrev mX3_heightOf : MI := (yX3_heightOf, cX3_heightOf, 4, (some .int), [])
abbrev mX3_landingOf : MI := (yX3_landingOf, cX3_landingOf, 3, (some .int), [])
abbrev mX3_isOutside : MI := (yX3_isOutside, cX3_isOutside, 1, (some .boolean), [])
abbrev mX3_countWild : MI := (yX3_countWild, cX3_countWild, 4, (some .int), [])
abbrev mX3_findFirstWild : MI := (yX3_findFirstWild, cX3_findFirstWild, 3, (some .int), [])
abbrev mX3_closeWildJets : MI := (yX3_closeWildJets, cX3_closeWildJets, 3, (some .int), [])
abbrev mX3_findHighest : MI := (yX3_findHighest, cX3_findHighest, 4, (some .int), [])
abbrev mX3_findByRank : MI := (yX3_findByRank, cX3_findByRank, 3, (some .int), [])
abbrev mX3_rankOf : MI := (yX3_rankOf, cX3_rankOf, 4, (some .int), [])
abbrev mX3_findNearestLanding : MI := (yX3_findNearestLanding, cX3_findNearestLanding, 5, (some .int), [])
abbrev mX3_distance : MI := (yX3_distance, cX3_distance, 4, (some .long), [])
abbrev mX3_countCrossingPairs : MI := (yX3_countCrossingPairs, cX3_countCrossingPairs, 5, (some .int), [])
abbrev mX4_init : MI := (yX4_init, cX4_init, 1, none, [])
abbrev mX4_countInversions : MI := (yX4_countInversions, cX4_countInversions, 6, (some .int), [])
abbrev mX4_takeLandings : MI := (yX4_takeLandings, cX4_takeLandings, 4, none, [])
abbrev mX4_merge : MI := (yX4_merge, cX4_merge, 8, (some .int), [])
abbrev mX6_init : MI := (yX6_init, cX6_init, 1, none, [])
abbrev mX6_isFull : MI := (yX6_isFull, cX6_isFull, 1, (some .boolean), [])
abbrev mX6_append : MI := (yX6_append, cX6_append, 2, (some .int), [])
abbrev mX6_findError : MI := (yX6_findError, cX6_findError, 1, (some .int), [])
abbrev mX6_skipSemicolon : MI := (yX6_skipSemicolon, cX6_skipSemicolon, 1, (some .boolean), [])
abbrev mX6_readCommand : MI := (yX6_readCommand, cX6_readCommand, 4, (some .boolean), [])
abbrev mX6_fits : MI := (yX6_fits, cX6_fits, 3, (some .boolean), [])
abbrev mX6_takePart : MI := (yX6_takePart, cX6_takePart, 2, (some .boolean), [])
abbrev mX6_takeNumber : MI := (yX6_takeNumber, cX6_takeNumber, 4, (some .boolean), [])
abbrev mX6_standsAtDigit : MI := (yX6_standsAtDigit, cX6_standsAtDigit, 1, (some .boolean), [])
abbrev mX6_takeSign : MI := (yX6_takeSign, cX6_takeSign, 1, (some .boolean), [])
abbrev mX6_takeCharacter : MI := (yX6_takeCharacter, cX6_takeCharacter, 2, (some .boolean), [])
abbrev mX6_keepNumber : MI := (yX6_keepNumber, cX6_keepNumber, 2, none, [])
abbrev mX7_init : MI := (yX7_init, cX7_init, 1, none, [])
abbrev mX7_copyFrom : MI := (yX7_copyFrom, cX7_copyFrom, 2, none, [])
abbrev mX7_dropJet : MI := (yX7_dropJet, cX7_dropJet, 2, (some .int), [])
abbrev mX7_problemOfDroppingFigure : MI := (yX7_problemOfDroppingFigure, cX7_problemOfDroppingFigure, 3, (some (.object "FountainShow$Problem")), [])
abbrev mX7_dropFigure : MI := (yX7_dropFigure, cX7_dropFigure, 3, (some .int), [])
abbrev mX7_problemOfStep : MI := (yX7_problemOfStep, cX7_problemOfStep, 5, (some (.object "FountainShow$Problem")), [])
abbrev mX7_problemOfPlaying : MI := (yX7_problemOfPlaying, cX7_problemOfPlaying, 3, (some (.object "FountainShow$Problem")), [])
abbrev mX7_appendEntry : MI := (yX7_appendEntry, cX7_appendEntry, 4, (some .int), [])
abbrev mX7_dropEntry : MI := (yX7_dropEntry, cX7_dropEntry, 4, (some .int), [])
abbrev mX7_moveEntry : MI := (yX7_moveEntry, cX7_moveEntry, 3, none, [])
abbrev mX7_problemOfPassing : MI := (yX7_problemOfPassing, cX7_problemOfPassing, 2, (some (.object "FountainShow$Problem")), [])
abbrev mX7_passBeats : MI := (yX7_passBeats, cX7_passBeats, 4, (some .int), [])
abbrev mX7_passOneBeat : MI := (yX7_passOneBeat, cX7_passOneBeat, 4, (some .int), [])
abbrev mX7_happenDueSteps : MI := (yX7_happenDueSteps, cX7_happenDueSteps, 5, none, [])
abbrev mX7_dropFinishedEntries : MI := (yX7_dropFinishedEntries, cX7_dropFinishedEntries, 4, (some .int), [])
abbrev mX7_beatsToEmptyQueue : MI := (yX7_beatsToEmptyQueue, cX7_beatsToEmptyQueue, 4, (some .int), [])
abbrev mX7_demandFromLastSteps : MI := (yX7_demandFromLastSteps, cX7_demandFromLastSteps, 4, (some .int), [])
abbrev mX7_openingFromLastStep : MI := (yX7_openingFromLastStep, cX7_openingFromLastStep, 10, (some .int), [])
abbrev mX7_problemOf : MI := (yX7_problemOf, cX7_problemOf, 3, (some (.object "FountainShow$Problem")), [])
abbrev mX7_carryOut : MI := (yX7_carryOut, cX7_carryOut, 3, none, [])
abbrev mX8_init : MI := (yX8_init, cX8_init, 2, none, [])
abbrev mX8_addJet : MI := (yX8_addJet, cX8_addJet, 2, (some .int), [])
abbrev mX8_removeJet : MI := (yX8_removeJet, cX8_removeJet, 2, (some .int), [])
abbrev mX8_setOpening : MI := (yX8_setOpening, cX8_setOpening, 3, (some .int), [])
abbrev mX8_jetCount : MI := (yX8_jetCount, cX8_jetCount, 1, (some .int), [])
abbrev mX8_position : MI := (yX8_position, cX8_position, 2, (some .int), [])
abbrev mX8_opening : MI := (yX8_opening, cX8_opening, 2, (some .int), [])
abbrev mX8_height : MI := (yX8_height, cX8_height, 2, (some .int), [])
abbrev mX8_landing : MI := (yX8_landing, cX8_landing, 2, (some .int), [])
abbrev mX8_isWild : MI := (yX8_isWild, cX8_isWild, 2, (some .boolean), [])
abbrev mX8_wildCount : MI := (yX8_wildCount, cX8_wildCount, 1, (some .int), [])
abbrev mX8_highestJet : MI := (yX8_highestJet, cX8_highestJet, 1, (some .int), [])
abbrev mX8_jetByPosition : MI := (yX8_jetByPosition, cX8_jetByPosition, 2, (some .int), [])
abbrev mX8_nearestLanding : MI := (yX8_nearestLanding, cX8_nearestLanding, 2, (some .int), [])
abbrev mX8_crossings : MI := (yX8_crossings, cX8_crossings, 1, (some .int), [])
abbrev mX8_crossingsByMerging : MI := (yX8_crossingsByMerging, cX8_crossingsByMerging, 1, (some .int), [])
abbrev mX8_setCapacity : MI := (yX8_setCapacity, cX8_setCapacity, 2, (some .int), [])
abbrev mX8_setWind : MI := (yX8_setWind, cX8_setWind, 2, (some .int), [])
abbrev mX8_trim : MI := (yX8_trim, cX8_trim, 1, (some .int), [])
abbrev mX8_capacity : MI := (yX8_capacity, cX8_capacity, 1, (some .int), [])
abbrev mX8_wind : MI := (yX8_wind, cX8_wind, 1, (some .int), [])
abbrev mX8_demand : MI := (yX8_demand, cX8_demand, 1, (some .int), [])
abbrev mX8_supply : MI := (yX8_supply, cX8_supply, 1, (some .int), [])
abbrev mX8_pumped : MI := (yX8_pumped, cX8_pumped, 1, (some .long), [])
abbrev mX8_shortage : MI := (yX8_shortage, cX8_shortage, 1, (some .long), [])
abbrev mX8_addFigure : MI := (yX8_addFigure, cX8_addFigure, 1, (some .int), [])
abbrev mX8_removeFigure : MI := (yX8_removeFigure, cX8_removeFigure, 2, (some .int), [])
abbrev mX8_addStep : MI := (yX8_addStep, cX8_addStep, 5, (some .int), [])
abbrev mX8_removeStep : MI := (yX8_removeStep, cX8_removeStep, 3, (some .int), [])
abbrev mX8_figureCount : MI := (yX8_figureCount, cX8_figureCount, 1, (some .int), [])
abbrev mX8_stepCount : MI := (yX8_stepCount, cX8_stepCount, 2, (some .int), [])
abbrev mX8_stepDelay : MI := (yX8_stepDelay, cX8_stepDelay, 3, (some .int), [])
abbrev mX8_stepJet : MI := (yX8_stepJet, cX8_stepJet, 3, (some .int), [])
abbrev mX8_stepOpening : MI := (yX8_stepOpening, cX8_stepOpening, 3, (some .int), [])
abbrev mX8_figureLength : MI := (yX8_figureLength, cX8_figureLength, 2, (some .int), [])
abbrev mX8_figuresUsing : MI := (yX8_figuresUsing, cX8_figuresUsing, 2, (some .int), [])
abbrev mX8_play : MI := (yX8_play, cX8_play, 3, (some .int), [])
abbrev mX8_cancel : MI := (yX8_cancel, cX8_cancel, 2, (some .int), [])
abbrev mX8_pass : MI := (yX8_pass, cX8_pass, 2, (some .int), [])
abbrev mX8_beat : MI := (yX8_beat, cX8_beat, 1, (some .int), [])
abbrev mX8_queueLength : MI := (yX8_queueLength, cX8_queueLength, 1, (some .int), [])
abbrev mX8_entryFigure : MI := (yX8_entryFigure, cX8_entryFigure, 2, (some .int), [])
abbrev mX8_entryStart : MI := (yX8_entryStart, cX8_entryStart, 2, (some .int), [])
abbrev mX8_beatsUntilEmpty : MI := (yX8_beatsUntilEmpty, cX8_beatsUntilEmpty, 1, (some .int), [])
abbrev mX8_demandAfter : MI := (yX8_demandAfter, cX8_demandAfter, 2, (some .int), [])
abbrev mX8_demandAfterBySteps : MI := (yX8_demandAfterBySteps, cX8_demandAfterBySteps, 2, (some .int), [])
abbrev mX8_firstOverload : MI := (yX8_firstOverload, cX8_firstOverload, 3, (some .int), [])
abbrev mX8_meanOpening : MI := (yX8_meanOpening, cX8_meanOpening, 2, (some .double), [])
abbrev mX8_supplyFraction : MI := (yX8_supplyFraction, cX8_supplyFraction, 2, (some .float), [])
abbrev mX8_writeFigure : MI := (yX8_writeFigure, cX8_writeFigure, 3, (some .int), [])
abbrev mX8_outputCharacter : MI := (yX8_outputCharacter, cX8_outputCharacter, 2, (some .char), [])
abbrev mX8_isConsistent : MI := (yX8_isConsistent, cX8_isConsistent, 2, (some .boolean), [])
abbrev mX8_feed : MI := (yX8_feed, cX8_feed, 2, (some .int), [])
abbrev mX8_execute : MI := (yX8_execute, cX8_execute, 3, (some .int), [])
abbrev mX8_errorPosition : MI := (yX8_errorPosition, cX8_errorPosition, 1, (some .int), [])
abbrev mX8_failedCommand : MI := (yX8_failedCommand, cX8_failedCommand, 1, (some .int), [])
abbrev mX8_undo : MI := (yX8_undo, cX8_undo, 1, (some .int), [])
abbrev mX8_undoCount : MI := (yX8_undoCount, cX8_undoCount, 1, (some .int), [])
abbrev mX8_save : MI := (yX8_save, cX8_save, 1, (some .int), [])
abbrev mX8_restore : MI := (yX8_restore, cX8_restore, 1, (some .int), [])
abbrev mX8_remember : MI := (yX8_remember, cX8_remember, 1, none, [])
abbrev mX8_refuse : MI := (yX8_refuse, cX8_refuse, 1, none, [])
abbrev mX8_requireJet : MI := (yX8_requireJet, cX8_requireJet, 2, none, [])
abbrev mX8_requireAnyJet : MI := (yX8_requireAnyJet, cX8_requireAnyJet, 1, none, [])
abbrev mX8_requireFigure : MI := (yX8_requireFigure, cX8_requireFigure, 2, none, [])
abbrev mX8_requireStep : MI := (yX8_requireStep, cX8_requireStep, 3, none, [])
abbrev mX8_requireEntry : MI := (yX8_requireEntry, cX8_requireEntry, 2, none, [])
abbrev mX8_requireForecast : MI := (yX8_requireForecast, cX8_requireForecast, 1, none, [])
abbrev mX8_slot : MI := (yX8_slot, cX8_slot, 2, (some .int), [])
abbrev mX8_writeStep : MI := (yX8_writeStep, cX8_writeStep, 2, none, [])
abbrev mX8_performUntilProblem : MI := (yX8_performUntilProblem, cX8_performUntilProblem, 2, (some .int), [])
abbrev mX9_init : MI := (yX9_init, cX9_init, 1, none, [])
abbrev mX9_thrown : MI := (yX9_thrown, cX9_thrown, 1, (some .int), [])
abbrev mX9_fails : MI := (yX9_fails, cX9_fails, 2, (some .int), [])
abbrev mX9_in : MI := (yX9_in, cX9_in, 3, (some .boolean), [])
abbrev mX9_remembers : MI := (yX9_remembers, cX9_remembers, 2, none, [])
abbrev mX9_changed : MI := (yX9_changed, cX9_changed, 3, (some .int), [])
abbrev mX9_done : MI := (yX9_done, cX9_done, 2, (some .int), [])
abbrev mX9_ends : MI := (yX9_ends, cX9_ends, 2, (some .int), [])
abbrev mX9_isJet : MI := (yX9_isJet, cX9_isJet, 2, (some .boolean), [])
abbrev mX9_isFigure : MI := (yX9_isFigure, cX9_isFigure, 2, (some .boolean), [])
abbrev mX9_isEntry : MI := (yX9_isEntry, cX9_isEntry, 2, (some .boolean), [])
abbrev mX9_place : MI := (yX9_place, cX9_place, 2, (some .int), [])
abbrev mX9_valve : MI := (yX9_valve, cX9_valve, 2, (some .int), [])
abbrev mX9_steps : MI := (yX9_steps, cX9_steps, 2, (some .int), [])
abbrev mX9_at : MI := (yX9_at, cX9_at, 4, (some .int), [])
abbrev mX9_asked : MI := (yX9_asked, cX9_asked, 3, (some .int), [])
abbrev mX9_given : MI := (yX9_given, cX9_given, 1, (some .int), [])
abbrev mX9_high : MI := (yX9_high, cX9_high, 2, (some .int), [])
abbrev mX9_lands : MI := (yX9_lands, cX9_lands, 2, (some .int), [])
abbrev mX9_wild : MI := (yX9_wild, cX9_wild, 2, (some .boolean), [])
abbrev mX9_lasts : MI := (yX9_lasts, cX9_lasts, 4, (some .int), [])
abbrev mX9_due : MI := (yX9_due, cX9_due, 2, (some .int), [])
abbrev mX9_addsJet : MI := (yX9_addsJet, cX9_addsJet, 3, (some .int), [])
abbrev mX9_cuts : MI := (yX9_cuts, cX9_cuts, 6, none, [])
abbrev mX9_removesJet : MI := (yX9_removesJet, cX9_removesJet, 5, (some .int), [])
abbrev mX9_opens : MI := (yX9_opens, cX9_opens, 4, (some .int), [])
abbrev mX9_pumps : MI := (yX9_pumps, cX9_pumps, 3, (some .int), [])
abbrev mX9_blows : MI := (yX9_blows, cX9_blows, 3, (some .int), [])
abbrev mX9_trims : MI := (yX9_trims, cX9_trims, 3, (some .int), [])
abbrev mX9_addsFigure : MI := (yX9_addsFigure, cX9_addsFigure, 3, (some .int), [])
abbrev mX9_removesFigure : MI := (yX9_removesFigure, cX9_removesFigure, 5, (some .int), [])
abbrev mX9_addsStep : MI := (yX9_addsStep, cX9_addsStep, 7, (some .int), [])
abbrev mX9_isStep : MI := (yX9_isStep, cX9_isStep, 3, (some .boolean), [])
abbrev mX9_removesStep : MI := (yX9_removesStep, cX9_removesStep, 3, (some .int), [])
abbrev mX9_plays : MI := (yX9_plays, cX9_plays, 4, (some .int), [])
abbrev mX9_drops : MI := (yX9_drops, cX9_drops, 4, none, [])
abbrev mX9_cancels : MI := (yX9_cancels, cX9_cancels, 3, (some .int), [])
abbrev mX9_oneBeat : MI := (yX9_oneBeat, cX9_oneBeat, 4, (some .int), [])
abbrev mX9_passes : MI := (yX9_passes, cX9_passes, 4, (some .int), [])
abbrev mX9_addJet : MI := (yX9_addJet, cX9_addJet, 2, (some .int), [])
abbrev mX9_removeJet : MI := (yX9_removeJet, cX9_removeJet, 2, (some .int), [])
abbrev mX9_setOpening : MI := (yX9_setOpening, cX9_setOpening, 3, (some .int), [])
abbrev mX9_jetCount : MI := (yX9_jetCount, cX9_jetCount, 1, (some .int), [])
abbrev mX9_isAsked : MI := (yX9_isAsked, cX9_isAsked, 2, (some .boolean), [])
abbrev mX9_position : MI := (yX9_position, cX9_position, 2, (some .int), [])
abbrev mX9_opening : MI := (yX9_opening, cX9_opening, 2, (some .int), [])
abbrev mX9_height : MI := (yX9_height, cX9_height, 2, (some .int), [])
abbrev mX9_landing : MI := (yX9_landing, cX9_landing, 2, (some .int), [])
abbrev mX9_isWild : MI := (yX9_isWild, cX9_isWild, 2, (some .boolean), [])
abbrev mX9_wildCount : MI := (yX9_wildCount, cX9_wildCount, 3, (some .int), [])
abbrev mX9_highestJet : MI := (yX9_highestJet, cX9_highestJet, 3, (some .int), [])
abbrev mX9_jetByPosition : MI := (yX9_jetByPosition, cX9_jetByPosition, 5, (some .int), [])
abbrev mX9_away : MI := (yX9_away, cX9_away, 5, (some .long), [])
abbrev mX9_nearestLanding : MI := (yX9_nearestLanding, cX9_nearestLanding, 4, (some .int), [])
abbrev mX9_crossings : MI := (yX9_crossings, cX9_crossings, 4, (some .int), [])
abbrev mX9_crossingsByMerging : MI := (yX9_crossingsByMerging, cX9_crossingsByMerging, 1, (some .int), [])
abbrev mX9_setCapacity : MI := (yX9_setCapacity, cX9_setCapacity, 2, (some .int), [])
abbrev mX9_setWind : MI := (yX9_setWind, cX9_setWind, 2, (some .int), [])
abbrev mX9_trim : MI := (yX9_trim, cX9_trim, 1, (some .int), [])
abbrev mX9_capacity : MI := (yX9_capacity, cX9_capacity, 1, (some .int), [])
abbrev mX9_wind : MI := (yX9_wind, cX9_wind, 1, (some .int), [])
abbrev mX9_demand : MI := (yX9_demand, cX9_demand, 1, (some .int), [])
abbrev mX9_supply : MI := (yX9_supply, cX9_supply, 1, (some .int), [])
abbrev mX9_pumped : MI := (yX9_pumped, cX9_pumped, 1, (some .long), [])
abbrev mX9_shortage : MI := (yX9_shortage, cX9_shortage, 1, (some .long), [])
abbrev mX9_addFigure : MI := (yX9_addFigure, cX9_addFigure, 1, (some .int), [])
abbrev mX9_removeFigure : MI := (yX9_removeFigure, cX9_removeFigure, 2, (some .int), [])
abbrev mX9_addStep : MI := (yX9_addStep, cX9_addStep, 5, (some .int), [])
abbrev mX9_removeStep : MI := (yX9_removeStep, cX9_removeStep, 3, (some .int), [])
abbrev mX9_figureCount : MI := (yX9_figureCount, cX9_figureCount, 1, (some .int), [])
abbrev mX9_stepCount : MI := (yX9_stepCount, cX9_stepCount, 2, (some .int), [])
abbrev mX9_askedStep : MI := (yX9_askedStep, cX9_askedStep, 4, (some .int), [])
abbrev mX9_stepDelay : MI := (yX9_stepDelay, cX9_stepDelay, 3, (some .int), [])
abbrev mX9_stepJet : MI := (yX9_stepJet, cX9_stepJet, 3, (some .int), [])
abbrev mX9_stepOpening : MI := (yX9_stepOpening, cX9_stepOpening, 3, (some .int), [])
abbrev mX9_figureLength : MI := (yX9_figureLength, cX9_figureLength, 2, (some .int), [])
abbrev mX9_uses : MI := (yX9_uses, cX9_uses, 4, (some .boolean), [])
abbrev mX9_figuresUsing : MI := (yX9_figuresUsing, cX9_figuresUsing, 4, (some .int), [])
abbrev mX9_play : MI := (yX9_play, cX9_play, 3, (some .int), [])
abbrev mX9_cancel : MI := (yX9_cancel, cX9_cancel, 2, (some .int), [])
abbrev mX9_pass : MI := (yX9_pass, cX9_pass, 2, (some .int), [])
abbrev mX9_beat : MI := (yX9_beat, cX9_beat, 1, (some .int), [])
abbrev mX9_queueLength : MI := (yX9_queueLength, cX9_queueLength, 1, (some .int), [])
abbrev mX9_askedEntry : MI := (yX9_askedEntry, cX9_askedEntry, 3, (some .int), [])
abbrev mX9_entryFigure : MI := (yX9_entryFigure, cX9_entryFigure, 2, (some .int), [])
abbrev mX9_entryStart : MI := (yX9_entryStart, cX9_entryStart, 2, (some .int), [])
abbrev mX9_beatsUntilEmpty : MI := (yX9_beatsUntilEmpty, cX9_beatsUntilEmpty, 3, (some .int), [])
abbrev mX9_thinks : MI := (yX9_thinks, cX9_thinks, 2, none, [])
abbrev mX9_forgets : MI := (yX9_forgets, cX9_forgets, 2, none, [])
abbrev mX9_demandAfter : MI := (yX9_demandAfter, cX9_demandAfter, 4, (some .int), [])
abbrev mX9_demandAfterBySteps : MI := (yX9_demandAfterBySteps, cX9_demandAfterBySteps, 2, (some .int), [])
abbrev mX9_firstOverload : MI := (yX9_firstOverload, cX9_firstOverload, 5, (some .int), [])
abbrev mX9_meanOpening : MI := (yX9_meanOpening, cX9_meanOpening, 1, (some .double), [])
abbrev mX9_supplyFraction : MI := (yX9_supplyFraction, cX9_supplyFraction, 1, (some .float), [])
abbrev mX9_writes : MI := (yX9_writes, cX9_writes, 2, none, [])
abbrev mX9_writesNumber : MI := (yX9_writesNumber, cX9_writesNumber, 2, none, [])
abbrev mX9_writeFigure : MI := (yX9_writeFigure, cX9_writeFigure, 3, (some .int), [])
abbrev mX9_outputCharacter : MI := (yX9_outputCharacter, cX9_outputCharacter, 2, (some .char), [])
abbrev mX9_isConsistent : MI := (yX9_isConsistent, cX9_isConsistent, 1, (some .boolean), [])
abbrev mX9_feed : MI := (yX9_feed, cX9_feed, 2, (some .int), [])
abbrev mX9_here : MI := (yX9_here, cX9_here, 2, (some .int), [])
abbrev mX9_says : MI := (yX9_says, cX9_says, 3, none, [])
abbrev mX9_number : MI := (yX9_number, cX9_number, 5, none, [])
abbrev mX9_one : MI := (yX9_one, cX9_one, 4, none, [])
abbrev mX9_two : MI := (yX9_two, cX9_two, 4, none, [])
abbrev mX9_breeze : MI := (yX9_breeze, cX9_breeze, 2, none, [])
abbrev mX9_readsOne : MI := (yX9_readsOne, cX9_readsOne, 2, none, [])
abbrev mX9_does : MI := (yX9_does, cX9_does, 4, (some .int), [])
abbrev mX9_execute : MI := (yX9_execute, cX9_execute, 3, (some .int), [])
abbrev mX9_errorPosition : MI := (yX9_errorPosition, cX9_errorPosition, 1, (some .int), [])
abbrev mX9_failedCommand : MI := (yX9_failedCommand, cX9_failedCommand, 1, (some .int), [])
abbrev mX9_undo : MI := (yX9_undo, cX9_undo, 2, (some .int), [])
abbrev mX9_undoCount : MI := (yX9_undoCount, cX9_undoCount, 1, (some .int), [])
abbrev mX9_save : MI := (yX9_save, cX9_save, 2, (some .int), [])
abbrev mX9_restore : MI := (yX9_restore, cX9_restore, 2, (some .int), [])
abbrev mJ5_init_d00df : MI := (yJ5_init_d00df, cJ5_init_d00df, 2, none, [])
abbrev mJ5_length_8abf5 : MI := (yJ5_length_8abf5, cJ5_length_8abf5, 1, (some .int), [])
abbrev mJ5_ensureCapacityInternal_d00df : MI := (yJ5_ensureCapacityInternal_d00df, cJ5_ensureCapacityInternal_d00df, 3, none, [])
abbrev mJ5_newCapacity_0f7a4 : MI := (yJ5_newCapacity_0f7a4, cJ5_newCapacity_0f7a4, 6, (some .int), [])
abbrev mJ5_inflate_da8c8 : MI := (yJ5_inflate_da8c8, cJ5_inflate_da8c8, 2, none, [])
abbrev mJ5_setLength_d00df : MI := (yJ5_setLength_d00df, cJ5_setLength_d00df, 2, none, [])
abbrev mJ5_charAt_5068e : MI := (yJ5_charAt_5068e, cJ5_charAt_5068e, 5, (some .char), [])
abbrev mJ5_append_cf1ce : MI := (yJ5_append_cf1ce, cJ5_append_cf1ce, 3, (some (.object "java/lang/AbstractStringBuilder")), [])
abbrev mJ5_appendNull_278bc : MI := (yJ5_appendNull_278bc, cJ5_appendNull_278bc, 3, (some (.object "java/lang/AbstractStringBuilder")), [])
abbrev mJ5_append_3fe6f : MI := (yJ5_append_3fe6f, cJ5_append_3fe6f, 2, (some (.object "java/lang/AbstractStringBuilder")), [])
abbrev mJ5_append_c97b9 : MI := (yJ5_append_c97b9, cJ5_append_c97b9, 4, (some (.object "java/lang/AbstractStringBuilder")), [])
abbrev mJ5_getValue_6d5f1 : MI := (yJ5_getValue_6d5f1, cJ5_getValue_6d5f1, 1, (some (.array .byte)), [])
abbrev mJ5_isLatin1_aae02 : MI := (yJ5_isLatin1_aae02, cJ5_isLatin1_aae02, 1, (some .boolean), [])
abbrev mJ5_inflateIfNeededFor_a7421 : MI := (yJ5_inflateIfNeededFor_a7421, cJ5_inflateIfNeededFor_a7421, 2, none, [])
abbrev mJ5_putStringAt_47b60 : MI := (yJ5_putStringAt_47b60, cJ5_putStringAt_47b60, 3, none, [])
abbrev mJx00060_init_a7421 : MI := (yJx00060_init_a7421, cJx00060_init_a7421, 2, none, [])
abbrev mJx00060_init_d00df : MI := (yJx00060_init_d00df, cJx00060_init_d00df, 2, none, [])
abbrev mJx29ce0_ordinal_8abf5 : MI := (yJx29ce0_ordinal_8abf5, cJx29ce0_ordinal_8abf5, 1, (some .int), [])
abbrev mJ6_getChars_ba4f3 : MI := (yJ6_getChars_ba4f3, cJ6_getChars_ba4f3, 7, (some .int), [])
abbrev mJ6_stringSize_0f7a4 : MI := (yJ6_stringSize_0f7a4, cJ6_stringSize_0f7a4, 4, (some .int), [])
abbrev mJ9_abs_067f4 : MI := (yJ9_abs_067f4, cJ9_abs_067f4, 2, (some .long), [])
abbrev mJ9_max_7cf53 : MI := (yJ9_max_7cf53, cJ9_max_7cf53, 2, (some .int), [])
abbrev mJ9_min_7cf53 : MI := (yJ9_min_7cf53, cJ9_min_7cf53, 2, (some .int), [])
abbrev mJ0_init_81219 : MI := (yJ0_init_81219, cJ0_init_81219, 2, none, [])
abbrev mJ0_length_8abf5 : MI := (yJ0_length_8abf5, cJ0_length_8abf5, 1, (some .int), [])
abbrev mJ0_charAt_5068e : MI := (yJ0_charAt_5068e, cJ0_charAt_5068e, 2, (some .char), [])
abbrev mJ0_getBytes_840e7 : MI := (yJ0_getBytes_840e7, cJ0_getBytes_840e7, 4, none, [])
abbrev mJ0_init_db425 : MI := (yJ0_init_db425, cJ0_init_db425, 5, none, [])
abbrev mJ0_coder_7d493 : MI := (yJ0_coder_7d493, cJ0_coder_7d493, 1, (some .byte), [])
abbrev mJ0_isLatin1_aae02 : MI := (yJ0_isLatin1_aae02, cJ0_isLatin1_aae02, 1, (some .boolean), [])
abbrev mJ0_checkIndex_df160 : MI := (yJ0_checkIndex_df160, cJ0_checkIndex_df160, 2, none, [])
abbrev mJ0_checkBoundsOffCount_cabcc : MI := (yJ0_checkBoundsOffCount_cabcc, cJ0_checkBoundsOffCount_cabcc, 3, (some .int), [])
abbrev mJ0_checkBoundsBeginEnd_23922 : MI := (yJ0_checkBoundsBeginEnd_23922, cJ0_checkBoundsBeginEnd_23922, 3, none, [])
abbrev mJ4_init_da8c8 : MI := (yJ4_init_da8c8, cJ4_init_da8c8, 1, none, [])
abbrev mJ4_append_15ec4 : MI := (yJ4_append_15ec4, cJ4_append_15ec4, 2, (some (.object "java/lang/StringBuilder")), [])
abbrev mJ4_append_cf468 : MI := (yJ4_append_cf468, cJ4_append_cf468, 2, (some (.object "java/lang/StringBuilder")), [])
abbrev mJ4_append_bf812 : MI := (yJ4_append_bf812, cJ4_append_bf812, 2, (some (.object "java/lang/StringBuilder")), [])
abbrev mJ4_toString_0e30d : MI := (yJ4_toString_0e30d, cJ4_toString_0e30d, 1, (some (.object "java/lang/String")), [])
abbrev mJ4_charAt_5068e : MI := (yJ4_charAt_5068e, cJ4_charAt_5068e, 2, (some .char), [])
abbrev mJ4_setLength_d00df : MI := (yJ4_setLength_d00df, cJ4_setLength_d00df, 2, none, [])
abbrev mJ4_length_8abf5 : MI := (yJ4_length_8abf5, cJ4_length_8abf5, 1, (some .int), [])
abbrev mJx7c733_init_d00df : MI := (yJx7c733_init_d00df, cJx7c733_init_d00df, 2, none, [])
abbrev mJ1_charAt_3b067 : MI := (yJ1_charAt_3b067, cJ1_charAt_3b067, 2, (some .char), [])
abbrev mJ1_canEncode_fc78d : MI := (yJ1_canEncode_fc78d, cJ1_canEncode_fc78d, 1, (some .boolean), [])
abbrev mJ1_fillNull_b72d1 : MI := (yJ1_fillNull_b72d1, cJ1_fillNull_b72d1, 3, none, [])
abbrev mJ1_inflate_0e8fd : MI := (yJ1_inflate_0e8fd, cJ1_inflate_0e8fd, 5, none, [])
abbrev mJ2_newBytesFor_77867 : MI := (yJ2_newBytesFor_77867, cJ2_newBytesFor_77867, 1, (some (.array .byte)), [])
abbrev mJ2_newBytesLength_0f7a4 : MI := (yJ2_newBytesLength_0f7a4, cJ2_newBytesLength_0f7a4, 1, (some .int), [])
abbrev mJ2_putChar_b72d1 : MI := (yJ2_putChar_b72d1, cJ2_putChar_b72d1, 3, none, [])
abbrev mJ2_getChar_3b067 : MI := (yJ2_getChar_3b067, cJ2_getChar_3b067, 2, (some .char), [])
abbrev mJ2_length_9d52b : MI := (yJ2_length_9d52b, cJ2_length_9d52b, 1, (some .int), [])
abbrev mJ2_coderFromArrayLen_85cad : MI := (yJ2_coderFromArrayLen_85cad, cJ2_coderFromArrayLen_85cad, 2, (some .byte), [])
abbrev mJ2_compress_39247 : MI := (yJ2_compress_39247, cJ2_compress_39247, 6, (some (.array .byte)), [])
abbrev mJ2_compress_5af95 : MI := (yJ2_compress_5af95, cJ2_compress_5af95, 7, (some .int), [])
abbrev mJ2_fillNull_b72d1 : MI := (yJ2_fillNull_b72d1, cJ2_fillNull_b72d1, 3, none, [])
abbrev mJ2_putCharSB_b72d1 : MI := (yJ2_putCharSB_b72d1, cJ2_putCharSB_b72d1, 3, none, [])
abbrev mJ2_getChars_46870 : MI := (yJ2_getChars_46870, cJ2_getChars_46870, 5, (some .int), [])
abbrev mJ2_putCharsAt_cd4e5 : MI := (yJ2_putCharsAt_cd4e5, cJ2_putCharsAt_cd4e5, 7, (some .int), [])
abbrev mJ2_charAt_3b067 : MI := (yJ2_charAt_3b067, cJ2_charAt_3b067, 2, (some .char), [])
abbrev mJ2_inflate_0e8fd : MI := (yJ2_inflate_0e8fd, cJ2_inflate_0e8fd, 6, none, [])
abbrev mJ2_getChars_ba4f3 : MI := (yJ2_getChars_ba4f3, cJ2_getChars_ba4f3, 7, (some .int), [])
abbrev mJ2_checkIndex_2214a : MI := (yJ2_checkIndex_2214a, cJ2_checkIndex_2214a, 2, none, [])
abbrev mJ2_checkBoundsBeginEnd_d044e : MI := (yJ2_checkBoundsBeginEnd_d044e, cJ2_checkBoundsBeginEnd_d044e, 3, none, [])
abbrev mJ2_checkBoundsOffCount_d044e : MI := (yJ2_checkBoundsOffCount_d044e, cJ2_checkBoundsOffCount_d044e, 3, none, [])
abbrev mJ7_rangeCheck_23922 : MI := (yJ7_rangeCheck_23922, cJ7_rangeCheck_23922, 3, none, [])
abbrev mJ7_fill_eb02e : MI := (yJ7_fill_eb02e, cJ7_fill_eb02e, 5, none, [])
abbrev mJ7_copyOf_9075b : MI := (yJ7_copyOf_9075b, cJ7_copyOf_9075b, 3, (some (.array .byte)), [])
abbrev mJ7_checkLength_df160 : MI := (yJ7_checkLength_df160, cJ7_checkLength_df160, 2, none, [])
abbrev mJ7_copyOfRange_39247 : MI := (yJ7_copyOfRange_39247, cJ7_copyOfRange_39247, 3, (some (.array .byte)), [])
abbrev mJ7_copyOfRangeByte_39247 : MI := (yJ7_copyOfRangeByte_39247, cJ7_copyOfRangeByte_39247, 5, (some (.array .byte)), [])
abbrev mJ8_newLength_cabcc : MI := (yJ8_newLength_cabcc, cJ8_newLength_cabcc, 4, (some .int), [])
abbrev mJ8_hugeLength_7cf53 : MI := (yJ8_hugeLength_7cf53, cJ8_hugeLength_7cf53, 3, (some .int), [])
abbrev mJ3_checkIndex_8e157 : MI := (yJ3_checkIndex_8e157, cJ3_checkIndex_8e157, 3, (some .int), [])
abbrev mJ3_checkFromToIndex_8c36e : MI := (yJ3_checkFromToIndex_8c36e, cJ3_checkFromToIndex_8c36e, 4, (some .int), [])
abbrev mJ3_checkFromIndexSize_8c36e : MI := (yJ3_checkFromIndexSize_8c36e, cJ3_checkFromIndexSize_8c36e, 4, (some .int), [])
abbrev mL_addJet : MI := (yL_addJet, cL_addJet, 4, (some .int), [(0, 9, 12, 13), (0, 9, 15, 15), (0, 9, 18, 17)])
abbrev mL_removeJet : MI := (yL_removeJet, cL_removeJet, 4, (some .int), [(0, 9, 12, 22)])
abbrev mL_setOpening : MI := (yL_setOpening, cL_setOpening, 5, (some .int), [(0, 10, 13, 22), (0, 10, 17, 13)])
abbrev mL_position : MI := (yL_position, cL_position, 4, (some .int), [(0, 9, 12, 22)])
abbrev mL_opening : MI := (yL_opening, cL_opening, 4, (some .int), [(0, 9, 12, 22)])
abbrev mL_height : MI := (yL_height, cL_height, 4, (some .int), [(0, 9, 12, 22)])
abbrev mL_landing : MI := (yL_landing, cL_landing, 4, (some .int), [(0, 9, 12, 22)])
abbrev mL_isWild : MI := (yL_isWild, cL_isWild, 4, (some .int), [(0, 16, 19, 22)])
abbrev mL_highestJet : MI := (yL_highestJet, cL_highestJet, 3, (some .int), [(0, 8, 11, 48)])
abbrev mL_jetByPosition : MI := (yL_jetByPosition, cL_jetByPosition, 4, (some .int), [(0, 9, 12, 48)])
abbrev mL_nearestLanding : MI := (yL_nearestLanding, cL_nearestLanding, 4, (some .int), [(0, 9, 12, 48)])
abbrev mL_setCapacity : MI := (yL_setCapacity, cL_setCapacity, 4, (some .int), [(0, 9, 12, 13)])
abbrev mL_setWind : MI := (yL_setWind, cL_setWind, 4, (some .int), [(0, 9, 12, 13)])
abbrev mL_addFigure : MI := (yL_addFigure, cL_addFigure, 3, (some .int), [(0, 8, 11, 17)])
abbrev mL_removeFigure : MI := (yL_removeFigure, cL_removeFigure, 4, (some .int), [(0, 9, 12, 22), (0, 9, 15, 17)])
abbrev mL_addStep : MI := (yL_addStep, cL_addStep, 7, (some .int), [(0, 14, 17, 22), (0, 14, 21, 13), (0, 14, 25, 17)])
abbrev mL_removeStep : MI := (yL_removeStep, cL_removeStep, 5, (some .int), [(0, 10, 13, 22)])
abbrev mL_stepCount : MI := (yL_stepCount, cL_stepCount, 4, (some .int), [(0, 9, 12, 22)])
abbrev mL_stepDelay : MI := (yL_stepDelay, cL_stepDelay, 5, (some .int), [(0, 10, 13, 22)])
abbrev mL_stepJet : MI := (yL_stepJet, cL_stepJet, 5, (some .int), [(0, 10, 13, 22)])
abbrev mL_stepOpening : MI := (yL_stepOpening, cL_stepOpening, 5, (some .int), [(0, 10, 13, 22)])
abbrev mL_figureLength : MI := (yL_figureLength, cL_figureLength, 4, (some .int), [(0, 9, 12, 22)])
abbrev mL_figuresUsing : MI := (yL_figuresUsing, cL_figuresUsing, 4, (some .int), [(0, 9, 12, 22)])
abbrev mL_play : MI := (yL_play, cL_play, 5, (some .int), [(0, 10, 13, 22), (0, 10, 17, 13), (0, 10, 21, 17)])
abbrev mL_cancel : MI := (yL_cancel, cL_cancel, 4, (some .int), [(0, 9, 12, 22)])
abbrev mL_pass : MI := (yL_pass, cL_pass, 4, (some .int), [(0, 9, 12, 13)])
abbrev mL_entryFigure : MI := (yL_entryFigure, cL_entryFigure, 4, (some .int), [(0, 9, 12, 22)])
abbrev mL_entryStart : MI := (yL_entryStart, cL_entryStart, 4, (some .int), [(0, 9, 12, 22)])
abbrev mL_demandAfter : MI := (yL_demandAfter, cL_demandAfter, 4, (some .int), [(0, 9, 12, 13)])
abbrev mL_demandAfterBySteps : MI := (yL_demandAfterBySteps, cL_demandAfterBySteps, 4, (some .int), [(0, 9, 12, 13)])
abbrev mL_firstOverload : MI := (yL_firstOverload, cL_firstOverload, 4, (some .int), [(0, 9, 12, 13), (0, 9, 15, 48)])
abbrev mL_meanOpening : MI := (yL_meanOpening, cL_meanOpening, 3, (some .int), [(0, 7, 10, 121)])
abbrev mL_supplyFraction : MI := (yL_supplyFraction, cL_supplyFraction, 3, (some .int), [(0, 8, 11, 121)])
abbrev mL_writeFigure : MI := (yL_writeFigure, cL_writeFigure, 4, (some .int), [(0, 9, 12, 22)])
abbrev mL_outputCharacter : MI := (yL_outputCharacter, cL_outputCharacter, 4, (some .int), [(0, 9, 12, 22)])
abbrev mL_feed : MI := (yL_feed, cL_feed, 4, (some .int), [(0, 9, 12, 17)])
abbrev mL_execute : MI := (yL_execute, cL_execute, 3, (some .int), [(0, 8, 11, 13), (0, 8, 14, 15)])
abbrev mL_errorPosition : MI := (yL_errorPosition, cL_errorPosition, 3, (some .int), [(0, 8, 11, 48)])
abbrev mL_failedCommand : MI := (yL_failedCommand, cL_failedCommand, 3, (some .int), [(0, 8, 11, 48)])
abbrev mL_undo : MI := (yL_undo, cL_undo, 3, (some .int), [(0, 8, 11, 17)])
abbrev mL_restore : MI := (yL_restore, cL_restore, 3, (some .int), [(0, 8, 11, 17)])
end
section
/-! A layer over the kit: a frame over a picture of the heap (AF), a method over such a picture (AC). G: launch, the state at the law's entry, the classes' numbers and slots, the array classes, the constants' addresses. A picture F: the next free address, and what is known of the cells, by their addresses. -/
abbrev AH : Type := Nat × (Nat → Option va_E)
abbrev AR : Type := Option Value ⊕ String
abbrev GA : Type := Launch × State × va_G × (Nat → ClassId) × (Nat → Nat)
abbrev gN (G : GA) : Nat := G.2.1.heap.size
abbrev gC (G : GA) (k : Nat) : ClassId := G.2.2.2.1 k
abbrev cls : List vw_C := [(RX2, TX2, 5), (RX3, TX3, 5), (RX4, TX4, 2), (RX6, TX6, 7), (RX7, TX7, 8), (RX8, TX8, 12), (RX9, TX9, 20), (RJ4, TJ4, 4), (RJ0, TJ0, 4)]
abbrev gtys (g : Nat → ClassId) : List (ClassId × FieldType) := [(g 0, .int), (g 1, .long), (g 2, .char), (g 3, .double), (g 4, .object RX7), (g 5, .byte)]
/-- an address of this run's own -/
abbrev gA (G : GA) : Nat → Prop := fun q => gN G ≤ q
/-- the constants' addresses: 0-4 the Problems by their ordinals, 5-13 the Commands, 14 COMMANDS, 15 and 16 the switch maps, 20-28 the Commands' patterns, 30-38 their bytes -/
abbrev gk (G : GA) (k : Nat) : Nat := G.2.2.2.2 k
def pats : List String := ["jet N", "open D=N", "pump N", "wind SD", "trim", "figure", "step D+N:D=N", "play D+N", "pass N"]
def pnm : List String := ["NONE", "INDEX", "ARGUMENT", "UNSUPPORTED", "STATE"]
def swc : List Int32 := [1, 2, 3, 4, 9, 5, 6, 7, 8]
/-- a text's j-th sign -/
def sby (tx : String) (j : Nat) : Int32 := nI (tx.toList.getD j ' ').toNat
/-- a String constant: its class, its bytes -/
def STR (G : GA) (a v : Nat) (tx : String) : Prop := va_O "java/lang/String" a (gA G) G.2.1 G.2.1.heap ∧ va_OF "java/lang/String" "coder" "B" (.int 0) a (gA G) G.2.1 G.2.1.heap ∧ va_OF "java/lang/String" "value" "[B" (.ref v) a (gA G) G.2.1 G.2.1.heap ∧ va_T .byte v tx.toList.length (fun j => .int (sby tx j)) (gA G) G.2.1 G.2.1.heap
def GX (G : GA) : Prop :=
  (∀ i, i < 5 → va_Z "FountainShow$Problem" (pnm.getD i "") "LFountainShow$Problem;" (.ref (gk G i)) (gA G) G.2.1 G.2.1.heap ∧ va_O "FountainShow$Problem" (gk G i) (gA G) G.2.1 G.2.1.heap ∧ va_OF "java/lang/Enum" "ordinal" "I" (.int (nI i)) (gk G i) (gA G) G.2.1 G.2.1.heap) ∧
  (∀ i j, i < 5 → j < 5 → gk G i = gk G j → i = j) ∧
  (va_Z "FountainShow$1" "$SwitchMap$FountainShow$Problem" "[I" (.ref (gk G 15)) (gA G) G.2.1 G.2.1.heap ∧ va_T .int (gk G 15) 5 (fun j => .int (nI j)) (gA G) G.2.1 G.2.1.heap) ∧
  (va_Z "FountainShow" "COMMANDS" "[LFountainShow$Command;" (.ref (gk G 14)) (gA G) G.2.1 G.2.1.heap ∧ va_T (.object "FountainShow$Command") (gk G 14) 9 (fun j => .ref (gk G (5 + j))) (gA G) G.2.1 G.2.1.heap ∧ va_Z "FountainShow$Command" "TRIM" "LFountainShow$Command;" (.ref (gk G 9)) (gA G) G.2.1 G.2.1.heap) ∧
  (∀ i, i < 9 → va_O "FountainShow$Command" (gk G (5 + i)) (gA G) G.2.1 G.2.1.heap ∧ va_OF "java/lang/Enum" "ordinal" "I" (.int (nI i)) (gk G (5 + i)) (gA G) G.2.1 G.2.1.heap ∧ va_OF "FountainShow$Command" "pattern" "Ljava/lang/String;" (.ref (gk G (20 + i))) (gk G (5 + i)) (gA G) G.2.1 G.2.1.heap ∧ STR G (gk G (20 + i)) (gk G (30 + i)) (pats.getD i "")) ∧
  (va_Z "FountainShow$1" "$SwitchMap$FountainShow$Command" "[I" (.ref (gk G 16)) (gA G) G.2.1 G.2.1.heap ∧ va_T .int (gk G 16) 9 (fun j => .int (swc.getD j 0)) (gA G) G.2.1 G.2.1.heap) ∧
  va_Z "java/lang/String" "COMPACT_STRINGS" "Z" (.int 1) (gA G) G.2.1 G.2.1.heap ∧ va_Zq "jdk/internal/util/Preconditions" "SIOOBE_FORMATTER" "Ljava/util/function/BiFunction;" (gA G) G.2.1 G.2.1.heap
/-- pairs of exceptions' classes that are not castable -/
def ncs : List (String × String) := [("java/lang/IndexOutOfBoundsException", "java/lang/IllegalArgumentException"), ("java/lang/UnsupportedOperationException", "java/lang/IllegalArgumentException"), ("java/lang/IllegalStateException", "java/lang/IllegalArgumentException"), ("java/util/NoSuchElementException", "java/lang/IllegalArgumentException"), ("java/lang/ArithmeticException", "java/lang/IllegalArgumentException"), ("java/lang/IndexOutOfBoundsException", "java/lang/UnsupportedOperationException"), ("java/lang/IllegalArgumentException", "java/lang/UnsupportedOperationException"), ("java/lang/IllegalStateException", "java/lang/UnsupportedOperationException"), ("java/util/NoSuchElementException", "java/lang/UnsupportedOperationException"), ("java/lang/ArithmeticException", "java/lang/UnsupportedOperationException"), ("java/lang/IndexOutOfBoundsException", "java/lang/IllegalStateException"), ("java/lang/IllegalArgumentException", "java/lang/IllegalStateException"), ("java/lang/UnsupportedOperationException", "java/lang/IllegalStateException"), ("java/util/NoSuchElementException", "java/lang/IllegalStateException"), ("java/lang/ArithmeticException", "java/lang/IllegalStateException"), ("java/lang/IllegalArgumentException", "java/lang/IndexOutOfBoundsException"), ("java/lang/UnsupportedOperationException", "java/lang/IndexOutOfBoundsException"), ("java/lang/IllegalStateException", "java/lang/IndexOutOfBoundsException"), ("java/util/NoSuchElementException", "java/lang/IndexOutOfBoundsException"), ("java/lang/ArithmeticException", "java/lang/IndexOutOfBoundsException"), ("java/lang/IndexOutOfBoundsException", "java/util/NoSuchElementException"), ("java/lang/IllegalArgumentException", "java/util/NoSuchElementException"), ("java/lang/UnsupportedOperationException", "java/util/NoSuchElementException"), ("java/lang/IllegalStateException", "java/util/NoSuchElementException"), ("java/lang/ArithmeticException", "java/util/NoSuchElementException"), ("java/lang/IndexOutOfBoundsException", "java/lang/ArithmeticException"), ("java/lang/IllegalArgumentException", "java/lang/ArithmeticException"), ("java/lang/UnsupportedOperationException", "java/lang/ArithmeticException"), ("java/lang/IllegalStateException", "java/lang/ArithmeticException"), ("java/util/NoSuchElementException", "java/lang/ArithmeticException")]
def GOK (G : GA) : Prop := (∀ w ∈ lw_tbl, w.before #[] G.2.1 = true) ∧ G.1.stackTraces = false ∧ va_K G.2.2.1 cls (gtys G.2.2.2.1) G.2.1 ∧ vx_Zq Bundle.tN "UNASSIGNED_STACK" Bundle.steD (gA G) G.2.1 G.2.1.heap ∧ vx_Zq Bundle.tN "SUPPRESSED_SENTINEL" Bundle.listD (gA G) G.2.1 G.2.1.heap ∧ (∀ own k tx, Cond.stringRef own k tx ∈ lw_tbl → ∃ a v, vk_R own k tx a G.2.1 ∧ STR G a v tx) ∧ GX G ∧ ∀ q ∈ ncs, va_Nc q.1 q.2 G.2.1
/-- the heap is as the picture says -/
def Wd (G : GA) (F : AH) (H : Heap) : Prop := H.size = F.1 ∧ gN G ≤ F.1 ∧ (∀ q, q < gN G → H[q]? = G.2.1.heap[q]?) ∧ ∀ q c, F.2 q = some c → va_at G.2.2.1 cls (q, c) H
def lx (l : List (Option Value)) : List (Nat × Value) := l.zipIdx.filterMap (fun q => q.1.map (fun v => (q.2, v)))
theorem lx_mem {l : List (Option Value)} {i : Nat} {v : Value} : (i, v) ∈ lx l ↔ l[i]? = some (some v) := by
  unfold lx
  rw [List.mem_filterMap]
  constructor
  · rintro ⟨⟨w, k⟩, h1, h2⟩
    rw [List.mem_zipIdx_iff_getElem?] at h1
    cases w with
    | none => cases h2
    | some w =>
      simp only [Option.map_some, Option.some.injEq, Prod.mk.injEq] at h2
      obtain ⟨rfl, rfl⟩ := h2
      exact h1
  · intro h
    exact ⟨(some v, i), by rw [List.mem_zipIdx_iff_getElem?]; exact h, rfl⟩
def cat2 : Value → Bool
  | .long _ => true
  | .double _ => true
  | _ => false
theorem cat2_iff {v : Value} : cat2 v = true ↔ v.category = 2 := by cases v <;> simp [cat2, Value.category]
/-- a value of two slots just below place i is broken by a store there -/
def lclr (l : List (Option Value)) : Nat → List (Option Value)
  | 0 => l
  | j + 1 => match l[j]? with
    | some (some w) => bif cat2 w then l.set j none else l
    | _ => l
def ls1 (l : List (Option Value)) (i : Nat) (v : Value) : List (Option Value) := (lclr l i).set i (some v)
def ls2 (l : List (Option Value)) (i : Nat) (v : Value) : List (Option Value) := ((lclr l i).set i (some v)).set (i + 1) none
theorem lclr_get {l : List (Option Value)} {i k : Nat} {w : Value} (h : (lclr l i)[k]? = some (some w)) : l[k]? = some (some w) ∧ (k + 1 = i → ¬ w.category = 2) := by
  cases i with
  | zero => exact ⟨h, fun q => by omega⟩
  | succ j =>
    simp only [lclr] at h
    cases hj : l[j]? with
    | none =>
      rw [hj] at h
      exact ⟨h, fun q => by
        have : k = j := by omega
        subst this
        have h : l[k]? = some (some w) := h
        rw [hj] at h; cases h⟩
    | some z =>
      rw [hj] at h
      cases z with
      | none => exact ⟨h, fun q => by
          have : k = j := by omega
          subst this
          have h : l[k]? = some (some w) := h
          rw [hj] at h; cases h⟩
      | some z =>
        dsimp only at h
        cases hz : cat2 z with
        | false =>
          rw [hz] at h
          have h9 : l[k]? = some (some w) := h
          refine ⟨h9, fun q => ?_⟩
          have : k = j := by omega
          subst this
          rw [hj] at h9
          cases h9
          intro q2
          rw [cat2_iff.mpr q2] at hz; cases hz
        | true =>
          rw [hz] at h
          have h : (l.set j none)[k]? = some (some w) := h
          rw [List.getElem?_set] at h
          by_cases e : j = k
          · subst e
            simp at h
          · rw [if_neg e] at h
            exact ⟨h, fun q => absurd (by omega) e⟩
theorem lx_ls1 {l : List (Option Value)} {i : Nat} {v : Value} : ∀ q ∈ lx (ls1 l i v), q ∈ (i, v) :: (lx l).filter (fun q => !(q.1 == i) && !(q.1 + 1 == i && q.2.category == 2)) := by
  rintro ⟨k, w⟩ h
  rw [lx_mem] at h
  unfold ls1 at h
  rw [List.getElem?_set] at h
  by_cases e : i = k
  · subst e
    rw [if_pos rfl] at h
    split at h
    · cases h; exact List.mem_cons_self
    · cases h
  · rw [if_neg e] at h
    obtain ⟨h1, h2⟩ := lclr_get h
    refine List.mem_cons_of_mem _ (List.mem_filter.mpr ⟨lx_mem.mpr h1, ?_⟩)
    have e' : ¬ k = i := fun q => e q.symm
    simp only [Bool.and_eq_true, Bool.not_eq_true', beq_eq_false_iff_ne, ne_eq, Bool.and_eq_false_iff]
    refine ⟨e', ?_⟩
    by_cases q : k + 1 = i
    · exact Or.inr (h2 q)
    · exact Or.inl q
theorem lx_ls2 {l : List (Option Value)} {i : Nat} {v : Value} : ∀ q ∈ lx (ls2 l i v), q ∈ (i, v) :: (lx l).filter (fun q => !(q.1 == i) && (!(q.1 == i + 1) && !(q.1 + 1 == i && q.2.category == 2))) := by
  rintro ⟨k, w⟩ h
  rw [lx_mem] at h
  unfold ls2 at h
  rw [List.getElem?_set] at h
  by_cases e1 : i + 1 = k
  · subst e1
    rw [if_pos rfl] at h
    split at h <;> cases h
  · rw [if_neg e1, List.getElem?_set] at h
    by_cases e : i = k
    · subst e
      rw [if_pos rfl] at h
      split at h
      · cases h; exact List.mem_cons_self
      · cases h
    · rw [if_neg e] at h
      obtain ⟨h1, h2⟩ := lclr_get h
      refine List.mem_cons_of_mem _ (List.mem_filter.mpr ⟨lx_mem.mpr h1, ?_⟩)
      have e' : ¬ k = i := fun q => e q.symm
      have e1' : ¬ k = i + 1 := fun q => e1 q.symm
      simp only [Bool.and_eq_true, Bool.not_eq_true', beq_eq_false_iff_ne, ne_eq, Bool.and_eq_false_iff]
      refine ⟨e', e1', ?_⟩
      by_cases q : k + 1 = i
      · exact Or.inr (h2 q)
      · exact Or.inl q
theorem lv_mono {ls : Array Slot} {nL : Nat} {l l' : List (Nat × Value)} (h : lv_has ls nL l) (hs : ∀ q ∈ l', q ∈ l) : lv_has ls nL l' := ⟨h.1, h.2.1, fun q hq => h.2.2 q (hs q hq)⟩
/-- what a walk knows at a point -/
def Cf (G : GA) (mi : MI) (d bc bs : Nat) (F : AH) (ls : List (Option Value)) (p : Program) (e : Env) (Rm : Room) (s : State) (m : MethodId) (args : Array Value) (below : List Frame) (meth : Method) (c : Code) (mc ms : Nat) (H : Heap) (locs : List Loc) (cells slots : Nat) (ls0 : Array Slot) : Prop :=
  (p.tables.exec = Jvm.exec ∧ c.code = mi.2.1 ∧ meth.sig.returnType = mi.2.2.2.1 ∧ c.maxLocals = mi.2.2.1 ∧ meth.name = mi.1.name ∧ meth.locks = false ∧ s.vm.findClass mi.1.cls = some m.cls ∧ c.exceptionTable.toList = tableOf mi.2.2.2.2) ∧
  (GOK G ∧ G.2.1.WarmedH s.vm ∧ gN G ≤ s.heap.size ∧ (∀ q, q < gN G → s.heap[q]? = G.2.1.heap[q]?) ∧ s.heap.size ≤ H.size) ∧
  Wd G F H ∧ (∀ z ∈ locs, gN G ≤ z.base) ∧ lv_has ls0 mi.2.2.1 (lx ls) ∧
  (d ≤ Rm.frames ∧ 64 * d ≤ Rm.locals ∧ cells + bc ≤ mc ∧ slots + bs ≤ ms ∧ mc ≤ Rm.cells ∧ ms ≤ Rm.slots)
def QC (G : GA) (R : AR → AH → Prop) : Array Value → State → Outcome → State → Prop := fun _ st o t => ∃ v F', o = .returned v ∧ R (.inl v) F' ∧ Wd G F' t.heap ∧ st.heap.size ≤ t.heap.size
def QX (G : GA) (R : AR → AH → Prop) : String → State → State → Prop := fun E st t => ∃ F', R (.inr E) F' ∧ Wd G F' t.heap ∧ st.heap.size ≤ t.heap.size
/-- the frame of method mi at pc, over the picture F, with d calls deep, bc cells and bs slots left to make: it comes to an end, and R holds of it -/
def AF (G : GA) (mi : MI) (d bc bs : Nat) (R : AR → AH → Prop) (F : AH) (pc : Nat) (ls : List (Option Value)) (st : List Value) : Prop :=
  ∀ (p : Program) (e : Env) (Rm : Room) (s : State) (m : MethodId) (args : Array Value) (below : List Frame) (meth : Method) (c : Code) (mc ms : Nat) (H : Heap) (locs : List Loc) (cells slots : Nat) (ls0 : Array Slot),
    Cf G mi d bc bs F ls p e Rm s m args below meth c mc ms H locs cells slots ls0 →
    W p G.1 e Rm s m args below meth c H locs cells slots (vx_MQ below (QC G R) (QX G R) args s mc ms (gA G)) (F0 m pc ls0 st)
/-- the words of the tables hold at every method's start -/
theorem gw {G : GA} (hG : GOK G) {s : State} {args : Array Value} (hW : G.2.1.WarmedH s.vm) {w : Cond} (hw : w ∈ lw_tbl) (hg : goodWord w = true) : w.before args s = true := word_at hW (good_of_word hg) (hG.1 w hw)
theorem gwF {G : GA} (hG : GOK G) {s : State} {args : Array Value} (hW : G.2.1.WarmedH s.vm) {a : String} {i : Nat} {b n d h : String} (hw : Cond.fieldLinkNest a i b n d h ∈ lw_tbl) : (Cond.fieldLinkNest a i b n d h).before args s = true := va_Nw.use rfl (va_Nw.warmF hW (va_Nw.of rfl (hG.1 _ hw)))
theorem gwM {G : GA} (hG : GOK G) {s : State} {args : Array Value} (hW : G.2.1.WarmedH s.vm) {a : String} {i : Nat} {x : MethodName} {h : String} (hw : Cond.methodLinkNest a i x h ∈ lw_tbl) : (Cond.methodLinkNest a i x h).before args s = true := va_Nw.use rfl (va_Nw.warmM hW (va_Nw.of rfl (hG.1 _ hw)))
theorem gK {G : GA} (hG : GOK G) {s : State} (hW : G.2.1.WarmedH s.vm) : va_K G.2.2.1 cls (gtys G.2.2.2.1) s := va_K.moved hW.alike hG.2.2.1
section AFR
variable {G : GA} {mi : MI} {d bc bs : Nat} {R : AR → AH → Prop} {F : AH} {pc : Nat} {ls : List (Option Value)} {st : List Value}

theorem AF.iconst {n : Int} (v : Int32) (hd : decode mi.2.1 pc = .ok (.iconst n, 1)) (hv : Int32.ofInt n = v) (k : AF G mi d bc bs R F (pc + 1) ls (.int v :: st)) : AF G mi d bc bs R F pc ls (st) := by
  intro p e Rm s m args below meth c mc ms H locs cells slots ls0 hC
  exact lv_iconst hC.1.1 hC.1.2.1 hd hv (k _ _ _ _ _ _ _ _ _ _ _ _ _ _ _ _ hC)
theorem AF.bipush {n : Int} (v : Int32) (hd : decode mi.2.1 pc = .ok (.bipush n, 2)) (hv : (Int8.ofInt n).toInt32 = v) (k : AF G mi d bc bs R F (pc + 2) ls (.int v :: st)) : AF G mi d bc bs R F pc ls (st) := by
  intro p e Rm s m args below meth c mc ms H locs cells slots ls0 hC
  exact lv_bipush hC.1.1 hC.1.2.1 hd hv (k _ _ _ _ _ _ _ _ _ _ _ _ _ _ _ _ hC)
theorem AF.sipush {n : Int} (v : Int32) (hd : decode mi.2.1 pc = .ok (.sipush n, 3)) (hv : (Int16.ofInt n).toInt32 = v) (k : AF G mi d bc bs R F (pc + 3) ls (.int v :: st)) : AF G mi d bc bs R F pc ls (st) := by
  intro p e Rm s m args below meth c mc ms H locs cells slots ls0 hC
  exact lv_sipush hC.1.1 hC.1.2.1 hd hv (k _ _ _ _ _ _ _ _ _ _ _ _ _ _ _ _ hC)
theorem AF.lconst {n : Fin 2} (v : Int64) (hd : decode mi.2.1 pc = .ok (.lconst n, 1)) (hv : Int64.ofNat (n : Nat) = v) (k : AF G mi d bc bs R F (pc + 1) ls (.long v :: st)) : AF G mi d bc bs R F pc ls (st) := by
  intro p e Rm s m args below meth c mc ms H locs cells slots ls0 hC
  exact lv_lconst hC.1.1 hC.1.2.1 hd hv (k _ _ _ _ _ _ _ _ _ _ _ _ _ _ _ _ hC)
theorem AF.iadd {x y : Int32} (hd : decode mi.2.1 pc = .ok (.iadd, 1)) (k : AF G mi d bc bs R F (pc + 1) ls (.int (x + y) :: st)) : AF G mi d bc bs R F pc ls (.int y :: .int x :: st) := by
  intro p e Rm s m args below meth c mc ms H locs cells slots ls0 hC
  exact lv_iadd hC.1.1 hC.1.2.1 hd (k _ _ _ _ _ _ _ _ _ _ _ _ _ _ _ _ hC)
theorem AF.isub {x y : Int32} (hd : decode mi.2.1 pc = .ok (.isub, 1)) (k : AF G mi d bc bs R F (pc + 1) ls (.int (x - y) :: st)) : AF G mi d bc bs R F pc ls (.int y :: .int x :: st) := by
  intro p e Rm s m args below meth c mc ms H locs cells slots ls0 hC
  exact lv_isub hC.1.1 hC.1.2.1 hd (k _ _ _ _ _ _ _ _ _ _ _ _ _ _ _ _ hC)
theorem AF.imul {x y : Int32} (hd : decode mi.2.1 pc = .ok (.imul, 1)) (k : AF G mi d bc bs R F (pc + 1) ls (.int (x * y) :: st)) : AF G mi d bc bs R F pc ls (.int y :: .int x :: st) := by
  intro p e Rm s m args below meth c mc ms H locs cells slots ls0 hC
  exact lv_imul hC.1.1 hC.1.2.1 hd (k _ _ _ _ _ _ _ _ _ _ _ _ _ _ _ _ hC)
theorem AF.iand {x y : Int32} (hd : decode mi.2.1 pc = .ok (.iand, 1)) (k : AF G mi d bc bs R F (pc + 1) ls (.int (x &&& y) :: st)) : AF G mi d bc bs R F pc ls (.int y :: .int x :: st) := by
  intro p e Rm s m args below meth c mc ms H locs cells slots ls0 hC
  exact lv_iand hC.1.1 hC.1.2.1 hd (k _ _ _ _ _ _ _ _ _ _ _ _ _ _ _ _ hC)
theorem AF.ior {x y : Int32} (hd : decode mi.2.1 pc = .ok (.ior, 1)) (k : AF G mi d bc bs R F (pc + 1) ls (.int (x ||| y) :: st)) : AF G mi d bc bs R F pc ls (.int y :: .int x :: st) := by
  intro p e Rm s m args below meth c mc ms H locs cells slots ls0 hC
  exact lv_ior hC.1.1 hC.1.2.1 hd (k _ _ _ _ _ _ _ _ _ _ _ _ _ _ _ _ hC)
theorem AF.idiv {x y : Int32} (hd : decode mi.2.1 pc = .ok (.idiv, 1)) (hne : ¬ y = 0) (k : AF G mi d bc bs R F (pc + 1) ls (.int (x / y) :: st)) : AF G mi d bc bs R F pc ls (.int y :: .int x :: st) := by
  intro p e Rm s m args below meth c mc ms H locs cells slots ls0 hC
  exact lv_idiv hC.1.1 hC.1.2.1 hd hne (k _ _ _ _ _ _ _ _ _ _ _ _ _ _ _ _ hC)
theorem AF.irem {x y : Int32} (hd : decode mi.2.1 pc = .ok (.irem, 1)) (hne : ¬ y = 0) (k : AF G mi d bc bs R F (pc + 1) ls (.int (x - x / y * y) :: st)) : AF G mi d bc bs R F pc ls (.int y :: .int x :: st) := by
  intro p e Rm s m args below meth c mc ms H locs cells slots ls0 hC
  exact lv_irem hC.1.1 hC.1.2.1 hd hne (k _ _ _ _ _ _ _ _ _ _ _ _ _ _ _ _ hC)
theorem AF.ineg {x : Int32} (hd : decode mi.2.1 pc = .ok (.ineg, 1)) (k : AF G mi d bc bs R F (pc + 1) ls (.int (-x) :: st)) : AF G mi d bc bs R F pc ls (.int x :: st) := by
  intro p e Rm s m args below meth c mc ms H locs cells slots ls0 hC
  exact lv_ineg hC.1.1 hC.1.2.1 hd (k _ _ _ _ _ _ _ _ _ _ _ _ _ _ _ _ hC)
theorem AF.ladd {x y : Int64} (hd : decode mi.2.1 pc = .ok (.ladd, 1)) (k : AF G mi d bc bs R F (pc + 1) ls (.long (x + y) :: st)) : AF G mi d bc bs R F pc ls (.long y :: .long x :: st) := by
  intro p e Rm s m args below meth c mc ms H locs cells slots ls0 hC
  exact lv_ladd hC.1.1 hC.1.2.1 hd (k _ _ _ _ _ _ _ _ _ _ _ _ _ _ _ _ hC)
theorem AF.lsub {x y : Int64} (hd : decode mi.2.1 pc = .ok (.lsub, 1)) (k : AF G mi d bc bs R F (pc + 1) ls (.long (x - y) :: st)) : AF G mi d bc bs R F pc ls (.long y :: .long x :: st) := by
  intro p e Rm s m args below meth c mc ms H locs cells slots ls0 hC
  exact lv_lsub hC.1.1 hC.1.2.1 hd (k _ _ _ _ _ _ _ _ _ _ _ _ _ _ _ _ hC)
theorem AF.lneg {x : Int64} (hd : decode mi.2.1 pc = .ok (.lneg, 1)) (k : AF G mi d bc bs R F (pc + 1) ls (.long (-x) :: st)) : AF G mi d bc bs R F pc ls (.long x :: st) := by
  intro p e Rm s m args below meth c mc ms H locs cells slots ls0 hC
  exact lv_lneg hC.1.1 hC.1.2.1 hd (k _ _ _ _ _ _ _ _ _ _ _ _ _ _ _ _ hC)
theorem AF.i2l {x : Int32} (hd : decode mi.2.1 pc = .ok (.i2l, 1)) (k : AF G mi d bc bs R F (pc + 1) ls (.long x.toInt64 :: st)) : AF G mi d bc bs R F pc ls (.int x :: st) := by
  intro p e Rm s m args below meth c mc ms H locs cells slots ls0 hC
  exact lv_i2l hC.1.1 hC.1.2.1 hd rfl (k _ _ _ _ _ _ _ _ _ _ _ _ _ _ _ _ hC)
theorem AF.l2i {x : Int64} (hd : decode mi.2.1 pc = .ok (.l2i, 1)) (k : AF G mi d bc bs R F (pc + 1) ls (.int x.toInt32 :: st)) : AF G mi d bc bs R F pc ls (.long x :: st) := by
  intro p e Rm s m args below meth c mc ms H locs cells slots ls0 hC
  exact lv_l2i hC.1.1 hC.1.2.1 hd rfl (k _ _ _ _ _ _ _ _ _ _ _ _ _ _ _ _ hC)
theorem AF.i2c {x : Int32} (hd : decode mi.2.1 pc = .ok (.i2c, 1)) (k : AF G mi d bc bs R F (pc + 1) ls (.int (x.toUInt32 % 65536).toInt32 :: st)) : AF G mi d bc bs R F pc ls (.int x :: st) := by
  intro p e Rm s m args below meth c mc ms H locs cells slots ls0 hC
  exact lv_i2c hC.1.1 hC.1.2.1 hd rfl (k _ _ _ _ _ _ _ _ _ _ _ _ _ _ _ _ hC)
theorem AF.i2d {x : Int32} (hd : decode mi.2.1 pc = .ok (.i2d, 1)) (k : AF G mi d bc bs R F (pc + 1) ls (.double (FP.i2d x) :: st)) : AF G mi d bc bs R F pc ls (.int x :: st) := by
  intro p e Rm s m args below meth c mc ms H locs cells slots ls0 hC
  exact lv_i2d hC.1.1 hC.1.2.1 hd (k _ _ _ _ _ _ _ _ _ _ _ _ _ _ _ _ hC)
theorem AF.i2f {x : Int32} (hd : decode mi.2.1 pc = .ok (.i2f, 1)) (k : AF G mi d bc bs R F (pc + 1) ls (.float (FP.i2f x) :: st)) : AF G mi d bc bs R F pc ls (.int x :: st) := by
  intro p e Rm s m args below meth c mc ms H locs cells slots ls0 hC
  exact lv_i2f hC.1.1 hC.1.2.1 hd (k _ _ _ _ _ _ _ _ _ _ _ _ _ _ _ _ hC)
theorem AF.ddiv {x y : UInt64} (hd : decode mi.2.1 pc = .ok (.ddiv, 1)) (hne : vf_n64 (FP.ddiv x y)) (k : AF G mi d bc bs R F (pc + 1) ls (.double (FP.ddiv x y) :: st)) : AF G mi d bc bs R F pc ls (.double y :: .double x :: st) := by
  intro p e Rm s m args below meth c mc ms H locs cells slots ls0 hC
  exact lv_ddiv hC.1.1 hC.1.2.1 hd hne (k _ _ _ _ _ _ _ _ _ _ _ _ _ _ _ _ hC)
theorem AF.fdiv {x y : UInt32} (hd : decode mi.2.1 pc = .ok (.fdiv, 1)) (hne : vf_n32 (FP.fdiv x y)) (k : AF G mi d bc bs R F (pc + 1) ls (.float (FP.fdiv x y) :: st)) : AF G mi d bc bs R F pc ls (.float y :: .float x :: st) := by
  intro p e Rm s m args below meth c mc ms H locs cells slots ls0 hC
  exact lv_fdiv hC.1.1 hC.1.2.1 hd hne (k _ _ _ _ _ _ _ _ _ _ _ _ _ _ _ _ hC)
theorem AF.f2d {x : UInt32} (hd : decode mi.2.1 pc = .ok (.f2d, 1)) (hne : vf_n64 (FP.f2d x)) (k : AF G mi d bc bs R F (pc + 1) ls (.double (FP.f2d x) :: st)) : AF G mi d bc bs R F pc ls (.float x :: st) := by
  intro p e Rm s m args below meth c mc ms H locs cells slots ls0 hC
  exact lv_f2d hC.1.1 hC.1.2.1 hd hne (k _ _ _ _ _ _ _ _ _ _ _ _ _ _ _ _ hC)
theorem AF.dcmp {x y : UInt64} {op : CmpOp} (hd : decode mi.2.1 pc = .ok (.dcmp op, 1)) (k : AF G mi d bc bs R F (pc + 1) ls (.int (Op.cmpValue (FP.dcmp x y) op) :: st)) : AF G mi d bc bs R F pc ls (.double y :: .double x :: st) := by
  intro p e Rm s m args below meth c mc ms H locs cells slots ls0 hC
  exact lv_dcmp hC.1.1 hC.1.2.1 hd (k _ _ _ _ _ _ _ _ _ _ _ _ _ _ _ _ hC)
theorem AF.fcmp {x y : UInt32} {op : CmpOp} (hd : decode mi.2.1 pc = .ok (.fcmp op, 1)) (k : AF G mi d bc bs R F (pc + 1) ls (.int (Op.cmpValue (FP.fcmp x y) op) :: st)) : AF G mi d bc bs R F pc ls (.float y :: .float x :: st) := by
  intro p e Rm s m args below meth c mc ms H locs cells slots ls0 hC
  exact lv_fcmp hC.1.1 hC.1.2.1 hd (k _ _ _ _ _ _ _ _ _ _ _ _ _ _ _ _ hC)
theorem AF.dconst0  (hd : decode mi.2.1 pc = .ok (.dconst 0, 1)) (k : AF G mi d bc bs R F (pc + 1) ls ((.double FP.dconst0) :: st)) : AF G mi d bc bs R F pc ls (st) := by
  intro p e Rm s m args below meth c mc ms H locs cells slots ls0 hC
  exact lv_dconst0 hC.1.1 hC.1.2.1 hd (k _ _ _ _ _ _ _ _ _ _ _ _ _ _ _ _ hC)
theorem AF.fconst0  (hd : decode mi.2.1 pc = .ok (.fconst 0, 1)) (k : AF G mi d bc bs R F (pc + 1) ls ((.float FP.fconst0) :: st)) : AF G mi d bc bs R F pc ls (st) := by
  intro p e Rm s m args below meth c mc ms H locs cells slots ls0 hC
  exact lv_fconst0 hC.1.1 hC.1.2.1 hd (k _ _ _ _ _ _ _ _ _ _ _ _ _ _ _ _ hC)
theorem AF.iload_n {i : Fin 4} {x : Int32} (hd : decode mi.2.1 pc = .ok (.iload_n i, 1)) (hl : ls[(i : Nat)]? = some (some (.int x))) (k : AF G mi d bc bs R F (pc + 1) ls (.int x :: st)) : AF G mi d bc bs R F pc ls st := by
  intro p e Rm s m args below meth c mc ms H locs cells slots ls0 hC
  exact lv_iload_n hC.1.1 hC.1.2.1 hd rfl (hC.2.2.2.2.1.2.2 _ (lx_mem.mpr hl)) (k _ _ _ _ _ _ _ _ _ _ _ _ _ _ _ _ hC)
theorem AF.iload {i : Nat} {x : Int32} (hd : decode mi.2.1 pc = .ok (.iload i, 2)) (hl : ls[i]? = some (some (.int x))) (k : AF G mi d bc bs R F (pc + 2) ls (.int x :: st)) : AF G mi d bc bs R F pc ls st := by
  intro p e Rm s m args below meth c mc ms H locs cells slots ls0 hC
  exact lv_iload hC.1.1 hC.1.2.1 hd (hC.2.2.2.2.1.2.2 _ (lx_mem.mpr hl)) (k _ _ _ _ _ _ _ _ _ _ _ _ _ _ _ _ hC)
theorem AF.lload_n {i : Fin 4} {x : Int64} (hd : decode mi.2.1 pc = .ok (.lload_n i, 1)) (hl : ls[(i : Nat)]? = some (some (.long x))) (k : AF G mi d bc bs R F (pc + 1) ls (.long x :: st)) : AF G mi d bc bs R F pc ls st := by
  intro p e Rm s m args below meth c mc ms H locs cells slots ls0 hC
  exact lv_lload_n hC.1.1 hC.1.2.1 hd rfl (hC.2.2.2.2.1.2.2 _ (lx_mem.mpr hl)) (k _ _ _ _ _ _ _ _ _ _ _ _ _ _ _ _ hC)
theorem AF.lload {i : Nat} {x : Int64} (hd : decode mi.2.1 pc = .ok (.lload i, 2)) (hl : ls[i]? = some (some (.long x))) (k : AF G mi d bc bs R F (pc + 2) ls (.long x :: st)) : AF G mi d bc bs R F pc ls st := by
  intro p e Rm s m args below meth c mc ms H locs cells slots ls0 hC
  exact lv_lload hC.1.1 hC.1.2.1 hd (hC.2.2.2.2.1.2.2 _ (lx_mem.mpr hl)) (k _ _ _ _ _ _ _ _ _ _ _ _ _ _ _ _ hC)
theorem AF.fload_n {i : Fin 4} {x : UInt32} (hd : decode mi.2.1 pc = .ok (.fload_n i, 1)) (hl : ls[(i : Nat)]? = some (some (.float x))) (k : AF G mi d bc bs R F (pc + 1) ls (.float x :: st)) : AF G mi d bc bs R F pc ls st := by
  intro p e Rm s m args below meth c mc ms H locs cells slots ls0 hC
  exact lv_fload_n hC.1.1 hC.1.2.1 hd rfl (hC.2.2.2.2.1.2.2 _ (lx_mem.mpr hl)) (k _ _ _ _ _ _ _ _ _ _ _ _ _ _ _ _ hC)
theorem AF.fload {i : Nat} {x : UInt32} (hd : decode mi.2.1 pc = .ok (.fload i, 2)) (hl : ls[i]? = some (some (.float x))) (k : AF G mi d bc bs R F (pc + 2) ls (.float x :: st)) : AF G mi d bc bs R F pc ls st := by
  intro p e Rm s m args below meth c mc ms H locs cells slots ls0 hC
  exact lv_fload hC.1.1 hC.1.2.1 hd (hC.2.2.2.2.1.2.2 _ (lx_mem.mpr hl)) (k _ _ _ _ _ _ _ _ _ _ _ _ _ _ _ _ hC)
theorem AF.dload_n {i : Fin 4} {x : UInt64} (hd : decode mi.2.1 pc = .ok (.dload_n i, 1)) (hl : ls[(i : Nat)]? = some (some (.double x))) (k : AF G mi d bc bs R F (pc + 1) ls (.double x :: st)) : AF G mi d bc bs R F pc ls st := by
  intro p e Rm s m args below meth c mc ms H locs cells slots ls0 hC
  exact lv_dload_n hC.1.1 hC.1.2.1 hd rfl (hC.2.2.2.2.1.2.2 _ (lx_mem.mpr hl)) (k _ _ _ _ _ _ _ _ _ _ _ _ _ _ _ _ hC)
theorem AF.dload {i : Nat} {x : UInt64} (hd : decode mi.2.1 pc = .ok (.dload i, 2)) (hl : ls[i]? = some (some (.double x))) (k : AF G mi d bc bs R F (pc + 2) ls (.double x :: st)) : AF G mi d bc bs R F pc ls st := by
  intro p e Rm s m args below meth c mc ms H locs cells slots ls0 hC
  exact lv_dload hC.1.1 hC.1.2.1 hd (hC.2.2.2.2.1.2.2 _ (lx_mem.mpr hl)) (k _ _ _ _ _ _ _ _ _ _ _ _ _ _ _ _ hC)
theorem AF.aload_n {i : Fin 4} {x : Nat} (hd : decode mi.2.1 pc = .ok (.aload_n i, 1)) (hl : ls[(i : Nat)]? = some (some (.ref x))) (k : AF G mi d bc bs R F (pc + 1) ls (.ref x :: st)) : AF G mi d bc bs R F pc ls st := by
  intro p e Rm s m args below meth c mc ms H locs cells slots ls0 hC
  exact lv_aload_n hC.1.1 hC.1.2.1 hd rfl (hC.2.2.2.2.1.2.2 _ (lx_mem.mpr hl)) (k _ _ _ _ _ _ _ _ _ _ _ _ _ _ _ _ hC)
theorem AF.aload {i : Nat} {x : Nat} (hd : decode mi.2.1 pc = .ok (.aload i, 2)) (hl : ls[i]? = some (some (.ref x))) (k : AF G mi d bc bs R F (pc + 2) ls (.ref x :: st)) : AF G mi d bc bs R F pc ls st := by
  intro p e Rm s m args below meth c mc ms H locs cells slots ls0 hC
  exact lv_aload hC.1.1 hC.1.2.1 hd (hC.2.2.2.2.1.2.2 _ (lx_mem.mpr hl)) (k _ _ _ _ _ _ _ _ _ _ _ _ _ _ _ _ hC)
theorem Cf.sub {p : Program} {e : Env} {Rm : Room} {s : State} {m : MethodId} {args : Array Value} {below : List Frame} {meth : Method} {c : Code} {mc ms : Nat} {H : Heap} {locs : List Loc} {cells slots : Nat} {ls0 ls0' : Array Slot} {ls' : List (Option Value)} (hC : Cf G mi d bc bs F ls p e Rm s m args below meth c mc ms H locs cells slots ls0) {l : List (Nat × Value)} (h : lv_has ls0' mi.2.2.1 l) (hs : ∀ q ∈ lx ls', q ∈ l) : Cf G mi d bc bs F ls' p e Rm s m args below meth c mc ms H locs cells slots ls0' :=
  ⟨hC.1, hC.2.1, hC.2.2.1, hC.2.2.2.1, lv_mono h hs, hC.2.2.2.2.2⟩
theorem AF.istore_n {i : Fin 4} {x : Int32} (hd : decode mi.2.1 pc = .ok (.istore_n i, 1)) (hn : (i : Nat) < mi.2.2.1) (k : AF G mi d bc bs R F (pc + 1) (ls1 ls i (.int x)) st) : AF G mi d bc bs R F pc ls (.int x :: st) := by
  intro p e Rm s m args below meth c mc ms H locs cells slots ls0 hC
  exact lv_istore_n hC.1.1 hC.1.2.1 hd rfl hC.2.2.2.2.1 hn rfl (fun ls' hl => k _ _ _ _ _ _ _ _ _ _ _ _ _ _ _ _ (hC.sub hl lx_ls1))
theorem AF.istore {i : Nat} {x : Int32} (hd : decode mi.2.1 pc = .ok (.istore i, 2)) (hn : i < mi.2.2.1) (k : AF G mi d bc bs R F (pc + 2) (ls1 ls i (.int x)) st) : AF G mi d bc bs R F pc ls (.int x :: st) := by
  intro p e Rm s m args below meth c mc ms H locs cells slots ls0 hC
  exact lv_istore hC.1.1 hC.1.2.1 hd hC.2.2.2.2.1 hn rfl (fun ls' hl => k _ _ _ _ _ _ _ _ _ _ _ _ _ _ _ _ (hC.sub hl lx_ls1))
theorem AF.lstore_n {i : Fin 4} {x : Int64} (hd : decode mi.2.1 pc = .ok (.lstore_n i, 1)) (hn : (i : Nat) + 1 < mi.2.2.1) (k : AF G mi d bc bs R F (pc + 1) (ls2 ls i (.long x)) st) : AF G mi d bc bs R F pc ls (.long x :: st) := by
  intro p e Rm s m args below meth c mc ms H locs cells slots ls0 hC
  exact lv_lstore_n hC.1.1 hC.1.2.1 hd rfl hC.2.2.2.2.1 hn rfl (fun ls' hl => k _ _ _ _ _ _ _ _ _ _ _ _ _ _ _ _ (hC.sub hl lx_ls2))
theorem AF.lstore {i : Nat} {x : Int64} (hd : decode mi.2.1 pc = .ok (.lstore i, 2)) (hn : i + 1 < mi.2.2.1) (k : AF G mi d bc bs R F (pc + 2) (ls2 ls i (.long x)) st) : AF G mi d bc bs R F pc ls (.long x :: st) := by
  intro p e Rm s m args below meth c mc ms H locs cells slots ls0 hC
  exact lv_lstore hC.1.1 hC.1.2.1 hd hC.2.2.2.2.1 hn rfl (fun ls' hl => k _ _ _ _ _ _ _ _ _ _ _ _ _ _ _ _ (hC.sub hl lx_ls2))
theorem AF.fstore_n {i : Fin 4} {x : UInt32} (hd : decode mi.2.1 pc = .ok (.fstore_n i, 1)) (hn : (i : Nat) < mi.2.2.1) (k : AF G mi d bc bs R F (pc + 1) (ls1 ls i (.float x)) st) : AF G mi d bc bs R F pc ls (.float x :: st) := by
  intro p e Rm s m args below meth c mc ms H locs cells slots ls0 hC
  exact lv_fstore_n hC.1.1 hC.1.2.1 hd rfl hC.2.2.2.2.1 hn rfl (fun ls' hl => k _ _ _ _ _ _ _ _ _ _ _ _ _ _ _ _ (hC.sub hl lx_ls1))
theorem AF.fstore {i : Nat} {x : UInt32} (hd : decode mi.2.1 pc = .ok (.fstore i, 2)) (hn : i < mi.2.2.1) (k : AF G mi d bc bs R F (pc + 2) (ls1 ls i (.float x)) st) : AF G mi d bc bs R F pc ls (.float x :: st) := by
  intro p e Rm s m args below meth c mc ms H locs cells slots ls0 hC
  exact lv_fstore hC.1.1 hC.1.2.1 hd hC.2.2.2.2.1 hn rfl (fun ls' hl => k _ _ _ _ _ _ _ _ _ _ _ _ _ _ _ _ (hC.sub hl lx_ls1))
theorem AF.dstore_n {i : Fin 4} {x : UInt64} (hd : decode mi.2.1 pc = .ok (.dstore_n i, 1)) (hn : (i : Nat) + 1 < mi.2.2.1) (k : AF G mi d bc bs R F (pc + 1) (ls2 ls i (.double x)) st) : AF G mi d bc bs R F pc ls (.double x :: st) := by
  intro p e Rm s m args below meth c mc ms H locs cells slots ls0 hC
  exact lv_dstore_n hC.1.1 hC.1.2.1 hd rfl hC.2.2.2.2.1 hn rfl (fun ls' hl => k _ _ _ _ _ _ _ _ _ _ _ _ _ _ _ _ (hC.sub hl lx_ls2))
theorem AF.dstore {i : Nat} {x : UInt64} (hd : decode mi.2.1 pc = .ok (.dstore i, 2)) (hn : i + 1 < mi.2.2.1) (k : AF G mi d bc bs R F (pc + 2) (ls2 ls i (.double x)) st) : AF G mi d bc bs R F pc ls (.double x :: st) := by
  intro p e Rm s m args below meth c mc ms H locs cells slots ls0 hC
  exact lv_dstore hC.1.1 hC.1.2.1 hd hC.2.2.2.2.1 hn rfl (fun ls' hl => k _ _ _ _ _ _ _ _ _ _ _ _ _ _ _ _ (hC.sub hl lx_ls2))
theorem AF.astore_n {i : Fin 4} {x : Nat} (hd : decode mi.2.1 pc = .ok (.astore_n i, 1)) (hn : (i : Nat) < mi.2.2.1) (k : AF G mi d bc bs R F (pc + 1) (ls1 ls i (.ref x)) st) : AF G mi d bc bs R F pc ls (.ref x :: st) := by
  intro p e Rm s m args below meth c mc ms H locs cells slots ls0 hC
  exact lv_astore_n hC.1.1 hC.1.2.1 hd rfl hC.2.2.2.2.1 hn rfl (fun ls' hl => k _ _ _ _ _ _ _ _ _ _ _ _ _ _ _ _ (hC.sub hl lx_ls1))
theorem AF.astore {i : Nat} {x : Nat} (hd : decode mi.2.1 pc = .ok (.astore i, 2)) (hn : i < mi.2.2.1) (k : AF G mi d bc bs R F (pc + 2) (ls1 ls i (.ref x)) st) : AF G mi d bc bs R F pc ls (.ref x :: st) := by
  intro p e Rm s m args below meth c mc ms H locs cells slots ls0 hC
  exact lv_astore hC.1.1 hC.1.2.1 hd hC.2.2.2.2.1 hn rfl (fun ls' hl => k _ _ _ _ _ _ _ _ _ _ _ _ _ _ _ _ (hC.sub hl lx_ls1))
theorem AF.iinc {i : Nat} {n : Int} {x : Int32} (hd : decode mi.2.1 pc = .ok (.iinc i n, 3)) (hl : ls[i]? = some (some (.int x))) (hn : i < mi.2.2.1) (k : AF G mi d bc bs R F (pc + 3) (ls1 ls i (.int (x + Int32.ofInt n))) st) : AF G mi d bc bs R F pc ls st := by
  intro p e Rm s m args below meth c mc ms H locs cells slots ls0 hC
  obtain ⟨j, hj⟩ := List.getElem?_of_mem (lx_mem.mpr hl)
  exact lv_iinc hC.1.1 hC.1.2.1 hd hC.2.2.2.2.1 hj rfl hn rfl (fun ls' hl => k _ _ _ _ _ _ _ _ _ _ _ _ _ _ _ _ (hC.sub hl lx_ls1))
theorem AF.dup {v : Value} (hd : decode mi.2.1 pc = .ok (.dup, 1)) (hc : v.category = 1) (k : AF G mi d bc bs R F (pc + 1) ls (v :: v :: st)) : AF G mi d bc bs R F pc ls (v :: st) := by
  intro p e Rm s m args below meth c mc ms H locs cells slots ls0 hC
  exact lv_dup hC.1.1 hC.1.2.1 hd hc (k _ _ _ _ _ _ _ _ _ _ _ _ _ _ _ _ hC)
theorem AF.pop {v : Value} (hd : decode mi.2.1 pc = .ok (.pop, 1)) (hc : v.category = 1) (k : AF G mi d bc bs R F (pc + 1) ls st) : AF G mi d bc bs R F pc ls (v :: st) := by
  intro p e Rm s m args below meth c mc ms H locs cells slots ls0 hC
  exact lv_pop hC.1.1 hC.1.2.1 hd hc (k _ _ _ _ _ _ _ _ _ _ _ _ _ _ _ _ hC)
theorem AF.dup2 {v w : Value} (hd : decode mi.2.1 pc = .ok (.dup2, 1)) (hc : v.category = 1) (hw : w.category = 1) (k : AF G mi d bc bs R F (pc + 1) ls (v :: w :: v :: w :: st)) : AF G mi d bc bs R F pc ls (v :: w :: st) := by
  intro p e Rm s m args below meth c mc ms H locs cells slots ls0 hC
  exact lv_dup2_11 hC.1.1 hC.1.2.1 hd hc hw (k _ _ _ _ _ _ _ _ _ _ _ _ _ _ _ _ hC)
theorem AF.if_eq {x : Int32} {off : Int} (tgt : Nat) (hd : decode mi.2.1 pc = .ok (.ifCond .eq off, 3)) (ht : (pc : Int) + off = (tgt : Int)) (kt : (x = 0) → AF G mi d bc bs R F tgt ls st) (kf : ¬ (x = 0) → AF G mi d bc bs R F (pc + 3) ls st) : AF G mi d bc bs R F pc ls (.int x :: st) := by
  intro p e Rm s m args below meth c mc ms H locs cells slots ls0 hC
  exact lv_if_eq hC.1.1 hC.1.2.1 hd ht (fun h => kt h _ _ _ _ _ _ _ _ _ _ _ _ _ _ _ _ hC) (fun h => kf h _ _ _ _ _ _ _ _ _ _ _ _ _ _ _ _ hC)
theorem AF.icmp_eq {x y : Int32} {off : Int} (tgt : Nat) (hd : decode mi.2.1 pc = .ok (.if_icmp .eq off, 3)) (ht : (pc : Int) + off = (tgt : Int)) (kt : (x = y) → AF G mi d bc bs R F tgt ls st) (kf : ¬ (x = y) → AF G mi d bc bs R F (pc + 3) ls st) : AF G mi d bc bs R F pc ls (.int y :: .int x :: st) := by
  intro p e Rm s m args below meth c mc ms H locs cells slots ls0 hC
  exact lv_icmp_eq hC.1.1 hC.1.2.1 hd ht (fun h => kt h _ _ _ _ _ _ _ _ _ _ _ _ _ _ _ _ hC) (fun h => kf h _ _ _ _ _ _ _ _ _ _ _ _ _ _ _ _ hC)
theorem AF.if_ne {x : Int32} {off : Int} (tgt : Nat) (hd : decode mi.2.1 pc = .ok (.ifCond .ne off, 3)) (ht : (pc : Int) + off = (tgt : Int)) (kt : (¬ x = 0) → AF G mi d bc bs R F tgt ls st) (kf : x = 0 → AF G mi d bc bs R F (pc + 3) ls st) : AF G mi d bc bs R F pc ls (.int x :: st) := by
  intro p e Rm s m args below meth c mc ms H locs cells slots ls0 hC
  exact lv_if_ne hC.1.1 hC.1.2.1 hd ht (fun h => kt h _ _ _ _ _ _ _ _ _ _ _ _ _ _ _ _ hC) (fun h => kf h _ _ _ _ _ _ _ _ _ _ _ _ _ _ _ _ hC)
theorem AF.icmp_ne {x y : Int32} {off : Int} (tgt : Nat) (hd : decode mi.2.1 pc = .ok (.if_icmp .ne off, 3)) (ht : (pc : Int) + off = (tgt : Int)) (kt : (¬ x = y) → AF G mi d bc bs R F tgt ls st) (kf : x = y → AF G mi d bc bs R F (pc + 3) ls st) : AF G mi d bc bs R F pc ls (.int y :: .int x :: st) := by
  intro p e Rm s m args below meth c mc ms H locs cells slots ls0 hC
  exact lv_icmp_ne hC.1.1 hC.1.2.1 hd ht (fun h => kt h _ _ _ _ _ _ _ _ _ _ _ _ _ _ _ _ hC) (fun h => kf h _ _ _ _ _ _ _ _ _ _ _ _ _ _ _ _ hC)
theorem AF.if_lt {x : Int32} {off : Int} (tgt : Nat) (hd : decode mi.2.1 pc = .ok (.ifCond .lt off, 3)) (ht : (pc : Int) + off = (tgt : Int)) (kt : (x < 0) → AF G mi d bc bs R F tgt ls st) (kf : ¬ (x < 0) → AF G mi d bc bs R F (pc + 3) ls st) : AF G mi d bc bs R F pc ls (.int x :: st) := by
  intro p e Rm s m args below meth c mc ms H locs cells slots ls0 hC
  exact lv_if_lt hC.1.1 hC.1.2.1 hd ht (fun h => kt h _ _ _ _ _ _ _ _ _ _ _ _ _ _ _ _ hC) (fun h => kf h _ _ _ _ _ _ _ _ _ _ _ _ _ _ _ _ hC)
theorem AF.icmp_lt {x y : Int32} {off : Int} (tgt : Nat) (hd : decode mi.2.1 pc = .ok (.if_icmp .lt off, 3)) (ht : (pc : Int) + off = (tgt : Int)) (kt : (x < y) → AF G mi d bc bs R F tgt ls st) (kf : ¬ (x < y) → AF G mi d bc bs R F (pc + 3) ls st) : AF G mi d bc bs R F pc ls (.int y :: .int x :: st) := by
  intro p e Rm s m args below meth c mc ms H locs cells slots ls0 hC
  exact lv_icmp_lt hC.1.1 hC.1.2.1 hd ht (fun h => kt h _ _ _ _ _ _ _ _ _ _ _ _ _ _ _ _ hC) (fun h => kf h _ _ _ _ _ _ _ _ _ _ _ _ _ _ _ _ hC)
theorem AF.if_ge {x : Int32} {off : Int} (tgt : Nat) (hd : decode mi.2.1 pc = .ok (.ifCond .ge off, 3)) (ht : (pc : Int) + off = (tgt : Int)) (kt : (0 ≤ x) → AF G mi d bc bs R F tgt ls st) (kf : ¬ (0 ≤ x) → AF G mi d bc bs R F (pc + 3) ls st) : AF G mi d bc bs R F pc ls (.int x :: st) := by
  intro p e Rm s m args below meth c mc ms H locs cells slots ls0 hC
  exact lv_if_ge hC.1.1 hC.1.2.1 hd ht (fun h => kt h _ _ _ _ _ _ _ _ _ _ _ _ _ _ _ _ hC) (fun h => kf h _ _ _ _ _ _ _ _ _ _ _ _ _ _ _ _ hC)
theorem AF.icmp_ge {x y : Int32} {off : Int} (tgt : Nat) (hd : decode mi.2.1 pc = .ok (.if_icmp .ge off, 3)) (ht : (pc : Int) + off = (tgt : Int)) (kt : (y ≤ x) → AF G mi d bc bs R F tgt ls st) (kf : ¬ (y ≤ x) → AF G mi d bc bs R F (pc + 3) ls st) : AF G mi d bc bs R F pc ls (.int y :: .int x :: st) := by
  intro p e Rm s m args below meth c mc ms H locs cells slots ls0 hC
  exact lv_icmp_ge hC.1.1 hC.1.2.1 hd ht (fun h => kt h _ _ _ _ _ _ _ _ _ _ _ _ _ _ _ _ hC) (fun h => kf h _ _ _ _ _ _ _ _ _ _ _ _ _ _ _ _ hC)
theorem AF.if_gt {x : Int32} {off : Int} (tgt : Nat) (hd : decode mi.2.1 pc = .ok (.ifCond .gt off, 3)) (ht : (pc : Int) + off = (tgt : Int)) (kt : (0 < x) → AF G mi d bc bs R F tgt ls st) (kf : ¬ (0 < x) → AF G mi d bc bs R F (pc + 3) ls st) : AF G mi d bc bs R F pc ls (.int x :: st) := by
  intro p e Rm s m args below meth c mc ms H locs cells slots ls0 hC
  exact lv_if_gt hC.1.1 hC.1.2.1 hd ht (fun h => kt h _ _ _ _ _ _ _ _ _ _ _ _ _ _ _ _ hC) (fun h => kf h _ _ _ _ _ _ _ _ _ _ _ _ _ _ _ _ hC)
theorem AF.icmp_gt {x y : Int32} {off : Int} (tgt : Nat) (hd : decode mi.2.1 pc = .ok (.if_icmp .gt off, 3)) (ht : (pc : Int) + off = (tgt : Int)) (kt : (y < x) → AF G mi d bc bs R F tgt ls st) (kf : ¬ (y < x) → AF G mi d bc bs R F (pc + 3) ls st) : AF G mi d bc bs R F pc ls (.int y :: .int x :: st) := by
  intro p e Rm s m args below meth c mc ms H locs cells slots ls0 hC
  exact lv_icmp_gt hC.1.1 hC.1.2.1 hd ht (fun h => kt h _ _ _ _ _ _ _ _ _ _ _ _ _ _ _ _ hC) (fun h => kf h _ _ _ _ _ _ _ _ _ _ _ _ _ _ _ _ hC)
theorem AF.if_le {x : Int32} {off : Int} (tgt : Nat) (hd : decode mi.2.1 pc = .ok (.ifCond .le off, 3)) (ht : (pc : Int) + off = (tgt : Int)) (kt : (x ≤ 0) → AF G mi d bc bs R F tgt ls st) (kf : ¬ (x ≤ 0) → AF G mi d bc bs R F (pc + 3) ls st) : AF G mi d bc bs R F pc ls (.int x :: st) := by
  intro p e Rm s m args below meth c mc ms H locs cells slots ls0 hC
  exact lv_if_le hC.1.1 hC.1.2.1 hd ht (fun h => kt h _ _ _ _ _ _ _ _ _ _ _ _ _ _ _ _ hC) (fun h => kf h _ _ _ _ _ _ _ _ _ _ _ _ _ _ _ _ hC)
theorem AF.icmp_le {x y : Int32} {off : Int} (tgt : Nat) (hd : decode mi.2.1 pc = .ok (.if_icmp .le off, 3)) (ht : (pc : Int) + off = (tgt : Int)) (kt : (x ≤ y) → AF G mi d bc bs R F tgt ls st) (kf : ¬ (x ≤ y) → AF G mi d bc bs R F (pc + 3) ls st) : AF G mi d bc bs R F pc ls (.int y :: .int x :: st) := by
  intro p e Rm s m args below meth c mc ms H locs cells slots ls0 hC
  exact lv_icmp_le hC.1.1 hC.1.2.1 hd ht (fun h => kt h _ _ _ _ _ _ _ _ _ _ _ _ _ _ _ _ hC) (fun h => kf h _ _ _ _ _ _ _ _ _ _ _ _ _ _ _ _ hC)
theorem AF.goto {off : Int} (tgt : Nat) (hd : decode mi.2.1 pc = .ok (.goto off, 3)) (ht : (pc : Int) + off = (tgt : Int)) (k : AF G mi d bc bs R F tgt ls st) : AF G mi d bc bs R F pc ls st := by
  intro p e Rm s m args below meth c mc ms H locs cells slots ls0 hC
  exact lv_goto hC.1.1 hC.1.2.1 hd ht (k _ _ _ _ _ _ _ _ _ _ _ _ _ _ _ _ hC)
theorem AF.switchIn {dflt lo hi : Int} {offs : Array Int} {len : Nat} {x : Int32} {off : Int} (tgt : Nat) (hd : decode mi.2.1 pc = .ok (.tableswitch dflt lo hi offs, len)) (h1 : ¬ x.toInt < lo) (h2 : ¬ hi < x.toInt) (ho : offs[(x.toInt - lo).toNat]? = some off) (ht : (pc : Int) + off = (tgt : Int)) (k : AF G mi d bc bs R F tgt ls st) : AF G mi d bc bs R F pc ls (.int x :: st) := by
  intro p e Rm s m args below meth c mc ms H locs cells slots ls0 hC
  exact lv_tableIn hC.1.1 hC.1.2.1 hd h1 h2 ho ht (k _ _ _ _ _ _ _ _ _ _ _ _ _ _ _ _ hC)
theorem AF.switchOut {dflt lo hi : Int} {offs : Array Int} {len : Nat} {x : Int32} (tgt : Nat) (hd : decode mi.2.1 pc = .ok (.tableswitch dflt lo hi offs, len)) (h : x.toInt < lo ∨ hi < x.toInt) (ht : (pc : Int) + dflt = (tgt : Int)) (k : AF G mi d bc bs R F tgt ls st) : AF G mi d bc bs R F pc ls (.int x :: st) := by
  intro p e Rm s m args below meth c mc ms H locs cells slots ls0 hC
  exact lv_tableOut hC.1.1 hC.1.2.1 hd h ht (k _ _ _ _ _ _ _ _ _ _ _ _ _ _ _ _ hC)
end AFR
end
section
/-! The layer's rows for the heap, the calls and the ends. -/
def pu (f : Nat → Option va_E) (a : Nat) (c : va_E) : Nat → Option va_E := fun q => if q = a then some c else f q
theorem pu_s {f : Nat → Option va_E} {a : Nat} {c : va_E} : pu f a c a = some c := by simp [pu]
theorem pu_n {f : Nat → Option va_E} {a b : Nat} {c : va_E} (h : ¬ b = a) : pu f a c b = f b := by simp [pu, h]
theorem Wd.P1 {G : GA} {F : AH} {H : Heap} (h : Wd G F H) {a : Nat} {c : va_E} (hF : F.2 a = some c) : va_P G.2.2.1 cls [(a, c)] H := by
  intro k q hk
  cases k with
  | zero => cases hk; exact h.2.2.2 a c hF
  | succ k => cases hk
theorem Wd.put {G : GA} {F : AH} {H H' : Heap} (h : Wd G F H) {a : Nat} {c : va_E} (ha : gN G ≤ a) (hat : va_at G.2.2.1 cls (a, c) H') (hz : H'.size = H.size) (ho : ∀ q, q ≠ a → H'[q]? = H[q]?) : Wd G (F.1, pu F.2 a c) H' := by
  refine ⟨hz.trans h.1, h.2.1, fun q hq => (ho q (by omega)).trans (h.2.2.1 q hq), fun q c' hq => ?_⟩
  by_cases e : q = a
  · subst e
    have hq : pu F.2 q c q = some c' := hq
    rw [pu_s] at hq
    cases hq
    exact hat
  · have hq : pu F.2 a c q = some c' := hq
    rw [pu_n e] at hq
    exact va_at.kept (h.2.2.2 q c' hq) (ho q e)
theorem Wd.new {G : GA} {F : AH} {H H' : Heap} (h : Wd G F H) {c : va_E} (hat : va_at G.2.2.1 cls (F.1, c) H') (hz : H'.size = F.1 + 1) (ho : ∀ q, q < F.1 → H'[q]? = H[q]?) : Wd G (F.1 + 1, pu F.2 F.1 c) H' := by
  refine ⟨hz, Nat.le_succ_of_le h.2.1, fun q hq => (ho q (Nat.lt_of_lt_of_le hq h.2.1)).trans (h.2.2.1 q hq), fun q c' hq => ?_⟩
  by_cases e : q = F.1
  · subst e
    have hq : pu F.2 F.1 c F.1 = some c' := hq
    rw [pu_s] at hq
    cases hq
    exact hat
  · have hq : pu F.2 F.1 c q = some c' := hq
    rw [pu_n e] at hq
    have h9 := h.2.2.2 q c' hq
    refine va_at.kept h9 (ho q ?_)
    have h8 : q < H.size := va_at.lt h9
    rw [h.1] at h8
    exact h8
/-- a field of kind ci, place k, read or written by class own at entry idx of its pool -/
def FL (own : String) (idx ci k : Nat) : Prop := ∃ (C : String) (T : u_T) (N : Nat), cls[ci]? = some (C, T, N) ∧ k < N ∧ (∀ w ∈ u_ws C T N, w ∈ lw_tbl) ∧
  (Cond.fieldLink own idx (T k).1 (T k).2.1 (T k).2.2.1 ∈ lw_tbl ∨ ∃ host, Cond.fieldLinkNest own idx (T k).1 (T k).2.1 (T k).2.2.1 host ∈ lw_tbl)
def FP (own : String) (idx ci k : Nat) (ty : FieldType) : Prop := ∃ (C : String) (T : u_T) (N : Nat) (ty0 : Nat → FieldType), cls[ci]? = some (C, T, N) ∧ k < N ∧ (∀ w ∈ u_ws C T N, w ∈ lw_tbl) ∧
  (∀ k, k < N → parseFieldDescriptor (T k).2.2.1 = some (ty0 k)) ∧ (∀ a, a < N → ∀ b, b < N → a ≠ b → (T a).2.1 ≠ (T b).2.1) ∧ parseFieldDescriptor (T k).2.2.1 = some ty ∧
  (((T k).2.2.2 = false ∧ (Cond.fieldLink own idx (T k).1 (T k).2.1 (T k).2.2.1 ∈ lw_tbl ∨ ∃ host, Cond.fieldLinkNest own idx (T k).1 (T k).2.1 (T k).2.2.1 host ∈ lw_tbl)) ∨
   ((T k).2.2.2 = true ∧ (T k).1 = own ∧ Cond.fieldLink own idx (T k).1 (T k).2.1 (T k).2.2.1 ∈ lw_tbl))
theorem lay_good {C : String} {T : u_T} {N : Nat} : ∀ w ∈ u_ws C T N, goodWord w = true := by
  intro w hw
  obtain ⟨k, -, rfl⟩ := List.mem_map.mp hw
  unfold u_lay
  split <;> rfl
theorem lay_at {G : GA} (hG : GOK G) {s : State} {args : Array Value} (hW : G.2.1.WarmedH s.vm) {C : String} {T : u_T} {N : Nat} (hin : ∀ w ∈ u_ws C T N, w ∈ lw_tbl) : ∀ w ∈ u_ws C T N, w.before args s = true := fun w hw => gw hG hW (hin w hw) (lay_good w hw)
section AFH
variable {G : GA} {mi : MI} {d bc bs : Nat} {R : AR → AH → Prop} {F : AH} {pc : Nat} {ls : List (Option Value)} {st : List Value}
theorem Cf.heap {F' : AH} {p : Program} {e : Env} {Rm : Room} {s : State} {m : MethodId} {args : Array Value} {below : List Frame} {meth : Method} {c : Code} {mc ms : Nat} {H H' : Heap} {locs locs' : List Loc} {cells slots : Nat} {ls0 : Array Slot} (hC : Cf G mi d bc bs F ls p e Rm s m args below meth c mc ms H locs cells slots ls0) (hW : Wd G F' H') (hz : H.size ≤ H'.size) (hl : ∀ z ∈ locs', gN G ≤ z.base) : Cf G mi d bc bs F' ls p e Rm s m args below meth c mc ms H' locs' cells slots ls0 :=
  ⟨hC.1, ⟨hC.2.1.1, hC.2.1.2.1, hC.2.1.2.2.1, hC.2.1.2.2.2.1, Nat.le_trans hC.2.1.2.2.2.2 hz⟩, hW, hl, hC.2.2.2.2.1, hC.2.2.2.2.2⟩
theorem Cf.pay {k n k' n' : Nat} {p : Program} {e : Env} {Rm : Room} {s : State} {m : MethodId} {args : Array Value} {below : List Frame} {meth : Method} {c : Code} {mc ms : Nat} {H : Heap} {locs : List Loc} {cells slots : Nat} {ls0 : Array Slot} (hC : Cf G mi d bc bs F ls p e Rm s m args below meth c mc ms H locs cells slots ls0) (h1 : bc = k' + k) (h2 : bs = n' + n) : Cf G mi d k' n' F ls p e Rm s m args below meth c mc ms H locs (cells + k) (slots + n) ls0 :=
  ⟨hC.1, hC.2.1, hC.2.2.1, hC.2.2.2.1, hC.2.2.2.2.1, hC.2.2.2.2.2.1, hC.2.2.2.2.2.2.1, by have := hC.2.2.2.2.2.2.2.1; omega, by have := hC.2.2.2.2.2.2.2.2.1; omega, hC.2.2.2.2.2.2.2.2.2⟩
theorem loc_add {locs : List Loc} {n a i : Nat} (h : ∀ z ∈ locs, n ≤ z.base) (ha : n ≤ a) : ∀ z ∈ locs ++ [⟨a, i⟩], n ≤ z.base := by
  intro z hz
  rcases List.mem_append.mp hz with h1 | h1
  · exact h z h1
  · rw [List.mem_singleton] at h1
    subst h1
    exact ha
theorem AF.less {bc' bs' d' : Nat} (k : AF G mi d' bc' bs' R F pc ls st) (hd : d' ≤ d) (h1 : bc' ≤ bc) (h2 : bs' ≤ bs) : AF G mi d bc bs R F pc ls st := by
  intro p e Rm s m args below meth c mc ms H locs cells slots ls0 hC
  refine k _ _ _ _ _ _ _ _ _ _ _ _ _ _ _ _ ⟨hC.1, hC.2.1, hC.2.2.1, hC.2.2.2.1, hC.2.2.2.2.1, ?_⟩
  obtain ⟨a1, a2, a3, a4, a5, a6⟩ := hC.2.2.2.2.2
  exact ⟨by omega, by omega, by omega, by omega, a5, a6⟩
theorem AF.imp {R' : AR → AH → Prop} (h : ∀ r F, R' r F → R r F) (k : AF G mi d bc bs R' F pc ls st) : AF G mi d bc bs R F pc ls st := by
  intro p e Rm s m args below meth c mc ms H locs cells slots ls0 hC T hT X
  obtain ⟨t, a, o, b1, b2, b3⟩ := k _ _ _ _ _ _ _ _ _ _ _ _ _ _ _ _ hC T hT X
  refine ⟨t, a, o, b1, b2, ?_⟩
  rcases b3 with ⟨⟨v, F', c1, c2, c3⟩, q⟩ | ⟨z, c1, E, ce, L, ⟨F', c2, c3⟩, q⟩
  · exact Or.inl ⟨⟨v, F', c1, h _ _ c2, c3⟩, q⟩
  · exact Or.inr ⟨z, c1, E, ce, L, ⟨F', h _ _ c2, c3⟩, q⟩
theorem AF.getfield {idx ci k a : Nat} {fs : List Value} {v : Value} (hd : decode mi.2.1 pc = .ok (.getfield idx, 3)) (hl : FL mi.1.cls idx ci k) (hF : F.2 a = some (.inr (ci, fs))) (hv : fs[k]? = some v) (kk : AF G mi d bc bs R F (pc + 3) ls (v :: st)) : AF G mi d bc bs R F pc ls (.ref a :: st) := by
  intro p e Rm s m args below meth c mc ms H locs cells slots ls0 hC
  obtain ⟨C, T, N, hc, hk, hin, hlk⟩ := hl
  have hG := hC.2.1.1
  have hW := hC.2.1.2.1
  rcases hlk with hlk | ⟨host, hlk⟩
  · exact va_get (Ts := u_ws C T N) hC.1.1 hC.1.2.1 (lay_at hG hW hin) (fun _ h => h) hC.1.2.2.2.2.2.2.1 (gK hG hW) (hC.2.2.1.P1 hF) 0 rfl hc k hk (gw hG hW hlk rfl) (fun _ h => h) hv hd (kk _ _ _ _ _ _ _ _ _ _ _ _ _ _ _ _ hC)
  · exact va_getN (Ts := u_ws C T N) hC.1.1 hC.1.2.1 (lay_at hG hW hin) (fun _ h => h) hC.1.2.2.2.2.2.2.1 (gK hG hW) (hC.2.2.1.P1 hF) 0 rfl hc k hk (gwF hG hW hlk) (fun _ h => h) hv hd (kk _ _ _ _ _ _ _ _ _ _ _ _ _ _ _ _ hC)
theorem AF.putfield {idx ci k a : Nat} {fs : List Value} {v : Value} {ty : FieldType} (hd : decode mi.2.1 pc = .ok (.putfield idx, 3)) (hl : FP mi.1.cls idx ci k ty) (hF : F.2 a = some (.inr (ci, fs))) (ha : gN G ≤ a) (hlen : k < fs.length) (hn : narrow ty v = v) (hfit : fits ty v = true) (hini : mi.1.name = "<init>" ∨ ∀ T : u_T, (∃ (C : String) (N : Nat), cls[ci]? = some (C, T, N)) → (T k).2.2.2 = false)
    (kk : AF G mi d bc bs R (F.1, pu F.2 a (.inr (ci, fs.set k v))) (pc + 3) ls st) : AF G mi d bc bs R F pc ls (v :: .ref a :: st) := by
  intro p e Rm s m args below meth c mc ms H locs cells slots ls0 hC
  obtain ⟨C, T, N, ty0, hc, hk, hin, hty, hnm, hpt, hlk⟩ := hl
  have hG := hC.2.1.1
  have hW := hC.2.1.2.1
  have hts := lay_at (args := args) hG hW hin
  have hK := gK hG hW
  have hap := va_apart (own := C) hts (fun _ h => h) ty0 hty hnm hK hc
  obtain ⟨r, h1, cell, q1, q2, q3, q4⟩ := hC.2.2.1.2.2.2 a _ hF
  have hr : r = (C, T, N) := Option.some.inj (h1.symm.trans hc)
  subst hr
  obtain ⟨hS, hfc, kC, hkC, hkind⟩ := hK.1 ci _ hc
  obtain ⟨cf, kf, fi, f, hi, hsl⟩ := hS k hk
  have hst := (u_facts hfc hkC (u_lays hts (fun _ h => h) hk) hi).1
  have hlay := hts _ (u_in_lay hk)
  unfold u_lay at hlay
  have fin : ∀ H' : Heap, H'[a]? = some (cell.setSlot f.slot v) → H'.size = H.size → (∀ q, q ≠ a → H'[q]? = H[q]?) → W p G.1 e Rm s m args below meth c H' (locs ++ [⟨a, f.slot⟩]) cells slots (vx_MQ below (QC G R) (QX G R) args s mc ms (gA G)) (F0 m (pc + 3) ls0 st) := by
    intro H' e1 e2 e3
    rw [hsl] at e1
    refine kk _ _ _ _ _ _ _ _ _ _ _ _ _ _ _ _ (hC.heap (hC.2.2.1.put ha ⟨_, hc, t_OB.to (V := updV (vp_V fs) k v) ⟨_, e1, q2, q3, t_set q4 hap hk v⟩ (fun j _ => vp_updV_set hlen v j)⟩ e2 e3) (Nat.le_of_eq e2.symm) (loc_add hC.2.2.2.1 ha))
  rcases hlk with ⟨hf, hlk⟩ | ⟨hf, hdecl, hlk⟩
  · rw [if_neg (by rw [hf]; decide)] at hlay
    have h6 := u_store hfc hkC hkind hlay hi hpt hn hfit
    rcases hlk with hlk | ⟨host, hlk⟩
    · exact W.putK hC.1.1 hC.1.2.1 (f := f) ⟨hC.1.2.2.2.2.2.2.1, gw hG hW hlk rfl, ⟨_, _, _, hi⟩, hst⟩ (by rw [q2]; exact h6) q1 q3 (by rw [hsl]; exact k2_hasslot (q4 k hk)) rfl rfl hd fin
    · exact va_WputK hC.1.1 hC.1.2.1 (f := f) hC.1.2.2.2.2.2.2.1 (gwF hG hW hlk) hi hst (by rw [q2]; exact h6) q1 q3 (by rw [hsl]; exact k2_hasslot (q4 k hk)) rfl rfl hd fin
  · rcases hini with hini | hini
    · rw [if_pos hf] at hlay
      have hcf : m.cls = cf := by
        obtain ⟨_, _, c', _, _, _, -, -, hf', -, -, -, hown2, -⟩ := Cond.laysFinal_spec hlay
        have e1 : c' = cf := by have := hi.symm.trans hf'; simp at this; exact this.1.symm
        rw [hdecl] at hown2
        rw [← e1]; exact Option.some.inj (hC.1.2.2.2.2.2.2.1.symm.trans hown2)
      have h6 := u_fits hfc hkC hkind (Or.inr hlay) hi hpt hn hfit
      exact W.putFinK hC.1.1 hC.1.2.1 hC.1.2.2.2.2.2.2.1 (gw hG hW hlk rfl) hi hst hcf (hC.1.2.2.2.2.1.trans hini) (by rw [q2]; exact h6) q1 q3 (by rw [hsl]; exact k2_hasslot (q4 k hk)) rfl rfl hd fin
    · exact absurd (hini T ⟨C, N, hc⟩) (by rw [hf]; decide)

theorem AF.iaload {a n : Nat} {i : Int32} {f : Nat → Int32} (j : Nat) (hd : decode mi.2.1 pc = .ok (.iaload, 1)) (hF : F.2 a = some (.inl (gC G 0, n, .inl f))) (hi : i = nI j) (hj : j < n) (hb : n < 2 ^ 31) (k : AF G mi d bc bs R F (pc + 1) ls (.int (f j) :: st)) : AF G mi d bc bs R F pc ls (.int i :: .ref a :: st) := by
  intro p e Rm s m args below meth c mc ms H locs cells slots ls0 hC
  subst hi
  refine va_iald hC.1.1 hC.1.2.1 (gK hC.2.1.1 hC.2.1.2.1) (hC.2.2.1.P1 hF) 0 0 rfl rfl (vp_in_nI hj hb) hd ?_
  rw [nI_clamp (Nat.lt_trans hj hb)]
  exact (k _ _ _ _ _ _ _ _ _ _ _ _ _ _ _ _ hC)
theorem AF.laload {a n : Nat} {i : Int32} {f : Nat → Int64} (j : Nat) (hd : decode mi.2.1 pc = .ok (.laload, 1)) (hF : F.2 a = some (.inl (gC G 1, n, .inr (.inl f)))) (hi : i = nI j) (hj : j < n) (hb : n < 2 ^ 31) (k : AF G mi d bc bs R F (pc + 1) ls (.long (f j) :: st)) : AF G mi d bc bs R F pc ls (.int i :: .ref a :: st) := by
  intro p e Rm s m args below meth c mc ms H locs cells slots ls0 hC
  subst hi
  refine va_lald hC.1.1 hC.1.2.1 (gK hC.2.1.1 hC.2.1.2.1) (hC.2.2.1.P1 hF) 0 1 rfl rfl (vp_in_nI hj hb) hd ?_
  rw [nI_clamp (Nat.lt_trans hj hb)]
  exact (k _ _ _ _ _ _ _ _ _ _ _ _ _ _ _ _ hC)
theorem AF.caload {a n : Nat} {i : Int32} {f : Nat → Int32} (j : Nat) (hd : decode mi.2.1 pc = .ok (.caload, 1)) (hF : F.2 a = some (.inl (gC G 2, n, .inl f))) (hi : i = nI j) (hj : j < n) (hb : n < 2 ^ 31) (k : AF G mi d bc bs R F (pc + 1) ls (.int (f j) :: st)) : AF G mi d bc bs R F pc ls (.int i :: .ref a :: st) := by
  intro p e Rm s m args below meth c mc ms H locs cells slots ls0 hC
  subst hi
  refine va_cald hC.1.1 hC.1.2.1 (gK hC.2.1.1 hC.2.1.2.1) (hC.2.2.1.P1 hF) 0 2 rfl rfl (vp_in_nI hj hb) hd ?_
  rw [nI_clamp (Nat.lt_trans hj hb)]
  exact (k _ _ _ _ _ _ _ _ _ _ _ _ _ _ _ _ hC)
theorem AF.daload {a n : Nat} {i : Int32} {f : Nat → UInt64} (j : Nat) (hd : decode mi.2.1 pc = .ok (.daload, 1)) (hF : F.2 a = some (.inl (gC G 3, n, .inr (.inr (.inr (.inl f)))))) (hi : i = nI j) (hj : j < n) (hb : n < 2 ^ 31) (k : AF G mi d bc bs R F (pc + 1) ls (.double (f j) :: st)) : AF G mi d bc bs R F pc ls (.int i :: .ref a :: st) := by
  intro p e Rm s m args below meth c mc ms H locs cells slots ls0 hC
  subst hi
  refine va_dald hC.1.1 hC.1.2.1 (gK hC.2.1.1 hC.2.1.2.1) (hC.2.2.1.P1 hF) 0 3 rfl rfl (vp_in_nI hj hb) hd ?_
  rw [nI_clamp (Nat.lt_trans hj hb)]
  exact (k _ _ _ _ _ _ _ _ _ _ _ _ _ _ _ _ hC)
theorem AF.baload {a n : Nat} {i : Int32} {f : Nat → Int32} (j : Nat) (hd : decode mi.2.1 pc = .ok (.baload, 1)) (hF : F.2 a = some (.inl (gC G 5, n, .inl f))) (hi : i = nI j) (hj : j < n) (hb : n < 2 ^ 31) (k : AF G mi d bc bs R F (pc + 1) ls (.int (f j) :: st)) : AF G mi d bc bs R F pc ls (.int i :: .ref a :: st) := by
  intro p e Rm s m args below meth c mc ms H locs cells slots ls0 hC
  subst hi
  refine va_bald hC.1.1 hC.1.2.1 (gK hC.2.1.1 hC.2.1.2.1) (hC.2.2.1.P1 hF) 0 5 rfl rfl (vp_in_nI hj hb) hd ?_
  rw [nI_clamp (Nat.lt_trans hj hb)]
  exact (k _ _ _ _ _ _ _ _ _ _ _ _ _ _ _ _ hC)
theorem vp_cell_set {n : Nat} {z : Nat → Value} {cA : ClassId} {j : Nat} {v : Value} {H' : Heap} {a : Nat} (h : H'[a]? = some ((arrV cA n z).setSlot j v)) : H'[a]? = some (arrV cA n (updV z j v)) := by rw [h, arrV_store]
theorem AF.iastore {a n : Nat} {i : Int32} {x : Int32} {f : Nat → Int32} (j : Nat) (hd : decode mi.2.1 pc = .ok (.iastore, 1)) (hF : F.2 a = some (.inl (gC G 0, n, .inl f))) (ha : gN G ≤ a) (hi : i = nI j) (hj : j < n) (hb : n < 2 ^ 31) (k : AF G mi d bc bs R (F.1, pu F.2 a (.inl (gC G 0, n, .inl (upd f j x)))) (pc + 1) ls st) : AF G mi d bc bs R F pc ls (.int x :: .int i :: .ref a :: st) := by
  intro p e Rm s m args below meth c mc ms H locs cells slots ls0 hC
  subst hi
  have hcl := nI_clamp (Nat.lt_trans hj hb)
  have hin : ¬ (nI j < 0 ∨ n ≤ (nI j).toNatClampNeg) := vp_in_nI hj hb
  refine W.iast hC.1.1 hC.1.2.1 (hC.2.2.1.2.2.2 a _ hF) (((gK hC.2.1.1 hC.2.1.2.1).2 0 _ rfl).1 n (fun j => .int (f j))) (fun q => by cases q) (by show ¬ (nI j < 0 ∨ (arrV _ _ _).slots.size ≤ _); rw [arrV_size]; exact hin) rfl rfl hd fun H1 e1 e2 e3 => ?_
  rw [hcl] at e1 ⊢
  refine k _ _ _ _ _ _ _ _ _ _ _ _ _ _ _ _ (hC.heap (hC.2.2.1.put ha ?_ e2 e3) (Nat.le_of_eq e2.symm) (loc_add hC.2.2.2.1 ha))
  show H1[a]? = some (vp_cell _ _)
  rw [e1]
  rw [vp_cell_i, vp_cell_i, arrV_store]
  congr 2
  funext q
  by_cases hq : q = j
  · subst hq
    simp [updV, upd, vp_updL, vf_upd, vp_nar]
    try rfl
  · simp [updV, upd, vp_updL, vf_upd, hq]
theorem AF.lastore {a n : Nat} {i : Int32} {x : Int64} {f : Nat → Int64} (j : Nat) (hd : decode mi.2.1 pc = .ok (.lastore, 1)) (hF : F.2 a = some (.inl (gC G 1, n, .inr (.inl f)))) (ha : gN G ≤ a) (hi : i = nI j) (hj : j < n) (hb : n < 2 ^ 31) (k : AF G mi d bc bs R (F.1, pu F.2 a (.inl (gC G 1, n, .inr (.inl (vp_updL f j x))))) (pc + 1) ls st) : AF G mi d bc bs R F pc ls (.long x :: .int i :: .ref a :: st) := by
  intro p e Rm s m args below meth c mc ms H locs cells slots ls0 hC
  subst hi
  have hcl := nI_clamp (Nat.lt_trans hj hb)
  have hin : ¬ (nI j < 0 ∨ n ≤ (nI j).toNatClampNeg) := vp_in_nI hj hb
  refine W.last hC.1.1 hC.1.2.1 (hC.2.2.1.2.2.2 a _ hF) (((gK hC.2.1.1 hC.2.1.2.1).2 1 _ rfl).1 n (fun j => .long (f j))) (fun q => by cases q) (by show ¬ (nI j < 0 ∨ (arrV _ _ _).slots.size ≤ _); rw [arrV_size]; exact hin) rfl rfl hd fun H1 e1 e2 e3 => ?_
  rw [hcl] at e1 ⊢
  refine k _ _ _ _ _ _ _ _ _ _ _ _ _ _ _ _ (hC.heap (hC.2.2.1.put ha ?_ e2 e3) (Nat.le_of_eq e2.symm) (loc_add hC.2.2.2.1 ha))
  show H1[a]? = some (vp_cell _ _)
  rw [e1]
  rw [vp_cell_l, vp_cell_l, arrV_store]
  congr 2
  funext q
  by_cases hq : q = j
  · subst hq
    simp [updV, upd, vp_updL, vf_upd, vp_nar]
    try rfl
  · simp [updV, upd, vp_updL, vf_upd, hq]
theorem AF.castore {a n : Nat} {i : Int32} {x : Int32} {f : Nat → Int32} (j : Nat) (hd : decode mi.2.1 pc = .ok (.castore, 1)) (hF : F.2 a = some (.inl (gC G 2, n, .inl f))) (ha : gN G ≤ a) (hi : i = nI j) (hj : j < n) (hb : n < 2 ^ 31) (k : AF G mi d bc bs R (F.1, pu F.2 a (.inl (gC G 2, n, .inl (upd f j (vp_nar .char x))))) (pc + 1) ls st) : AF G mi d bc bs R F pc ls (.int x :: .int i :: .ref a :: st) := by
  intro p e Rm s m args below meth c mc ms H locs cells slots ls0 hC
  subst hi
  have hcl := nI_clamp (Nat.lt_trans hj hb)
  have hin : ¬ (nI j < 0 ∨ n ≤ (nI j).toNatClampNeg) := vp_in_nI hj hb
  refine W.cast hC.1.1 hC.1.2.1 (hC.2.2.1.2.2.2 a _ hF) (((gK hC.2.1.1 hC.2.1.2.1).2 2 _ rfl).1 n (fun j => .int (f j))) (fun q => by cases q) (by show ¬ (nI j < 0 ∨ (arrV _ _ _).slots.size ≤ _); rw [arrV_size]; exact hin) rfl rfl hd fun H1 e1 e2 e3 => ?_
  rw [hcl] at e1 ⊢
  refine k _ _ _ _ _ _ _ _ _ _ _ _ _ _ _ _ (hC.heap (hC.2.2.1.put ha ?_ e2 e3) (Nat.le_of_eq e2.symm) (loc_add hC.2.2.2.1 ha))
  show H1[a]? = some (vp_cell _ _)
  rw [e1]
  rw [vp_cell_i, vp_cell_i, arrV_store]
  congr 2
  funext q
  by_cases hq : q = j
  · subst hq
    simp [updV, upd, vp_updL, vf_upd, vp_nar]
    try rfl
  · simp [updV, upd, vp_updL, vf_upd, hq]
theorem AF.dastore {a n : Nat} {i : Int32} {x : UInt64} {f : Nat → UInt64} (j : Nat) (hd : decode mi.2.1 pc = .ok (.dastore, 1)) (hF : F.2 a = some (.inl (gC G 3, n, .inr (.inr (.inr (.inl f)))))) (ha : gN G ≤ a) (hi : i = nI j) (hj : j < n) (hb : n < 2 ^ 31) (k : AF G mi d bc bs R (F.1, pu F.2 a (.inl (gC G 3, n, .inr (.inr (.inr (.inl (vf_upd f j x))))))) (pc + 1) ls st) : AF G mi d bc bs R F pc ls (.double x :: .int i :: .ref a :: st) := by
  intro p e Rm s m args below meth c mc ms H locs cells slots ls0 hC
  subst hi
  have hcl := nI_clamp (Nat.lt_trans hj hb)
  have hin : ¬ (nI j < 0 ∨ n ≤ (nI j).toNatClampNeg) := vp_in_nI hj hb
  refine W.dast hC.1.1 hC.1.2.1 (hC.2.2.1.2.2.2 a _ hF) (((gK hC.2.1.1 hC.2.1.2.1).2 3 _ rfl).1 n (fun j => .double (f j))) (fun q => by cases q) (by show ¬ (nI j < 0 ∨ (arrV _ _ _).slots.size ≤ _); rw [arrV_size]; exact hin) rfl rfl hd fun H1 e1 e2 e3 => ?_
  rw [hcl] at e1 ⊢
  refine k _ _ _ _ _ _ _ _ _ _ _ _ _ _ _ _ (hC.heap (hC.2.2.1.put ha ?_ e2 e3) (Nat.le_of_eq e2.symm) (loc_add hC.2.2.2.1 ha))
  show H1[a]? = some (vp_cell _ _)
  rw [e1]
  rw [vp_cell_d, vp_cell_d, arrV_store]
  congr 2
  funext q
  by_cases hq : q = j
  · subst hq
    simp [updV, upd, vp_updL, vf_upd, vp_nar]
    try rfl
  · simp [updV, upd, vp_updL, vf_upd, hq]
theorem AF.arraylength {a : Nat} {cA : ClassId} {x : vp_A} {t0 : Nat} {ty : FieldType} (v : Int32) (hd : decode mi.2.1 pc = .ok (.arraylength, 1)) (hF : F.2 a = some (.inl (cA, x))) (ht : (gtys G.2.2.2.1)[t0]? = some (cA, ty)) (hv : Int32.ofNat x.1 = v) (k : AF G mi d bc bs R F (pc + 1) ls (.int v :: st)) : AF G mi d bc bs R F pc ls (.ref a :: st) := by
  intro p e Rm s m args below meth c mc ms H locs cells slots ls0 hC
  exact va_alen hC.1.1 hC.1.2.1 (gK hC.2.1.1 hC.2.1.2.1) (hC.2.2.1.P1 hF) 0 t0 rfl ht hv hd (k _ _ _ _ _ _ _ _ _ _ _ _ _ _ _ _ hC)
theorem AF.aaload {a n : Nat} {i : Int32} {f : Nat → Option Nat} {v : Value} (j : Nat) (hd : decode mi.2.1 pc = .ok (.aaload, 1)) (hF : F.2 a = some (.inl (gC G 4, n, .inr (.inr (.inr (.inr f)))))) (hi : i = nI j) (hj : j < n) (hb : n < 2 ^ 31) (hv : va_rf (f j) = v) (k : AF G mi d bc bs R F (pc + 1) ls (v :: st)) : AF G mi d bc bs R F pc ls (.int i :: .ref a :: st) := by
  intro p e Rm s m args below meth c mc ms H locs cells slots ls0 hC
  subst hi
  subst hv
  refine va_aldq hC.1.1 hC.1.2.1 (gK hC.2.1.1 hC.2.1.2.1) (hC.2.2.1.P1 hF) 0 4 rfl rfl (vp_in_nI hj hb) hd ?_
  rw [nI_clamp (Nat.lt_trans hj hb)]
  exact (k _ _ _ _ _ _ _ _ _ _ _ _ _ _ _ _ hC)
end AFH
end
section
/-! The layer: ends, calls, throws. -/
section AFE
variable {G : GA} {mi : MI} {d bc bs : Nat} {R : AR → AH → Prop} {F : AH} {pc : Nat} {ls : List (Option Value)} {st : List Value}
theorem Cf.QC {p : Program} {e : Env} {Rm : Room} {s : State} {m : MethodId} {args : Array Value} {below : List Frame} {meth : Method} {c : Code} {mc ms : Nat} {H : Heap} {locs : List Loc} {cells slots : Nat} {ls0 : Array Slot} (hC : Cf G mi d bc bs F ls p e Rm s m args below meth c mc ms H locs cells slots ls0) {v : Option Value} (h : R (.inl v) F) : ∀ t : State, t.heap = H → s.WarmedH t.vm → QC G R args s (.returned v) t :=
  fun t ht _ => ⟨v, F, rfl, h, by rw [ht]; exact hC.2.2.1, by rw [ht]; exact hC.2.1.2.2.2.2⟩
theorem Cf.w1 {p : Program} {e : Env} {Rm : Room} {s : State} {m : MethodId} {args : Array Value} {below : List Frame} {meth : Method} {c : Code} {mc ms : Nat} {H : Heap} {locs : List Loc} {cells slots : Nat} {ls0 : Array Slot} (hC : Cf G mi d bc bs F ls p e Rm s m args below meth c mc ms H locs cells slots ls0) : cells ≤ mc := by have := hC.2.2.2.2.2.2.2.1; omega
theorem Cf.w2 {p : Program} {e : Env} {Rm : Room} {s : State} {m : MethodId} {args : Array Value} {below : List Frame} {meth : Method} {c : Code} {mc ms : Nat} {H : Heap} {locs : List Loc} {cells slots : Nat} {ls0 : Array Slot} (hC : Cf G mi d bc bs F ls p e Rm s m args below meth c mc ms H locs cells slots ls0) : slots ≤ ms := by have := hC.2.2.2.2.2.2.2.2.1; omega
theorem AF.ireturn {v : Int32} (hd : decode mi.2.1 pc = .ok (.ireturn, 1)) (hr : mi.2.2.2.1 = some .int) (h : R (.inl (some (.int v))) F) : AF G mi d bc bs R F pc ls [.int v] := by
  intro p e Rm s m args below meth c mc ms H locs cells slots ls0 hC
  refine vx_ret (W.widen hC.w1 hC.w2 ?_)
  exact W.iret hC.1.1 hC.1.2.1 (hC.1.2.2.1.trans hr) (hC.QC h) hC.2.2.2.1 hd hC.1.2.2.2.2.2.1
theorem AF.lreturn {v : Int64} (hd : decode mi.2.1 pc = .ok (.lreturn, 1)) (hr : mi.2.2.2.1 = some .long) (h : R (.inl (some (.long v))) F) : AF G mi d bc bs R F pc ls [.long v] := by
  intro p e Rm s m args below meth c mc ms H locs cells slots ls0 hC
  refine vx_ret (W.widen hC.w1 hC.w2 ?_)
  exact W.lret hC.1.1 hC.1.2.1 (hC.1.2.2.1.trans hr) (hC.QC h) hC.2.2.2.1 hd hC.1.2.2.2.2.2.1
theorem AF.dreturn {v : UInt64} (hd : decode mi.2.1 pc = .ok (.dreturn, 1)) (hr : mi.2.2.2.1 = some .double) (h : R (.inl (some (.double v))) F) : AF G mi d bc bs R F pc ls [.double v] := by
  intro p e Rm s m args below meth c mc ms H locs cells slots ls0 hC
  refine vx_ret (W.widen hC.w1 hC.w2 ?_)
  exact W.dret hC.1.1 hC.1.2.1 (hC.1.2.2.1.trans hr) (hC.QC h) hC.2.2.2.1 hd hC.1.2.2.2.2.2.1
theorem AF.freturn {v : UInt32} (hd : decode mi.2.1 pc = .ok (.freturn, 1)) (hr : mi.2.2.2.1 = some .float) (h : R (.inl (some (.float v))) F) : AF G mi d bc bs R F pc ls [.float v] := by
  intro p e Rm s m args below meth c mc ms H locs cells slots ls0 hC
  refine vx_ret (W.widen hC.w1 hC.w2 ?_)
  exact W.fret hC.1.1 hC.1.2.1 (hC.1.2.2.1.trans hr) (hC.QC h) hC.2.2.2.1 hd hC.1.2.2.2.2.2.1
theorem AF.zreturn {v : Int32} {ty : FieldType} (hd : decode mi.2.1 pc = .ok (.ireturn, 1)) (hr : mi.2.2.2.1 = some ty) (hn : narrow ty (.int v) = .int v) (h : R (.inl (some (.int v))) F) : AF G mi d bc bs R F pc ls [.int v] := by
  intro p e Rm s m args below meth c mc ms H locs cells slots ls0 hC
  refine vx_ret (W.widen hC.w1 hC.w2 ?_)
  exact W.zret hC.1.1 hC.1.2.1 (hC.1.2.2.1.trans hr) hn (hC.QC h) hC.2.2.2.1 hd hC.1.2.2.2.2.2.1
theorem AF.areturn {v : Value} {rt : FieldType} (hd : decode mi.2.1 pc = .ok (.areturn, 1)) (hr : mi.2.2.2.1 = some rt) (hrt : (∃ n, rt = .object n) ∨ ∃ t, rt = .array t) (hv : v = .null ∨ ∃ a, v = .ref a) (h : R (.inl (some v)) F) : AF G mi d bc bs R F pc ls [v] := by
  intro p e Rm s m args below meth c mc ms H locs cells slots ls0 hC
  refine vx_ret (W.widen hC.w1 hC.w2 ?_)
  exact W.aret hC.1.1 hC.1.2.1 (hC.1.2.2.1.trans hr) hrt hv (hC.QC h) hC.2.2.2.1 hd hC.1.2.2.2.2.2.1
theorem AF.vreturn (hd : decode mi.2.1 pc = .ok (.return_, 1)) (hr : mi.2.2.2.1 = none) (h : R (.inl none) F) : AF G mi d bc bs R F pc ls [] := by
  intro p e Rm s m args below meth c mc ms H locs cells slots ls0 hC
  refine vx_ret (W.widen hC.w1 hC.w2 ?_)
  exact W.vret hC.1.1 hC.1.2.1 (hC.1.2.2.1.trans hr) (hC.QC h) hC.2.2.2.1 hd hC.1.2.2.2.2.2.1
/-- a method over a picture: from any start where the heap is as F says, with these arguments, it comes to an end, and R holds of it -/
def acw (mi : MI) : List Cond := match mi.2.2.2.2 with
  | [] => [Cond.code mi.1 mi.2.1 mi.2.2.1 mi.2.2.2.1]
  | hh => [Cond.codeWith mi.1 mi.2.1 mi.2.2.1 mi.2.2.2.1 hh]
def acp (G : GA) (args : List Value) (F : AH) : Array Value → State → Prop := fun a U => a = args.toArray ∧ GOK G ∧ G.2.1.WarmedH U.vm ∧ Wd G F U.heap
def acr (d mc ms : Nat) : Room := { frames := d, cells := mc, slots := ms, locals := 64 * d }
def AC (G : GA) (mi : MI) (d mc ms : Nat) (args : List Value) (F : AH) (R : AR → AH → Prop) : Prop :=
  vx_Met G.1 mi.1 (acw mi) (acr d mc ms) (acp G args F) (QC G R) (QX G R) mc ms (gA G)
theorem acp_blind {G : GA} {args : List Value} {F : AH} : FrameBlind (acp G args F) := fun _ _ _ _ q => q
theorem AC.of {mc ms : Nat} {args : List Value} (ls : List (Option Value)) (hh : mi.2.2.2.2 = []) (hy : plainName mi.1.cls = true) (hfit : (lg_sl args).length ≤ mi.2.2.1) (hls : lx ls = lv_args 0 args) (k : AF G mi d mc ms R F 0 ls []) : AC G mi d mc ms args F R := by
  refine vx_ofW (cc := mi.2.1) (maxL := mi.2.2.1) (ret := mi.2.2.2.1) (ws' := []) hy (by unfold acw; rw [hh]) ?_
  intro p e s m a below meth c s₁ B hml ht hP
  obtain ⟨rfl, hG, hW, hWd⟩ := hP
  have hl := lv_entry args (n := mi.2.2.1) hfit
  rw [lg_entry_eq]
  have hnm := name_of_methodNamed B.named B.method
  have htb : c.exceptionTable.toList = tableOf mi.2.2.2.2 := by
    rw [hh]
    cases hx : c.exceptionTable.toList with
    | nil => rfl
    | cons x xs => exact (ht x (by rw [hx]; exact List.mem_cons_self)).elim
  refine k _ _ _ _ _ _ _ _ _ mc ms _ _ _ _ _ ⟨⟨B.exec, B.bytes, B.returns, hml, hnm.1, B.notSynchronized, findClass_of_methodNamed B.named, htb⟩, ⟨hG, hW, by rw [hWd.1]; exact hWd.2.1, hWd.2.2.1, Nat.le_refl _⟩, hWd, fun z hz => absurd hz List.not_mem_nil, by rw [hls]; exact hl, ?_⟩
  exact ⟨Nat.le_refl _, Nat.le_refl _, Nat.le_of_eq (Nat.zero_add _), Nat.le_of_eq (Nat.zero_add _), Nat.le_refl _, Nat.le_refl _⟩
theorem AC.imp {mc ms : Nat} {args : List Value} {R' : AR → AH → Prop} (h : ∀ r F, R' r F → R r F) (k : AC G mi d mc ms args F R') : AC G mi d mc ms args F R := by
  intro p e h1 h2 h3 s m a below h4 h5 h6 h7
  obtain ⟨n, o, q1, q2, q3, q4⟩ := k p e h1 h2 h3 s m a below h4 h5 h6 h7
  refine ⟨n, o, q1, q2, q3, ?_⟩
  rcases q4 with ⟨⟨v, F', c1, c2, c3⟩, q⟩ | ⟨z, c1, E, ce, L, ⟨F', c2, c3⟩, q⟩
  · exact Or.inl ⟨⟨v, F', c1, h _ _ c2, c3⟩, q⟩
  · exact Or.inr ⟨z, c1, E, ce, L, ⟨F', h _ _ c2, c3⟩, q⟩
/-- a method that does not throw, as the kit's plain contract -/
theorem AC.met {mc ms : Nat} {args : List Value} (hn : ∀ E F', ¬ R (.inr E) F') (k : AC G mi d mc ms args F R) : Met G.1 mi.1 (acw mi) (acr d mc ms) (acp G args F) (QC G R) mc ms (gA G) := by
  intro p e h1 h2 h3 s m a below h4 h5 h6 h7
  obtain ⟨n, o, q1, q2, q3, q4⟩ := k p e h1 h2 h3 s m a below h4 h5 h6 h7
  refine ⟨n, o, q1, q2, q3, ?_⟩
  rcases q4 with q | ⟨z, c1, E, ce, L, ⟨F', c2, c3⟩, q⟩
  · exact q
  · exact absurd c2 (hn E F')
/-- what a call needs of the tables: class own calls mi at entry idx of its pool -/
def KV (own : String) (idx : Nat) (mi : MI) (n : Nat) : Prop := mi.2.2.2.2 = [] ∧ (Cond.methodLink own idx mi.1 ∈ lw_tbl ∧ Cond.instanceMethod mi.1 ∈ lw_tbl ∧ Cond.selects mi.1.cls mi.1 mi.1 ∈ lw_tbl ∧ Cond.initialized mi.1.cls ∈ lw_tbl ∧ Cond.code mi.1 mi.2.1 mi.2.2.1 mi.2.2.2.1 ∈ lw_tbl) ∧ (mi.1.cls ≠ "java/lang/invoke/MethodHandle" ∧ mi.1.cls ≠ "java/lang/invoke/VarHandle") ∧ (parseMethodDescriptor mi.1.desc).map (fun d => d.parameters.length) = some n ∧ mi.2.2.1 ≤ 40
def KS (own : String) (idx : Nat) (mi : MI) (n : Nat) : Prop := mi.2.2.2.2 = [] ∧ (Cond.methodLink own idx mi.1 ∈ lw_tbl ∧ Cond.static mi.1 ∈ lw_tbl ∧ Cond.initialized mi.1.cls ∈ lw_tbl ∧ Cond.code mi.1 mi.2.1 mi.2.2.1 mi.2.2.2.1 ∈ lw_tbl) ∧ (mi.1.cls ≠ "java/lang/invoke/MethodHandle" ∧ mi.1.cls ≠ "java/lang/invoke/VarHandle") ∧ (parseMethodDescriptor mi.1.desc).map (fun d => d.parameters.length) = some n ∧ mi.2.2.1 ≤ 40
def KI (own : String) (idx : Nat) (mi : MI) (n : Nat) : Prop := mi.2.2.2.2 = [] ∧ (Cond.methodLink own idx mi.1 ∈ lw_tbl ∧ Cond.instanceMethod mi.1 ∈ lw_tbl ∧ mi.1.name = "<init>" ∧ mi.2.2.2.1 = none ∧ Cond.initialized mi.1.cls ∈ lw_tbl ∧ Cond.code mi.1 mi.2.1 mi.2.2.1 none ∈ lw_tbl) ∧ (mi.1.cls ≠ "java/lang/invoke/MethodHandle" ∧ mi.1.cls ≠ "java/lang/invoke/VarHandle") ∧ (parseMethodDescriptor mi.1.desc).map (fun d => d.parameters.length) = some n ∧ mi.2.2.1 ≤ 40
def KVN (own : String) (idx : Nat) (mi : MI) (n : Nat) (host : String) : Prop := mi.2.2.2.2 = [] ∧ (Cond.methodLinkNest own idx mi.1 host ∈ lw_tbl ∧ Cond.instanceMethod mi.1 ∈ lw_tbl ∧ Cond.selects mi.1.cls mi.1 mi.1 ∈ lw_tbl ∧ Cond.initialized mi.1.cls ∈ lw_tbl ∧ Cond.code mi.1 mi.2.1 mi.2.2.1 mi.2.2.2.1 ∈ lw_tbl) ∧ (mi.1.cls ≠ "java/lang/invoke/MethodHandle" ∧ mi.1.cls ≠ "java/lang/invoke/VarHandle") ∧ (parseMethodDescriptor mi.1.desc).map (fun d => d.parameters.length) = some n ∧ mi.2.2.1 ≤ 40
def KSN (own : String) (idx : Nat) (mi : MI) (n : Nat) (host : String) : Prop := mi.2.2.2.2 = [] ∧ (Cond.methodLinkNest own idx mi.1 host ∈ lw_tbl ∧ Cond.static mi.1 ∈ lw_tbl ∧ Cond.initialized mi.1.cls ∈ lw_tbl ∧ Cond.code mi.1 mi.2.1 mi.2.2.1 mi.2.2.2.1 ∈ lw_tbl) ∧ (mi.1.cls ≠ "java/lang/invoke/MethodHandle" ∧ mi.1.cls ≠ "java/lang/invoke/VarHandle") ∧ (parseMethodDescriptor mi.1.desc).map (fun d => d.parameters.length) = some n ∧ mi.2.2.1 ≤ 40
def KIN (own : String) (idx : Nat) (mi : MI) (n : Nat) (host : String) : Prop := mi.2.2.2.2 = [] ∧ (Cond.methodLinkNest own idx mi.1 host ∈ lw_tbl ∧ Cond.instanceMethod mi.1 ∈ lw_tbl ∧ mi.1.name = "<init>" ∧ mi.2.2.2.1 = none ∧ Cond.initialized mi.1.cls ∈ lw_tbl ∧ Cond.code mi.1 mi.2.1 mi.2.2.1 none ∈ lw_tbl) ∧ (mi.1.cls ≠ "java/lang/invoke/MethodHandle" ∧ mi.1.cls ≠ "java/lang/invoke/VarHandle") ∧ (parseMethodDescriptor mi.1.desc).map (fun d => d.parameters.length) = some n ∧ mi.2.2.1 ≤ 40
theorem plen {desc : String} {n : Nat} (h : (parseMethodDescriptor desc).map (fun d => d.parameters.length) = some n) : ∀ sig, parseMethodDescriptor desc = some sig → n = sig.parameters.length := by
  intro sig q
  rw [q] at h
  exact (Option.some.inj h).symm
/-- what comes behind a call: a return, or a throw that goes on to the caller -/
theorem AF.behind {F0' : AH} {bc0 bs0 mc' ms' : Nat} {R' : AR → AH → Prop} {p : Program} {e : Env} {Rm : Room} {s : State} {m : MethodId} {args a : Array Value} {below : List Frame} {meth : Method} {c : Code} {mc ms : Nat} {H : Heap} {locs : List Loc} {cells slots : Nat} {ls0 : Array Slot} {st0 rest : List Value}
    (hC : Cf G mi d bc0 bs0 F0' ls p e Rm s m args below meth c mc ms H locs cells slots ls0) (h1 : bc0 = bc + mc') (h2 : bs0 = bs + ms')
    (hr : vx_Run p G.1 e Rm s m args below meth c H locs cells slots mc' ms' (F0 m pc ls0 st0) rest (QC G R' a) (QX G R') (gA G))
    (hx : mi.2.2.2.2 = []) (kx : ∀ E F', R' (.inr E) F' → R (.inr E) F')
    (k : ∀ v F', R' (.inl v) F' → AF G mi d bc bs R F' (pc + 3) ls (v.toList ++ rest)) : W p G.1 e Rm s m args below meth c H locs cells slots (vx_MQ below (QC G R) (QX G R) args s mc ms (gA G)) (F0 m pc ls0 st0) := by
  intro T hT X
  have hC' := hC.pay h1 h2
  rcases hr T hT X with ⟨v, st₀, t, T', L, h0, X', hL, e1, e2, ⟨v', F', q1, q2, q3, q4⟩, st⟩ | ⟨q, st₀, t, T', L, E, ce, h0, X', hL, e1, e2, ⟨F', q2, q3, q4⟩, hce, hcv, hcl, st⟩
  · cases q1
    rw [h0] at q4
    rw [← e1] at q3 q4
    obtain ⟨t2, a1, b1⟩ := k v F' q2 _ _ _ _ _ _ _ _ _ _ _ _ _ _ _ _ (hC'.heap (locs' := locs ++ L) q3 q4 (fun z hz => (List.mem_append.mp hz).elim (hC.2.2.2.1 z) (hL z))) T' rfl X'
    exact ⟨t2, st t2 a1, b1⟩
  · rw [h0] at q4
    rw [← e1] at q3 q4 hce
    have hC2 := hC'.heap (locs' := locs ++ L) q3 q4 (fun z hz => (List.mem_append.mp hz).elim (hC.2.2.2.1 z) (hL z))
    have kk : vx_W p G.1 e Rm s m args below meth c T'.heap (locs ++ L) (cells + mc') (slots + ms') (vx_MQ below (QC G R) (QX G R) args s mc ms (gA G)) (F0 m pc ls0 rest) q := by
      refine vx_out (E := E) (ce := ce) ?_ hC.1.2.2.2.2.2.1 hce hcv hcl (fun t ht _ => ⟨F', kx E F' q2, by rw [ht]; exact q3, by rw [ht]; exact hC2.2.1.2.2.2.2⟩) hC2.2.2.2.1 hC2.w1 hC2.w2
      intro x hx9
      rw [hC.1.2.2.2.2.2.2.2, hx] at hx9
      cases hx9
    obtain ⟨t2, a1, b1⟩ := kk T' rfl X'
    exact ⟨t2, st.trans a1, b1⟩
theorem Cf.fix {p : Program} {e : Env} {Rm : Room} {s : State} {m : MethodId} {args : Array Value} {below : List Frame} {meth : Method} {c : Code} {mc ms : Nat} {H : Heap} {locs : List Loc} {cells slots : Nat} {ls0 : Array Slot} (hC : Cf G mi d bc bs F ls p e Rm s m args below meth c mc ms H locs cells slots ls0) : CallFix p m c mi.2.1 mi.2.2.1 s args [] mi.1.cls := ⟨hC.1.1, hC.1.2.1, hC.1.2.2.2.1, hC.1.2.2.2.2.2.2.1, fun _ h => nomatch h⟩
theorem acp_run {p : Program} {e : Env} {Rm : Room} {s : State} {m : MethodId} {args : Array Value} {below : List Frame} {meth : Method} {c : Code} {mc ms : Nat} {H : Heap} {locs : List Loc} {cells slots : Nat} {ls0 : Array Slot} (hC : Cf G mi d bc bs F ls p e Rm s m args below meth c mc ms H locs cells slots ls0) {As : List Value} : ∀ U : State, U.heap = H → s.WarmedH U.vm → acp G As F As.toArray U := fun U hU hW => ⟨rfl, hC.2.1.1, State.WarmedH.trans hC.2.1.2.1 hW, by rw [hU]; exact hC.2.2.1⟩
theorem acw_code (mi' : MI) (hh : mi'.2.2.2.2 = []) {s : State} (hG : GOK G) (hW : G.2.1.WarmedH s.vm) (hc : Cond.code mi'.1 mi'.2.1 mi'.2.2.1 mi'.2.2.2.1 ∈ lw_tbl) : (∀ w ∈ acw mi', ∀ (a' : Array Value) (U : State), s.WarmedH U.vm → w.before a' U = true) ∧ Cond.code mi'.1 mi'.2.1 mi'.2.2.1 mi'.2.2.2.1 ∈ acw mi' := by
  unfold acw
  rw [hh]
  refine ⟨fun w hw a' U hU => ?_, List.mem_singleton.mpr rfl⟩
  rw [List.mem_singleton] at hw
  subst hw
  exact gw hG (State.WarmedH.trans hW hU) hc rfl
theorem Cf.rm {p : Program} {e : Env} {Rm : Room} {s : State} {m : MethodId} {args : Array Value} {below : List Frame} {meth : Method} {c : Code} {mc ms : Nat} {H : Heap} {locs : List Loc} {cells slots : Nat} {ls0 : Array Slot} {mc' ms' d' n : Nat} (hC : Cf G mi d (bc + mc') (bs + ms') F ls p e Rm s m args below meth c mc ms H locs cells slots ls0) (hd : d' + 1 ≤ d) (hn : n ≤ 40) : (acr d' mc' ms').frames + 1 ≤ Rm.frames ∧ 8 + (n + 11) + (acr d' mc' ms').locals ≤ Rm.locals ∧ cells + mc' ≤ Rm.cells ∧ slots + ms' ≤ Rm.slots := by
  obtain ⟨a1, a2, a3, a4, a5, a6⟩ := hC.2.2.2.2.2
  simp only [acr]
  refine ⟨by omega, by omega, by omega, by omega⟩
/-- a virtual call -/
theorem AF.callV {mi' : MI} {idx n ci d' mc' ms' b : Nat} {As rest : List Value} {fs : List Value} {R' : AR → AH → Prop} (hd : decode mi.2.1 pc = .ok (.invokevirtual idx, 3)) (hk : KV mi.1.cls idx mi' n) (hM : AC G mi' d' mc' ms' (.ref b :: As) F R') (hF : F.2 b = some (.inr (ci, fs))) (hci : (cls[ci]?).map (fun q => q.1) = some mi'.1.cls) (hn : As.length = n) (hst : st = As.reverse ++ .ref b :: rest) (hw : (rest.map fun v => v.category).sum ≤ 8) (hdd : d' + 1 ≤ d) (hx : mi.2.2.2.2 = [])
    (kx : ∀ E F', R' (.inr E) F' → R (.inr E) F') (k : ∀ v F', R' (.inl v) F' → AF G mi d bc bs R F' (pc + 3) ls (v.toList ++ rest)) : AF G mi d (bc + mc') (bs + ms') R F pc ls st := by
  intro p e Rm s m args below meth c mc ms H locs cells slots ls0 hC
  obtain ⟨hh, ⟨w1, w2, w3, w4, w5⟩, hy, hpl, h40⟩ := hk
  have hG := hC.2.1.1
  have hW := hC.2.1.2.1
  obtain ⟨a1, a2, a3, a4⟩ := hC.rm hdd h40
  obtain ⟨b1, b2⟩ := acw_code mi' hh hG hW w5
  obtain ⟨r, h1, cell, q1, q2, q3, q4⟩ := hC.2.2.1.2.2.2 b _ hF
  have hr : r.1 = mi'.1.cls := by rw [h1] at hci; exact Option.some.inj hci
  obtain ⟨-, hfc, -⟩ := (gK hG hW).1 ci _ h1
  refine AF.behind hC rfl rfl (vx_runV (C := mi'.1.cls) (Ts := []) (y := mi'.1) (bytes := mi'.2.1) (maxL := mi'.2.2.1) (ret := mi'.2.2.2.1) (n := n) (As := As) (rest := rest) hC.fix hM ⟨⟨rfl, rfl, a1, a2, b1, b2, gw hG hW w5 rfl, gw hG hW w4 rfl, hy, plen hpl, gw hG hW w1 rfl⟩, gw hG hW w2 rfl, gw hG hW w3 rfl⟩ ⟨acp_blind, ⟨cell, q1, by rw [q3]; rfl, by rw [q2, ← hr]; exact hfc⟩, acp_run hC⟩ rfl hn hC.2.2.2.2.1.1 hst (by simpa using hw) hd ⟨a3, a4⟩) hx kx k
theorem AF.callS {mi' : MI} {idx n d' mc' ms' : Nat} {As rest : List Value} {R' : AR → AH → Prop} (hd : decode mi.2.1 pc = .ok (.invokestatic idx, 3)) (hk : KS mi.1.cls idx mi' n) (hM : AC G mi' d' mc' ms' As F R') (hn : As.length = n) (hst : st = As.reverse ++ rest) (hw : (rest.map fun v => v.category).sum ≤ 8) (hdd : d' + 1 ≤ d) (hx : mi.2.2.2.2 = [])
    (kx : ∀ E F', R' (.inr E) F' → R (.inr E) F') (k : ∀ v F', R' (.inl v) F' → AF G mi d bc bs R F' (pc + 3) ls (v.toList ++ rest)) : AF G mi d (bc + mc') (bs + ms') R F pc ls st := by
  intro p e Rm s m args below meth c mc ms H locs cells slots ls0 hC
  obtain ⟨hh, ⟨w1, w2, w4, w5⟩, hy, hpl, h40⟩ := hk
  have hG := hC.2.1.1
  have hW := hC.2.1.2.1
  obtain ⟨a1, a2, a3, a4⟩ := hC.rm hdd h40
  obtain ⟨b1, b2⟩ := acw_code mi' hh hG hW w5
  refine AF.behind hC rfl rfl (vx_runS (Ts := []) (y := mi'.1) (bytes := mi'.2.1) (maxL := mi'.2.2.1) (ret := mi'.2.2.2.1) (n := n) (As := As) (rest := rest) hC.fix hM ⟨⟨rfl, rfl, a1, a2, b1, b2, gw hG hW w5 rfl, gw hG hW w4 rfl, hy, plen hpl, gw hG hW w1 rfl⟩, gw hG hW w2 rfl⟩ ⟨acp_blind, acp_run hC⟩ rfl hn hC.2.2.2.2.1.1 hst (by simpa using hw) hd ⟨a3, a4⟩) hx kx k
/-- the kit's plain run as a run that may throw -/
theorem run_x {p : Program} {l : Launch} {e : Env} {Rm : Room} {s : State} {m : MethodId} {args : Array Value} {below : List Frame} {meth : Method} {c : Code} {H : Heap} {locs : List Loc} {cells slots mc' ms' : Nat} {g : JFrame} {rest : List Value} {Qa : State → Outcome → State → Prop} {XC : String → State → State → Prop} {free : Addr → Prop} (h : va_Run p l e Rm s m args below meth c H locs cells slots mc' ms' g rest Qa free) : vx_Run p l e Rm s m args below meth c H locs cells slots mc' ms' g rest Qa XC free := fun T hT X => Or.inl (h T hT X)
theorem AF.callI {mi' : MI} {idx n d' mc' ms' b : Nat} {As rest : List Value} {R' : AR → AH → Prop} (hd : decode mi.2.1 pc = .ok (.invokespecial idx, 3)) (hk : KI mi.1.cls idx mi' n) (hM : AC G mi' d' mc' ms' (.ref b :: As) F R') (hn : As.length = n) (hst : st = As.reverse ++ .ref b :: rest) (hw : (rest.map fun v => v.category).sum ≤ 8) (hdd : d' + 1 ≤ d) (hx : mi.2.2.2.2 = [])
    (kx : ∀ E F', ¬ R' (.inr E) F') (k : ∀ v F', R' (.inl v) F' → AF G mi d bc bs R F' (pc + 3) ls (v.toList ++ rest)) : AF G mi d (bc + mc') (bs + ms') R F pc ls st := by
  intro p e Rm s m args below meth c mc ms H locs cells slots ls0 hC
  obtain ⟨hh, ⟨w1, w2, w3, wr, w4, w5⟩, hy, hpl, h40⟩ := hk
  have hG := hC.2.1.1
  have hW := hC.2.1.2.1
  obtain ⟨a1, a2, a3, a4⟩ := hC.rm hdd h40
  obtain ⟨b1, b2⟩ := acw_code mi' hh hG hW (by rw [wr]; exact w5)
  rw [wr] at b2
  refine AF.behind hC rfl rfl (run_x (va_runI (Ts := []) (y := mi'.1) (bytes := mi'.2.1) (maxL := mi'.2.2.1) (n := n) (As := As) (rest := rest) hC.fix (hM.met kx) ⟨⟨rfl, rfl, a1, a2, b1, b2, gw hG hW w5 rfl, gw hG hW w4 rfl, hy, plen hpl, gw hG hW w1 rfl⟩, w3, gw hG hW w2 rfl⟩ ⟨acp_blind, acp_run hC⟩ rfl hn hC.2.2.2.2.1.1 hst (by simpa using hw) hd ⟨a3, a4⟩)) hx (fun E F' q => absurd q (kx E F')) k
theorem AF.callVN {mi' : MI} {host : String} {idx n ci d' mc' ms' b : Nat} {As rest : List Value} {fs : List Value} {R' : AR → AH → Prop} (hd : decode mi.2.1 pc = .ok (.invokevirtual idx, 3)) (hk : KVN mi.1.cls idx mi' n host) (hM : AC G mi' d' mc' ms' (.ref b :: As) F R') (hF : F.2 b = some (.inr (ci, fs))) (hci : (cls[ci]?).map (fun q => q.1) = some mi'.1.cls) (hn : As.length = n) (hst : st = As.reverse ++ .ref b :: rest) (hw : (rest.map fun v => v.category).sum ≤ 8) (hdd : d' + 1 ≤ d) (hx : mi.2.2.2.2 = [])
    (kx : ∀ E F', ¬ R' (.inr E) F') (k : ∀ v F', R' (.inl v) F' → AF G mi d bc bs R F' (pc + 3) ls (v.toList ++ rest)) : AF G mi d (bc + mc') (bs + ms') R F pc ls st := by
  intro p e Rm s m args below meth c mc ms H locs cells slots ls0 hC
  obtain ⟨hh, ⟨w1, w2, w3, w4, w5⟩, hy, hpl, h40⟩ := hk
  have hG := hC.2.1.1
  have hW := hC.2.1.2.1
  obtain ⟨a1, a2, a3, a4⟩ := hC.rm hdd h40
  obtain ⟨b1, b2⟩ := acw_code mi' hh hG hW w5
  obtain ⟨r, h1, cell, q1, q2, q3, q4⟩ := hC.2.2.1.2.2.2 b _ hF
  have hr : r.1 = mi'.1.cls := by rw [h1] at hci; exact Option.some.inj hci
  obtain ⟨-, hfc, -⟩ := (gK hG hW).1 ci _ h1
  refine AF.behind hC rfl rfl (run_x (va_runVN (C := mi'.1.cls) (Ts := []) (y := mi'.1) (bytes := mi'.2.1) (maxL := mi'.2.2.1) (ret := mi'.2.2.2.1) (n := n) (As := As) (rest := rest) hC.fix (hM.met kx) ⟨⟨⟨rfl, rfl, a1, a2, b1, b2⟩, gw hG hW w5 rfl, gw hG hW w4 rfl, hy, plen hpl, gwM hG hW w1⟩, gw hG hW w2 rfl, gw hG hW w3 rfl⟩ ⟨acp_blind, ⟨cell, q1, by rw [q3]; rfl, by rw [q2, ← hr]; exact hfc⟩, acp_run hC⟩ rfl hn hC.2.2.2.2.1.1 hst (by simpa using hw) hd ⟨a3, a4⟩)) hx (fun E F' q => absurd q (kx E F')) k
theorem AF.callSN {mi' : MI} {host : String} {idx n d' mc' ms' : Nat} {As rest : List Value} {R' : AR → AH → Prop} (hd : decode mi.2.1 pc = .ok (.invokestatic idx, 3)) (hk : KSN mi.1.cls idx mi' n host) (hM : AC G mi' d' mc' ms' As F R') (hn : As.length = n) (hst : st = As.reverse ++ rest) (hw : (rest.map fun v => v.category).sum ≤ 8) (hdd : d' + 1 ≤ d) (hx : mi.2.2.2.2 = [])
    (kx : ∀ E F', ¬ R' (.inr E) F') (k : ∀ v F', R' (.inl v) F' → AF G mi d bc bs R F' (pc + 3) ls (v.toList ++ rest)) : AF G mi d (bc + mc') (bs + ms') R F pc ls st := by
  intro p e Rm s m args below meth c mc ms H locs cells slots ls0 hC
  obtain ⟨hh, ⟨w1, w2, w4, w5⟩, hy, hpl, h40⟩ := hk
  have hG := hC.2.1.1
  have hW := hC.2.1.2.1
  obtain ⟨a1, a2, a3, a4⟩ := hC.rm hdd h40
  obtain ⟨b1, b2⟩ := acw_code mi' hh hG hW w5
  refine AF.behind hC rfl rfl (run_x (va_runSN (Ts := []) (y := mi'.1) (bytes := mi'.2.1) (maxL := mi'.2.2.1) (ret := mi'.2.2.2.1) (n := n) (As := As) (rest := rest) hC.fix (hM.met kx) ⟨⟨⟨rfl, rfl, a1, a2, b1, b2⟩, gw hG hW w5 rfl, gw hG hW w4 rfl, hy, plen hpl, gwM hG hW w1⟩, gw hG hW w2 rfl, trivial⟩ ⟨acp_blind, acp_run hC⟩ rfl hn hC.2.2.2.2.1.1 hst (by simpa using hw) hd ⟨a3, a4⟩)) hx (fun E F' q => absurd q (kx E F')) k
theorem AF.callIN {mi' : MI} {host : String} {idx n d' mc' ms' b : Nat} {As rest : List Value} {R' : AR → AH → Prop} (hd : decode mi.2.1 pc = .ok (.invokespecial idx, 3)) (hk : KIN mi.1.cls idx mi' n host) (hM : AC G mi' d' mc' ms' (.ref b :: As) F R') (hn : As.length = n) (hst : st = As.reverse ++ .ref b :: rest) (hw : (rest.map fun v => v.category).sum ≤ 8) (hdd : d' + 1 ≤ d) (hx : mi.2.2.2.2 = [])
    (kx : ∀ E F', ¬ R' (.inr E) F') (k : ∀ v F', R' (.inl v) F' → AF G mi d bc bs R F' (pc + 3) ls (v.toList ++ rest)) : AF G mi d (bc + mc') (bs + ms') R F pc ls st := by
  intro p e Rm s m args below meth c mc ms H locs cells slots ls0 hC
  obtain ⟨hh, ⟨w1, w2, w3, wr, w4, w5⟩, hy, hpl, h40⟩ := hk
  have hG := hC.2.1.1
  have hW := hC.2.1.2.1
  obtain ⟨a1, a2, a3, a4⟩ := hC.rm hdd h40
  obtain ⟨b1, b2⟩ := acw_code mi' hh hG hW (by rw [wr]; exact w5)
  rw [wr] at b2
  refine AF.behind hC rfl rfl (run_x (va_runIN (Ts := []) (y := mi'.1) (bytes := mi'.2.1) (maxL := mi'.2.2.1) (n := n) (As := As) (rest := rest) hC.fix (hM.met kx) ⟨⟨⟨rfl, rfl, a1, a2, b1, b2⟩, gw hG hW w5 rfl, gw hG hW w4 rfl, hy, plen hpl, gwM hG hW w1⟩, w3, gw hG hW w2 rfl⟩ ⟨acp_blind, acp_run hC⟩ rfl hn hC.2.2.2.2.1.1 hst (by simpa using hw) hd ⟨a3, a4⟩)) hx (fun E F' q => absurd q (kx E F')) k
/-- what 'throw new E("text")' needs of the tables -/
def TH (own : String) (ik is ic : Nat) (cl tx : String) (names : List String) : Prop := Bundle.fit cl = true ∧ (∀ n ∈ names, Bundle.fit n = true) ∧ Cond.stringRef own is tx ∈ lw_tbl ∧ (∀ w ∈ Cond.classLink own ik cl :: Cond.initialized cl :: vx_atS own ic cl names, w ∈ lw_tbl ∧ vx_ot w = true) ∧ names.length ≤ 6
theorem gwT {G : GA} (hG : GOK G) {s : State} {args : Array Value} (hW : G.2.1.WarmedH s.vm) {w : Cond} (hw : w ∈ lw_tbl) (hg : vx_ot w = true) (hf : w.keepsFace = true) : w.before args s = true := by
  simp only [vx_ot, Bool.or_eq_true] at hg
  rcases hg with hg | hg
  · exact va_tabs (u := G.2.1.setVm s.vm) hg rfl (Cond.before_shiftedFace (State.Shifted.of_warmed hW) w hf (hG.1 w hw))
  · exact gw hG hW hw hg
theorem thrown {names : List String} {cl own : String} {ic : Nat} : ∀ w ∈ vx_atS own ic cl names, w.keepsFace = true := fun w hw => Bundle.ownAtoms_keepsFace w (List.mem_filter.mp hw).1
theorem Cf.vS {p : Program} {e : Env} {Rm : Room} {s : State} {m : MethodId} {args : Array Value} {below : List Frame} {meth : Method} {c : Code} {mc ms : Nat} {H : Heap} {locs : List Loc} {cells slots : Nat} {ls0 : Array Slot} (hC : Cf G mi d bc bs F ls p e Rm s m args below meth c mc ms H locs cells slots ls0) : va_S (gA G) s.heap H locs := by
  refine ⟨hC.2.1.2.2.2.2, fun q h1 h2 => ?_, hC.2.2.2.1⟩
  have h3 : q < gN G := Nat.not_le.mp h2
  rw [hC.2.2.1.2.2.1 q h3, hC.2.1.2.2.2.1 q h3]
theorem Cf.zq {p : Program} {e : Env} {Rm : Room} {s : State} {m : MethodId} {args : Array Value} {below : List Frame} {meth : Method} {c : Code} {mc ms : Nat} {H : Heap} {locs : List Loc} {cells slots : Nat} {ls0 : Array Slot} (hC : Cf G mi d bc bs F ls p e Rm s m args below meth c mc ms H locs cells slots ls0) {C n d9 : String} (h : vx_Zq C n d9 (gA G) G.2.1 G.2.1.heap) : vx_Zq C n d9 (gA G) s s.heap :=
  vx_Zq.moved hC.2.1.2.1.alike (h.kept (fun a h1 _ => hC.2.1.2.2.2.1 a h1))
/-- where a throw leaves the picture: more may have been made -/
def more (F : AH) (n : Nat) : AH := (n, F.2)
theorem AF.throwS {cl tx : String} {names : List String} {ik is ic : Nat} (hl : TH mi.1.cls ik is ic cl tx names) (d0 : decode mi.2.1 pc = .ok (.new ik, 3)) (d3 : decode mi.2.1 (pc + 3) = .ok (.dup, 1)) (d4 : decode mi.2.1 (pc + 4) = .ok (.ldc is, 2)) (d6 : decode mi.2.1 (pc + 6) = .ok (.invokespecial ic, 3)) (d9 : decode mi.2.1 (pc + 9) = .ok (.athrow, 1)) (hx : mi.2.2.2.2 = []) (hd : 10 ≤ d) (hw : (st.map fun v => v.category).sum ≤ 8)
    (h : ∀ n, F.1 ≤ n → R (.inr cl) (more F n)) : AF G mi d (bc + 1) (bs + 6) R F pc ls st := by
  intro p e Rm s m args below meth c mc ms H locs cells slots ls0 hC
  obtain ⟨t1, t2, t3, t4, t5⟩ := hl
  have hG := hC.2.1.1
  have hW := hC.2.1.2.1
  obtain ⟨sa, sv, hsa, -⟩ := hG.2.2.2.2.2.1 _ _ _ t3
  have hk := fun (w : Cond) hw => (t4 w hw).1
  obtain ⟨a1, a2, a3, a4, a5, a6⟩ := hC.2.2.2.2.2
  refine vx_throwS (A := gA G) (text := tx) (names := names) (mc := mc) (ms := ms) (sa := sa) hC.1.1 hC.1.2.1 hG.2.1 hC.1.2.2.2.2.2.2.1 t1 t2 (gw hG hW (hk _ List.mem_cons_self) rfl) (gw hG hW (hk _ (List.mem_cons_of_mem _ List.mem_cons_self)) rfl) (vk_R.warm hW hsa) (fun w hw => gwT hG hW (hk w (List.mem_cons_of_mem _ (List.mem_cons_of_mem _ hw))) (t4 w (List.mem_cons_of_mem _ (List.mem_cons_of_mem _ hw))).2 (thrown w hw)) (fun w hw => (t4 w hw).2) (hC.zq hG.2.2.2.1) (hC.zq hG.2.2.2.2.1) hC.vS (hC.2.2.2.2.1.1.trans hC.1.2.2.2.1.symm) d0 d3 d4 d6 d9 ?_ (by omega) (by omega) (by omega) (by omega) hC.1.2.2.2.2.2.1 ?_ hC.2.2.2.1 (by omega) (by omega)
  · intro x hx9
    rw [hC.1.2.2.2.2.2.2.2, hx] at hx9
    cases hx9
  · intro t _ hz hq
    have hWd := hC.2.2.1
    refine ⟨more F t.heap.size, h _ (by rw [← hWd.1]; exact hz), ⟨rfl, Nat.le_trans (by rw [hWd.1]; exact hWd.2.1) hz, fun q h9 => ?_, fun q c9 h9 => ?_⟩, Nat.le_trans hC.2.1.2.2.2.2 hz⟩
    · rw [hq q (by have h8 := hWd.2.1; rw [← hWd.1] at h8; omega)]
      exact hWd.2.2.1 q h9
    · have h7 := hWd.2.2.2 q c9 h9
      have h8 : q < H.size := va_at.lt h7
      exact va_at.kept h7 (hq q h8)
theorem AF.throwSW {cl tx : String} {names : List String} {ik is ic : Nat} (hl : TH mi.1.cls ik is ic cl tx names) (d0 : decode mi.2.1 pc = .ok (.new ik, 3)) (d3 : decode mi.2.1 (pc + 3) = .ok (.dup, 1)) (d4 : decode mi.2.1 (pc + 4) = .ok (.ldc_w is, 3)) (d6 : decode mi.2.1 (pc + 7) = .ok (.invokespecial ic, 3)) (d9 : decode mi.2.1 (pc + 10) = .ok (.athrow, 1)) (hx : mi.2.2.2.2 = []) (hd : 10 ≤ d) (hw : (st.map fun v => v.category).sum ≤ 8)
    (h : ∀ n, F.1 ≤ n → R (.inr cl) (more F n)) : AF G mi d (bc + 1) (bs + 6) R F pc ls st := by
  intro p e Rm s m args below meth c mc ms H locs cells slots ls0 hC
  obtain ⟨t1, t2, t3, t4, t5⟩ := hl
  have hG := hC.2.1.1
  have hW := hC.2.1.2.1
  obtain ⟨sa, sv, hsa, -⟩ := hG.2.2.2.2.2.1 _ _ _ t3
  have hk := fun (w : Cond) hw => (t4 w hw).1
  obtain ⟨a1, a2, a3, a4, a5, a6⟩ := hC.2.2.2.2.2
  refine vx_throwSW (A := gA G) (text := tx) (names := names) (mc := mc) (ms := ms) (sa := sa) hC.1.1 hC.1.2.1 hG.2.1 hC.1.2.2.2.2.2.2.1 t1 t2 (gw hG hW (hk _ List.mem_cons_self) rfl) (gw hG hW (hk _ (List.mem_cons_of_mem _ List.mem_cons_self)) rfl) (vk_R.warm hW hsa) (fun w hw => gwT hG hW (hk w (List.mem_cons_of_mem _ (List.mem_cons_of_mem _ hw))) (t4 w (List.mem_cons_of_mem _ (List.mem_cons_of_mem _ hw))).2 (thrown w hw)) (fun w hw => (t4 w hw).2) (hC.zq hG.2.2.2.1) (hC.zq hG.2.2.2.2.1) hC.vS (hC.2.2.2.2.1.1.trans hC.1.2.2.2.1.symm) d0 d3 d4 d6 d9 ?_ (by omega) (by omega) (by omega) (by omega) hC.1.2.2.2.2.2.1 ?_ hC.2.2.2.1 (by omega) (by omega)
  · intro x hx9
    rw [hC.1.2.2.2.2.2.2.2, hx] at hx9
    cases hx9
  · intro t _ hz hq
    have hWd := hC.2.2.1
    refine ⟨more F t.heap.size, h _ (by rw [← hWd.1]; exact hz), ⟨rfl, Nat.le_trans (by rw [hWd.1]; exact hWd.2.1) hz, fun q h9 => ?_, fun q c9 h9 => ?_⟩, Nat.le_trans hC.2.1.2.2.2.2 hz⟩
    · rw [hq q (by have h8 := hWd.2.1; rw [← hWd.1] at h8; omega)]
      exact hWd.2.2.1 q h9
    · have h7 := hWd.2.2.2 q c9 h9
      have h8 : q < H.size := va_at.lt h7
      exact va_at.kept h7 (hq q h8)
end AFE
end
section
/-! More rows of the layer: writes told by their picture, counters, frames. -/
/-- outside lo .. hi nothing has changed, and nothing was made -/
def Fr (lo hi : Nat) (F0 F : AH) : Prop := F.1 = F0.1 ∧ ∀ q, (q < lo ∨ hi ≤ q) → F.2 q = F0.2 q
theorem Fr.rf {lo hi : Nat} {F : AH} : Fr lo hi F F := ⟨rfl, fun _ _ => rfl⟩
theorem Fr.step {lo hi a : Nat} {F0 F F' : AH} (h : Fr lo hi F0 F) (e : F'.1 = F.1) (h1 : lo ≤ a) (h2 : a < hi) (o : ∀ q, ¬ q = a → F'.2 q = F.2 q) : Fr lo hi F0 F' := ⟨e.trans h.1, fun q hq => (o q (by omega)).trans (h.2 q hq)⟩
theorem Fr.trans {lo hi lo' hi' : Nat} {F0 F F' : AH} (h : Fr lo hi F0 F) (h' : Fr lo' hi' F F') (h1 : lo ≤ lo') (h2 : hi' ≤ hi) : Fr lo hi F0 F' := ⟨h'.1.trans h.1, fun q hq => (h'.2 q (by omega)).trans (h.2 q hq)⟩
theorem Fr.wide {lo hi lo' hi' : Nat} {F0 F : AH} (h : Fr lo' hi' F0 F) (h1 : lo ≤ lo') (h2 : hi' ≤ hi) : Fr lo hi F0 F := ⟨h.1, fun q hq => h.2 q (by omega)⟩
theorem Fr.at {lo hi a : Nat} {F0 F : AH} {c : Option va_E} (h : Fr lo hi F0 F) (hc : F0.2 a = c) (h1 : a < lo ∨ hi ≤ a) : F.2 a = c := (h.2 a h1).trans hc
section AFX
variable {G : GA} {mi : MI} {d bc bs : Nat} {R : AR → AH → Prop} {F : AH} {pc : Nat} {ls : List (Option Value)} {st : List Value}
theorem AF.inc1 {i : Nat} {k0 : Nat} (hd : decode mi.2.1 pc = .ok (.iinc i 1, 3)) (hl : ls[i]? = some (some (.int (nI k0)))) (hn : i < mi.2.2.1) (k : AF G mi d bc bs R F (pc + 3) (ls1 ls i (.int (nI (k0 + 1)))) st) : AF G mi d bc bs R F pc ls st := by
  refine AF.iinc hd hl hn ?_
  rw [show nI k0 + Int32.ofInt 1 = nI (k0 + 1) from nI_1 k0]
  exact k
theorem AF.putfieldF {idx ci k a : Nat} {fs : List Value} {v : Value} {ty : FieldType} (hd : decode mi.2.1 pc = .ok (.putfield idx, 3)) (hl : FP mi.1.cls idx ci k ty) (hF : F.2 a = some (.inr (ci, fs))) (ha : gN G ≤ a) (hlen : k < fs.length) (hn : narrow ty v = v) (hfit : fits ty v = true) (hini : mi.1.name = "<init>" ∨ ∀ T : u_T, (∃ (C : String) (N : Nat), cls[ci]? = some (C, T, N)) → (T k).2.2.2 = false)
    (kk : ∀ F' : AH, F'.1 = F.1 → F'.2 a = some (.inr (ci, fs.set k v)) → (∀ q, ¬ q = a → F'.2 q = F.2 q) → AF G mi d bc bs R F' (pc + 3) ls st) : AF G mi d bc bs R F pc ls (v :: .ref a :: st) :=
  AF.putfield hd hl hF ha hlen hn hfit hini (kk _ rfl pu_s (fun _ h => pu_n h))
theorem AF.iastoreF {a n : Nat} {i : Int32} {x : Int32} {f : Nat → Int32} (j : Nat) (hd : decode mi.2.1 pc = .ok (.iastore, 1)) (hF : F.2 a = some (.inl (gC G 0, n, .inl f))) (ha : gN G ≤ a) (hi : i = nI j) (hj : j < n) (hb : n < 2 ^ 31) (k : ∀ F' : AH, F'.1 = F.1 → F'.2 a = some (.inl (gC G 0, n, .inl (upd f j x))) → (∀ q, ¬ q = a → F'.2 q = F.2 q) → AF G mi d bc bs R F' (pc + 1) ls st) : AF G mi d bc bs R F pc ls (.int x :: .int i :: .ref a :: st) :=
  AF.iastore j hd hF ha hi hj hb (k _ rfl pu_s (fun _ h => pu_n h))
theorem AF.lastoreF {a n : Nat} {i : Int32} {x : Int64} {f : Nat → Int64} (j : Nat) (hd : decode mi.2.1 pc = .ok (.lastore, 1)) (hF : F.2 a = some (.inl (gC G 1, n, .inr (.inl f)))) (ha : gN G ≤ a) (hi : i = nI j) (hj : j < n) (hb : n < 2 ^ 31) (k : ∀ F' : AH, F'.1 = F.1 → F'.2 a = some (.inl (gC G 1, n, .inr (.inl (vp_updL f j x)))) → (∀ q, ¬ q = a → F'.2 q = F.2 q) → AF G mi d bc bs R F' (pc + 1) ls st) : AF G mi d bc bs R F pc ls (.long x :: .int i :: .ref a :: st) :=
  AF.lastore j hd hF ha hi hj hb (k _ rfl pu_s (fun _ h => pu_n h))
theorem AF.castoreF {a n : Nat} {i : Int32} {x : Int32} {f : Nat → Int32} (j : Nat) (hd : decode mi.2.1 pc = .ok (.castore, 1)) (hF : F.2 a = some (.inl (gC G 2, n, .inl f))) (ha : gN G ≤ a) (hi : i = nI j) (hj : j < n) (hb : n < 2 ^ 31) (k : ∀ F' : AH, F'.1 = F.1 → F'.2 a = some (.inl (gC G 2, n, .inl (upd f j (vp_nar .char x)))) → (∀ q, ¬ q = a → F'.2 q = F.2 q) → AF G mi d bc bs R F' (pc + 1) ls st) : AF G mi d bc bs R F pc ls (.int x :: .int i :: .ref a :: st) :=
  AF.castore j hd hF ha hi hj hb (k _ rfl pu_s (fun _ h => pu_n h))
theorem AF.dastoreF {a n : Nat} {i : Int32} {x : UInt64} {f : Nat → UInt64} (j : Nat) (hd : decode mi.2.1 pc = .ok (.dastore, 1)) (hF : F.2 a = some (.inl (gC G 3, n, .inr (.inr (.inr (.inl f)))))) (ha : gN G ≤ a) (hi : i = nI j) (hj : j < n) (hb : n < 2 ^ 31) (k : ∀ F' : AH, F'.1 = F.1 → F'.2 a = some (.inl (gC G 3, n, .inr (.inr (.inr (.inl (vf_upd f j x)))))) → (∀ q, ¬ q = a → F'.2 q = F.2 q) → AF G mi d bc bs R F' (pc + 1) ls st) : AF G mi d bc bs R F pc ls (.double x :: .int i :: .ref a :: st) :=
  AF.dastore j hd hF ha hi hj hb (k _ rfl pu_s (fun _ h => pu_n h))
/-- a method's answer, nothing written -/
def AV (v : Option Value) (F0 : AH) : AR → AH → Prop := fun r F => r = .inl v ∧ F = F0
end AFX
end
section
/-! The layer: constants, makings, copies, library functions. -/
section AFK
variable {G : GA} {mi : MI} {d bc bs : Nat} {R : AR → AH → Prop} {F : AH} {pc : Nat} {ls : List (Option Value)} {st : List Value}
section
variable {p : Program} {e : Env} {Rm : Room} {s : State} {m : MethodId} {args : Array Value} {below : List Frame} {meth : Method} {c : Code} {mc ms : Nat} {H : Heap} {locs : List Loc} {cells slots : Nat} {ls0 : Array Slot}
theorem Cf.cz (hC : Cf G mi d bc bs F ls p e Rm s m args below meth c mc ms H locs cells slots ls0) {C n d9 : String} {v : Value} (h : va_Z C n d9 v (gA G) G.2.1 G.2.1.heap) : va_Z C n d9 v (gA G) s s.heap := va_Z.moved hC.2.1.2.1.alike (h.kept (fun a h1 _ => hC.2.1.2.2.2.1 a h1))
theorem Cf.cT (hC : Cf G mi d bc bs F ls p e Rm s m args below meth c mc ms H locs cells slots ls0) {ty : FieldType} {t N : Nat} {f : Nat → Value} (h : va_T ty t N f (gA G) G.2.1 G.2.1.heap) : va_T ty t N f (gA G) s s.heap := va_T.moved hC.2.1.2.1.alike (h.kept (fun a h1 _ => hC.2.1.2.2.2.1 a h1))
theorem Cf.cF (hC : Cf G mi d bc bs F ls p e Rm s m args below meth c mc ms H locs cells slots ls0) {o n d9 : String} {v : Value} {t : Nat} (h : va_OF o n d9 v t (gA G) G.2.1 G.2.1.heap) : va_OF o n d9 v t (gA G) s s.heap := va_OF.moved hC.2.1.2.1.alike (h.kept (fun a h1 _ => hC.2.1.2.2.2.1 a h1))
theorem Cf.cO (hC : Cf G mi d bc bs F ls p e Rm s m args below meth c mc ms H locs cells slots ls0) {E : String} {t : Nat} (h : va_O E t (gA G) G.2.1 G.2.1.heap) : va_O E t (gA G) s s.heap := va_O.moved hC.2.1.2.1.alike (h.kept (fun a h1 _ => hC.2.1.2.2.2.1 a h1))
end
theorem AF.ok (k : GOK G → AF G mi d bc bs R F pc ls st) : AF G mi d bc bs R F pc ls st := by
  intro p e Rm s m args below meth c mc ms H locs cells slots ls0 hC
  exact k hC.2.1.1 _ _ _ _ _ _ _ _ _ _ _ _ _ _ _ _ hC
theorem AF.getstatic {C n d9 : String} {idx : Nat} {v : Value} (hd : decode mi.2.1 pc = .ok (.getstatic idx, 3)) (hl : Cond.fieldLink mi.1.cls idx C n d9 ∈ lw_tbl ∨ ∃ host, Cond.fieldLinkNest mi.1.cls idx C n d9 host ∈ lw_tbl) (hZ : va_Z C n d9 v (gA G) G.2.1 G.2.1.heap) (k : AF G mi d bc bs R F (pc + 3) ls (v :: st)) : AF G mi d bc bs R F pc ls st := by
  intro p e Rm s m args below meth c mc ms H locs cells slots ls0 hC
  rcases hl with hl | ⟨host, hl⟩
  · exact va_gets hC.1.1 hC.1.2.1 (hC.cz hZ) hC.vS hC.1.2.2.2.2.2.2.1 (gw hC.2.1.1 hC.2.1.2.1 hl rfl) (fun _ h => h) hd (k _ _ _ _ _ _ _ _ _ _ _ _ _ _ _ _ hC)
  · exact va_getsN hC.1.1 hC.1.2.1 (hC.cz hZ) hC.vS hC.1.2.2.2.2.2.2.1 (gwF hC.2.1.1 hC.2.1.2.1 hl) (fun _ h => h) hd (k _ _ _ _ _ _ _ _ _ _ _ _ _ _ _ _ hC)
theorem AF.getfieldC {o n d9 : String} {idx q : Nat} {v : Value} (hd : decode mi.2.1 pc = .ok (.getfield idx, 3)) (hl : Cond.fieldLink mi.1.cls idx o n d9 ∈ lw_tbl ∨ ∃ host, Cond.fieldLinkNest mi.1.cls idx o n d9 host ∈ lw_tbl) (hE : va_OF o n d9 v q (gA G) G.2.1 G.2.1.heap) (k : AF G mi d bc bs R F (pc + 3) ls (v :: st)) : AF G mi d bc bs R F pc ls (.ref q :: st) := by
  intro p e Rm s m args below meth c mc ms H locs cells slots ls0 hC
  rcases hl with hl | ⟨host, hl⟩
  · exact vk_getf hC.1.1 hC.1.2.1 (hC.cF hE) hC.vS hC.1.2.2.2.2.2.2.1 (gw hC.2.1.1 hC.2.1.2.1 hl rfl) (fun _ h => h) hd (k _ _ _ _ _ _ _ _ _ _ _ _ _ _ _ _ hC)
  · obtain ⟨cf, k9, i, f, cell, h1, h2, h3, h4, h5, h6⟩ := (hC.cF hE).kept hC.vS.2.1
    exact va_Wgetf hC.1.1 hC.1.2.1 hC.1.2.2.2.2.2.2.1 (gwF hC.2.1.1 hC.2.1.2.1 hl) h1 h2 h3 h4 (v := v) h5 rfl rfl hd (k _ _ _ _ _ _ _ _ _ _ _ _ _ _ _ _ hC)
theorem AF.ialoadT {t N : Nat} {i : Int32} {f : Nat → Value} {v : Value} (j : Nat) (hd : decode mi.2.1 pc = .ok (.iaload, 1)) (hT : va_T .int t N f (gA G) G.2.1 G.2.1.heap) (hi : i = nI j) (hj : j < N) (hb : N < 2 ^ 31) (hv : f j = v) (k : AF G mi d bc bs R F (pc + 1) ls (v :: st)) : AF G mi d bc bs R F pc ls (.int i :: .ref t :: st) := by
  intro p e Rm s m args below meth c mc ms H locs cells slots ls0 hC
  subst hi
  exact va_ti hC.1.1 hC.1.2.1 (hC.cT hT) hC.vS (vp_in_nI hj hb) (by rw [nI_clamp (Nat.lt_trans hj hb)]; exact hv) hd (k _ _ _ _ _ _ _ _ _ _ _ _ _ _ _ _ hC)
theorem AF.baloadT {t N : Nat} {i : Int32} {f : Nat → Value} {v : Value} (j : Nat) (hd : decode mi.2.1 pc = .ok (.baload, 1)) (hT : va_T .byte t N f (gA G) G.2.1 G.2.1.heap) (hi : i = nI j) (hj : j < N) (hb : N < 2 ^ 31) (hv : f j = v) (k : AF G mi d bc bs R F (pc + 1) ls (v :: st)) : AF G mi d bc bs R F pc ls (.int i :: .ref t :: st) := by
  intro p e Rm s m args below meth c mc ms H locs cells slots ls0 hC
  subst hi
  exact va_tb hC.1.1 hC.1.2.1 (hC.cT hT) hC.vS (vp_in_nI hj hb) (by rw [nI_clamp (Nat.lt_trans hj hb)]; exact hv) hd (k _ _ _ _ _ _ _ _ _ _ _ _ _ _ _ _ hC)
theorem AF.aaloadT {t N : Nat} {ty : FieldType} (href : ty.isReference = true) {i : Int32} {f : Nat → Value} {v : Value} (j : Nat) (hd : decode mi.2.1 pc = .ok (.aaload, 1)) (hT : va_T ty t N f (gA G) G.2.1 G.2.1.heap) (hi : i = nI j) (hj : j < N) (hb : N < 2 ^ 31) (hv : f j = v) (k : AF G mi d bc bs R F (pc + 1) ls (v :: st)) : AF G mi d bc bs R F pc ls (.int i :: .ref t :: st) := by
  intro p e Rm s m args below meth c mc ms H locs cells slots ls0 hC
  subst hi
  obtain ⟨cell, h1, h2, h3, h4, h5, h6, h7⟩ := hC.cT hT
  have hcl := nI_clamp (Nat.lt_trans hj hb)
  have hin : ¬ (nI j < 0 ∨ cell.slots.size ≤ (nI j).toNatClampNeg) := by
    have h9 := vp_in_nI hj hb
    intro q
    rcases q with q | q
    · exact h9 (Or.inl q)
    · rw [hcl] at q; omega
  exact W.aald (v := v) hC.1.1 hC.1.2.1 (by rw [hC.vS.2.1 t (Array.getElem?_eq_some_iff.mp h1).1 h7]; exact h1) h2 href h3 hin (by rw [hcl, h6 _ hj, hv]) rfl rfl hd (k _ _ _ _ _ _ _ _ _ _ _ _ _ _ _ _ hC)
theorem AF.arraylengthT {t N : Nat} {ty : FieldType} {f : Nat → Value} {v : Int32} (hd : decode mi.2.1 pc = .ok (.arraylength, 1)) (hT : va_T ty t N f (gA G) G.2.1 G.2.1.heap) (hv : Int32.ofNat N = v) (k : AF G mi d bc bs R F (pc + 1) ls (.int v :: st)) : AF G mi d bc bs R F pc ls (.ref t :: st) := by
  intro p e Rm s m args below meth c mc ms H locs cells slots ls0 hC
  exact va_tlen hC.1.1 hC.1.2.1 (hC.cT hT) hC.vS hv hd (k _ _ _ _ _ _ _ _ _ _ _ _ _ _ _ _ hC)
theorem AF.ldcS {tx : String} {idx : Nat} (hd : decode mi.2.1 pc = .ok (.ldc idx, 2)) (hl : Cond.stringRef mi.1.cls idx tx ∈ lw_tbl) (k : ∀ a v, STR G a v tx → AF G mi d bc bs R F (pc + 2) ls (.ref a :: st)) : AF G mi d bc bs R F pc ls st := by
  intro p e Rm s m args below meth c mc ms H locs cells slots ls0 hC
  obtain ⟨a, v, h1, h2⟩ := hC.2.1.1.2.2.2.2.2.1 _ _ _ hl
  exact va_ldcS hC.1.1 hC.1.2.1 hC.1.2.2.2.2.2.2.1 (vk_R.warm hC.2.1.2.1 h1) hd (k a v h2 _ _ _ _ _ _ _ _ _ _ _ _ _ _ _ _ hC)
theorem AF.acmp_eq {x y : Nat} {off : Int} (tgt : Nat) (hd : decode mi.2.1 pc = .ok (.if_acmp .eq off, 3)) (ht : (pc : Int) + off = (tgt : Int)) (kt : x = y → AF G mi d bc bs R F tgt ls st) (kf : ¬ x = y → AF G mi d bc bs R F (pc + 3) ls st) : AF G mi d bc bs R F pc ls (.ref y :: .ref x :: st) := by
  intro p e Rm s m args below meth c mc ms H locs cells slots ls0 hC
  exact lv_acmp_eq (rx := some x) (ry := some y) hC.1.1 hC.1.2.1 hd ht (fun h => kt (Option.some.inj h) _ _ _ _ _ _ _ _ _ _ _ _ _ _ _ _ hC) (fun h => kf (fun q => h (by rw [q])) _ _ _ _ _ _ _ _ _ _ _ _ _ _ _ _ hC)
/-- Math.min, max, abs -/
def KM (own : String) (idx : Nat) (y : MethodName) (cc : ByteArray) (ret : FieldType) : Prop := Cond.methodLink own idx y ∈ lw_tbl ∧ Cond.static y ∈ lw_tbl ∧ Cond.initialized "java/lang/Math" ∈ lw_tbl ∧ Cond.code y cc 2 (some ret) ∈ lw_tbl
theorem AF.min {idx : Nat} {x y : Int32} (hd : decode mi.2.1 pc = .ok (.invokestatic idx, 3)) (hk : KM mi.1.cls idx Lib.Math.min.name Lib.Math.min.code .int) (hw : (st.map fun v => v.category).sum ≤ 8) (hdd : 1 ≤ d) (k : AF G mi d bc bs R F (pc + 3) ls (.int (if y < x then y else x) :: st)) : AF G mi d bc bs R F pc ls (.int y :: .int x :: st) := by
  intro p e Rm s m args below meth c mc ms H locs cells slots ls0 hC
  obtain ⟨w1, w2, w3, w4⟩ := hk
  have hG := hC.2.1.1
  have hW := hC.2.1.2.1
  obtain ⟨a1, a2, a3, a4, a5, a6⟩ := hC.2.2.2.2.2
  exact va_mmin hC.1.1 hC.1.2.1 (hC.1.2.2.2.1.trans hC.2.2.2.2.1.1.symm) hC.1.2.2.2.2.2.2.1 (gw hG hW w1 rfl) (gw hG hW w2 rfl) (gw hG hW w3 rfl) (gw hG hW w4 rfl) (by omega) (by omega) (by omega) (by omega) hd (k _ _ _ _ _ _ _ _ _ _ _ _ _ _ _ _ hC)
theorem AF.max {idx : Nat} {x y : Int32} (hd : decode mi.2.1 pc = .ok (.invokestatic idx, 3)) (hk : KM mi.1.cls idx Lib.Math.max.name Lib.Math.max.code .int) (hw : (st.map fun v => v.category).sum ≤ 8) (hdd : 1 ≤ d) (k : AF G mi d bc bs R F (pc + 3) ls (.int (if x < y then y else x) :: st)) : AF G mi d bc bs R F pc ls (.int y :: .int x :: st) := by
  intro p e Rm s m args below meth c mc ms H locs cells slots ls0 hC
  obtain ⟨w1, w2, w3, w4⟩ := hk
  have hG := hC.2.1.1
  have hW := hC.2.1.2.1
  obtain ⟨a1, a2, a3, a4, a5, a6⟩ := hC.2.2.2.2.2
  exact va_mmax hC.1.1 hC.1.2.1 (hC.1.2.2.2.1.trans hC.2.2.2.2.1.1.symm) hC.1.2.2.2.2.2.2.1 (gw hG hW w1 rfl) (gw hG hW w2 rfl) (gw hG hW w3 rfl) (gw hG hW w4 rfl) (by omega) (by omega) (by omega) (by omega) hd (k _ _ _ _ _ _ _ _ _ _ _ _ _ _ _ _ hC)
theorem AF.labs {idx : Nat} {x : Int64} (hd : decode mi.2.1 pc = .ok (.invokestatic idx, 3)) (hk : KM mi.1.cls idx Lib.MathLoose.abs_long.x Lib.MathLoose.abs_long.code .long) (hw : (st.map fun v => v.category).sum ≤ 8) (hdd : 1 ≤ d) (k : AF G mi d bc bs R F (pc + 3) ls (.long (if 0 < x then x else -x) :: st)) : AF G mi d bc bs R F pc ls (.long x :: st) := by
  intro p e Rm s m args below meth c mc ms H locs cells slots ls0 hC
  obtain ⟨w1, w2, w3, w4⟩ := hk
  have hG := hC.2.1.1
  have hW := hC.2.1.2.1
  obtain ⟨a1, a2, a3, a4, a5, a6⟩ := hC.2.2.2.2.2
  exact va_mabs_long hC.1.1 hC.1.2.1 (hC.1.2.2.2.1.trans hC.2.2.2.2.1.1.symm) hC.1.2.2.2.2.2.2.1 (gw hG hW w1 rfl) (gw hG hW w2 rfl) (gw hG hW w3 rfl) (gw hG hW w4 rfl) (by omega) (by omega) (by omega) (by omega) hd (k _ _ _ _ _ _ _ _ _ _ _ _ _ _ _ _ hC)
/-- Object's constructor -/
def KO (own : String) (idx : Nat) : Prop := Cond.methodLink own idx Lib.objectInit ∈ lw_tbl ∧ Cond.instanceMethod Lib.objectInit ∈ lw_tbl ∧ Cond.code Lib.objectInit ⟨#[0xb1]⟩ 1 none ∈ lw_tbl
theorem AF.objInit {idx a : Nat} (hd : decode mi.2.1 pc = .ok (.invokespecial idx, 3)) (hk : KO mi.1.cls idx) (hw : (st.map fun v => v.category).sum ≤ 8) (hdd : 1 ≤ d) (k : AF G mi d bc bs R F (pc + 3) ls st) : AF G mi d bc bs R F pc ls (.ref a :: st) := by
  intro p e Rm s m args below meth c mc ms H locs cells slots ls0 hC
  obtain ⟨w1, w2, w3⟩ := hk
  have hG := hC.2.1.1
  have hW := hC.2.1.2.1
  obtain ⟨a1, a2, a3, a4, a5, a6⟩ := hC.2.2.2.2.2
  exact W.objInit hC.1.1 hC.1.2.1 hC.1.2.2.2.2.2.2.1 (gw hG hW w1 rfl) (gw hG hW w2 rfl) (gw hG hW w3 rfl) rfl (hC.2.2.2.2.1.1.trans hC.1.2.2.2.1.symm) rfl hd (by omega) (by show 2 * 0 + _ + 12 ≤ _; omega) (k _ _ _ _ _ _ _ _ _ _ _ _ _ _ _ _ hC)
/-- a new object of kind ci -/
def KN (own : String) (idx ci : Nat) (fs : List Value) : Prop := ∃ (C : String) (T : u_T) (N : Nat) (ty : Nat → FieldType), cls[ci]? = some (C, T, N) ∧ (∀ w ∈ u_ws C T N, w ∈ lw_tbl) ∧ (∀ k, k < N → parseFieldDescriptor (T k).2.2.1 = some (ty k)) ∧ Cond.classLink own idx C ∈ lw_tbl ∧ Cond.instantiable C N ∈ lw_tbl ∧ Cond.initialized C ∈ lw_tbl ∧ (∀ j, j < N → defaultValue (ty j) = vp_V fs j) ∧ fs.length = N
theorem AF.new {idx ci n : Nat} {fs : List Value} (hd : decode mi.2.1 pc = .ok (.new idx, 3)) (hk : KN mi.1.cls idx ci fs) (hn : fs.length = n) (kk : ∀ F' : AH, F'.1 = F.1 + 1 → F'.2 F.1 = some (.inr (ci, fs)) → (∀ q, ¬ q = F.1 → F'.2 q = F.2 q) → AF G mi d bc bs R F' (pc + 3) ls (.ref F.1 :: st)) : AF G mi d (bc + 1) (bs + n) R F pc ls st := by
  intro p e Rm s m args below meth c mc ms H locs cells slots ls0 hC
  obtain ⟨C, T, N, ty, hc, hin, hty, w1, w2, w3, hfs, hl⟩ := hk
  have hG := hC.2.1.1
  have hW := hC.2.1.2.1
  have hts := lay_at (args := args) hG hW hin
  have hKn := (gK hG hW).1 ci _ hc
  have hs : H.size = F.1 := hC.2.2.1.1
  have hC' := hC.pay rfl rfl
  have b := hC'.2.2.2.2.2
  subst hn
  rw [hl] at hC' b
  refine W.newcK hC.1.1 hC.1.2.1 hC.1.2.2.2.2.2.2.1 (gw hG hW w1 rfl) (gw hG hW w2 rfl) (gw hG hW w3 rfl) rfl hd (by omega) (by omega) hKn.2.1 hs fun H1 kC hkC e1 z1 o1 => ?_
  exact kk (F.1 + 1, pu F.2 F.1 (.inr (ci, fs))) rfl pu_s (fun q h => pu_n h) _ _ _ _ _ _ _ _ _ _ _ _ _ _ _ _ (hC'.heap (hC.2.2.1.new ⟨_, hc, (u_born ty hts (fun _ h => h) hKn hkC e1 hty).to hfs⟩ z1 (fun q hq => o1 q hq)) (by omega) hC.2.2.2.1)

theorem AF.newI {n : Nat} {i : Int32} (hd : decode mi.2.1 pc = .ok (.newarray .int, 2)) (hw : Cond.arrayClass .int ∈ lw_tbl) (hi : i = nI n) (hn : n < 2 ^ 20) (kk : ∀ F' : AH, F'.1 = F.1 + 1 → F'.2 F.1 = some (.inl (gC G 0, n, .inl (fun _ => 0))) → (∀ q, ¬ q = F.1 → F'.2 q = F.2 q) → AF G mi d bc bs R F' (pc + 2) ls (.ref F.1 :: st)) : AF G mi d (bc + 1) (bs + n) R F pc ls (.int i :: st) := by
  intro p e Rm s m args below meth c mc ms H locs cells slots ls0 hC
  subst hi
  have hG := hC.2.1.1
  have hW := hC.2.1.2.1
  have hs : H.size = F.1 := hC.2.2.1.1
  have hC' := hC.pay rfl rfl
  have b := hC'.2.2.2.2.2
  have hcl := nI_clamp (n := n) (by omega)
  refine W.newa (atype := .int) hC.1.1 hC.1.2.1 (gw hG hW hw rfl) rfl hd rfl (nI_pos (by omega)) (by rw [hcl]; show n * componentBytes .int ≤ _; simp only [componentBytes]; omega) (by omega) (by rw [hcl]; omega) fun cA kA comp h1 h2 h3 => ?_
  have hca : s.vm.findClass ("[" ++ (.int : FieldType).toString) = some (gC G 0) := ((gK hG hW).2 0 _ rfl).2
  have e1 : cA = gC G 0 := Option.some.inj (h1.symm.trans hca)
  subst e1
  rw [hcl, hs]
  refine kk (F.1 + 1, pu F.2 F.1 (.inl (gC G 0, n, .inl (fun _ => 0)))) rfl pu_s (fun q h => pu_n h) _ _ _ _ _ _ _ _ _ _ _ _ _ _ _ _ (hC'.heap (hC.2.2.1.new ?_ (by rw [Array.size_push, hs]) (fun q hq => by rw [Array.getElem?_push, if_neg (by omega)])) (by rw [Array.size_push]; omega) hC.2.2.2.1)
  show (Array.push H _)[F.1]? = some (vp_cell _ _)
  rw [← hs, arrV_new]
  simp only [Array.getElem?_push_size]
  rfl
theorem AF.newJ {n : Nat} {i : Int32} (hd : decode mi.2.1 pc = .ok (.newarray .long, 2)) (hw : Cond.arrayClass .long ∈ lw_tbl) (hi : i = nI n) (hn : n < 2 ^ 20) (kk : ∀ F' : AH, F'.1 = F.1 + 1 → F'.2 F.1 = some (.inl (gC G 1, n, .inr (.inl (fun _ => 0)))) → (∀ q, ¬ q = F.1 → F'.2 q = F.2 q) → AF G mi d bc bs R F' (pc + 2) ls (.ref F.1 :: st)) : AF G mi d (bc + 1) (bs + n) R F pc ls (.int i :: st) := by
  intro p e Rm s m args below meth c mc ms H locs cells slots ls0 hC
  subst hi
  have hG := hC.2.1.1
  have hW := hC.2.1.2.1
  have hs : H.size = F.1 := hC.2.2.1.1
  have hC' := hC.pay rfl rfl
  have b := hC'.2.2.2.2.2
  have hcl := nI_clamp (n := n) (by omega)
  refine W.newa (atype := .long) hC.1.1 hC.1.2.1 (gw hG hW hw rfl) rfl hd rfl (nI_pos (by omega)) (by rw [hcl]; show n * componentBytes .long ≤ _; simp only [componentBytes]; omega) (by omega) (by rw [hcl]; omega) fun cA kA comp h1 h2 h3 => ?_
  have hca : s.vm.findClass ("[" ++ (.long : FieldType).toString) = some (gC G 1) := ((gK hG hW).2 1 _ rfl).2
  have e1 : cA = gC G 1 := Option.some.inj (h1.symm.trans hca)
  subst e1
  rw [hcl, hs]
  refine kk (F.1 + 1, pu F.2 F.1 (.inl (gC G 1, n, .inr (.inl (fun _ => 0))))) rfl pu_s (fun q h => pu_n h) _ _ _ _ _ _ _ _ _ _ _ _ _ _ _ _ (hC'.heap (hC.2.2.1.new ?_ (by rw [Array.size_push, hs]) (fun q hq => by rw [Array.getElem?_push, if_neg (by omega)])) (by rw [Array.size_push]; omega) hC.2.2.2.1)
  show (Array.push H _)[F.1]? = some (vp_cell _ _)
  rw [← hs, arrV_new]
  simp only [Array.getElem?_push_size]
  rfl
theorem AF.newC {n : Nat} {i : Int32} (hd : decode mi.2.1 pc = .ok (.newarray .char, 2)) (hw : Cond.arrayClass .char ∈ lw_tbl) (hi : i = nI n) (hn : n < 2 ^ 20) (kk : ∀ F' : AH, F'.1 = F.1 + 1 → F'.2 F.1 = some (.inl (gC G 2, n, .inl (fun _ => 0))) → (∀ q, ¬ q = F.1 → F'.2 q = F.2 q) → AF G mi d bc bs R F' (pc + 2) ls (.ref F.1 :: st)) : AF G mi d (bc + 1) (bs + n) R F pc ls (.int i :: st) := by
  intro p e Rm s m args below meth c mc ms H locs cells slots ls0 hC
  subst hi
  have hG := hC.2.1.1
  have hW := hC.2.1.2.1
  have hs : H.size = F.1 := hC.2.2.1.1
  have hC' := hC.pay rfl rfl
  have b := hC'.2.2.2.2.2
  have hcl := nI_clamp (n := n) (by omega)
  refine W.newa (atype := .char) hC.1.1 hC.1.2.1 (gw hG hW hw rfl) rfl hd rfl (nI_pos (by omega)) (by rw [hcl]; show n * componentBytes .char ≤ _; simp only [componentBytes]; omega) (by omega) (by rw [hcl]; omega) fun cA kA comp h1 h2 h3 => ?_
  have hca : s.vm.findClass ("[" ++ (.char : FieldType).toString) = some (gC G 2) := ((gK hG hW).2 2 _ rfl).2
  have e1 : cA = gC G 2 := Option.some.inj (h1.symm.trans hca)
  subst e1
  rw [hcl, hs]
  refine kk (F.1 + 1, pu F.2 F.1 (.inl (gC G 2, n, .inl (fun _ => 0)))) rfl pu_s (fun q h => pu_n h) _ _ _ _ _ _ _ _ _ _ _ _ _ _ _ _ (hC'.heap (hC.2.2.1.new ?_ (by rw [Array.size_push, hs]) (fun q hq => by rw [Array.getElem?_push, if_neg (by omega)])) (by rw [Array.size_push]; omega) hC.2.2.2.1)
  show (Array.push H _)[F.1]? = some (vp_cell _ _)
  rw [← hs, arrV_new]
  simp only [Array.getElem?_push_size]
  rfl
theorem AF.newD {n : Nat} {i : Int32} (hd : decode mi.2.1 pc = .ok (.newarray .double, 2)) (hw : Cond.arrayClass .double ∈ lw_tbl) (hi : i = nI n) (hn : n < 2 ^ 20) (kk : ∀ F' : AH, F'.1 = F.1 + 1 → F'.2 F.1 = some (.inl (gC G 3, n, .inr (.inr (.inr (.inl (fun _ => 0)))))) → (∀ q, ¬ q = F.1 → F'.2 q = F.2 q) → AF G mi d bc bs R F' (pc + 2) ls (.ref F.1 :: st)) : AF G mi d (bc + 1) (bs + n) R F pc ls (.int i :: st) := by
  intro p e Rm s m args below meth c mc ms H locs cells slots ls0 hC
  subst hi
  have hG := hC.2.1.1
  have hW := hC.2.1.2.1
  have hs : H.size = F.1 := hC.2.2.1.1
  have hC' := hC.pay rfl rfl
  have b := hC'.2.2.2.2.2
  have hcl := nI_clamp (n := n) (by omega)
  refine W.newa (atype := .double) hC.1.1 hC.1.2.1 (gw hG hW hw rfl) rfl hd rfl (nI_pos (by omega)) (by rw [hcl]; show n * componentBytes .double ≤ _; simp only [componentBytes]; omega) (by omega) (by rw [hcl]; omega) fun cA kA comp h1 h2 h3 => ?_
  have hca : s.vm.findClass ("[" ++ (.double : FieldType).toString) = some (gC G 3) := ((gK hG hW).2 3 _ rfl).2
  have e1 : cA = gC G 3 := Option.some.inj (h1.symm.trans hca)
  subst e1
  rw [hcl, hs]
  refine kk (F.1 + 1, pu F.2 F.1 (.inl (gC G 3, n, .inr (.inr (.inr (.inl (fun _ => 0))))))) rfl pu_s (fun q h => pu_n h) _ _ _ _ _ _ _ _ _ _ _ _ _ _ _ _ (hC'.heap (hC.2.2.1.new ?_ (by rw [Array.size_push, hs]) (fun q hq => by rw [Array.getElem?_push, if_neg (by omega)])) (by rw [Array.size_push]; omega) hC.2.2.2.1)
  show (Array.push H _)[F.1]? = some (vp_cell _ _)
  rw [← hs, arrV_new]
  simp only [Array.getElem?_push_size]
  rfl
theorem AF.newB {n : Nat} {i : Int32} (hd : decode mi.2.1 pc = .ok (.newarray .byte, 2)) (hw : Cond.arrayClass .byte ∈ lw_tbl) (hi : i = nI n) (hn : n < 2 ^ 20) (kk : ∀ F' : AH, F'.1 = F.1 + 1 → F'.2 F.1 = some (.inl (gC G 5, n, .inl (fun _ => 0))) → (∀ q, ¬ q = F.1 → F'.2 q = F.2 q) → AF G mi d bc bs R F' (pc + 2) ls (.ref F.1 :: st)) : AF G mi d (bc + 1) (bs + n) R F pc ls (.int i :: st) := by
  intro p e Rm s m args below meth c mc ms H locs cells slots ls0 hC
  subst hi
  have hG := hC.2.1.1
  have hW := hC.2.1.2.1
  have hs : H.size = F.1 := hC.2.2.1.1
  have hC' := hC.pay rfl rfl
  have b := hC'.2.2.2.2.2
  have hcl := nI_clamp (n := n) (by omega)
  refine W.newa (atype := .byte) hC.1.1 hC.1.2.1 (gw hG hW hw rfl) rfl hd rfl (nI_pos (by omega)) (by rw [hcl]; show n * componentBytes .byte ≤ _; simp only [componentBytes]; omega) (by omega) (by rw [hcl]; omega) fun cA kA comp h1 h2 h3 => ?_
  have hca : s.vm.findClass ("[" ++ (.byte : FieldType).toString) = some (gC G 5) := ((gK hG hW).2 5 _ rfl).2
  have e1 : cA = gC G 5 := Option.some.inj (h1.symm.trans hca)
  subst e1
  rw [hcl, hs]
  refine kk (F.1 + 1, pu F.2 F.1 (.inl (gC G 5, n, .inl (fun _ => 0)))) rfl pu_s (fun q h => pu_n h) _ _ _ _ _ _ _ _ _ _ _ _ _ _ _ _ (hC'.heap (hC.2.2.1.new ?_ (by rw [Array.size_push, hs]) (fun q hq => by rw [Array.getElem?_push, if_neg (by omega)])) (by rw [Array.size_push]; omega) hC.2.2.2.1)
  show (Array.push H _)[F.1]? = some (vp_cell _ _)
  rw [← hs, arrV_new]
  simp only [Array.getElem?_push_size]
  rfl
theorem AF.anew {n idx : Nat} {i : Int32} (hd : decode mi.2.1 pc = .ok (.anewarray idx, 3)) (hw : Cond.classLink mi.1.cls idx RX7 ∈ lw_tbl ∧ Cond.arrayOver (.object RX7) ∈ lw_tbl) (hi : i = nI n) (hn : n < 2 ^ 20) (kk : ∀ F' : AH, F'.1 = F.1 + 1 → F'.2 F.1 = some (.inl (gC G 4, n, .inr (.inr (.inr (.inr (fun _ => none)))))) → (∀ q, ¬ q = F.1 → F'.2 q = F.2 q) → AF G mi d bc bs R F' (pc + 3) ls (.ref F.1 :: st)) : AF G mi d (bc + 1) (bs + n) R F pc ls (.int i :: st) := by
  intro p e Rm s m args below meth c mc ms H locs cells slots ls0 hC
  subst hi
  have hG := hC.2.1.1
  have hW := hC.2.1.2.1
  have hs : H.size = F.1 := hC.2.2.1.1
  have hC' := hC.pay rfl rfl
  have b := hC'.2.2.2.2.2
  have hcl := nI_clamp (n := n) (by omega)
  refine W.anew hC.1.1 hC.1.2.1 hC.1.2.2.2.2.2.2.1 (gw hG hW hw.1 rfl) (va_AO.use (va_AO.moved hW.alike (va_AO.of (hG.1 _ hw.2)))) rfl hd rfl (nI_pos (by omega)) (by rw [hcl]; omega) (by omega) (by rw [hcl]; omega) fun cA kA comp h1 h2 h3 h4 => ?_
  obtain ⟨kA', comp', -, -, -, hca⟩ := ((gK hG hW).2 4 _ rfl).2
  have e1 : cA = gC G 4 := Option.some.inj (h1.symm.trans hca)
  subst e1
  rw [hcl, hs]
  refine kk (F.1 + 1, pu F.2 F.1 (.inl (gC G 4, n, .inr (.inr (.inr (.inr (fun _ => none))))))) rfl pu_s (fun q h => pu_n h) _ _ _ _ _ _ _ _ _ _ _ _ _ _ _ _ (hC'.heap (hC.2.2.1.new ?_ (by rw [Array.size_push, hs]) (fun q hq => by rw [Array.getElem?_push, if_neg (by omega)])) (by rw [Array.size_push]; omega) hC.2.2.2.1)
  show (Array.push H _)[F.1]? = some (vp_cell _ _)
  rw [← hs, arrV_new]
  simp only [Array.getElem?_push_size]
  rfl
theorem AF.aastore {a n v : Nat} {i : Int32} {vs : List Value} {f : Nat → Option Nat} (j : Nat) (hd : decode mi.2.1 pc = .ok (.aastore, 1)) (hF : F.2 a = some (.inl (gC G 4, n, .inr (.inr (.inr (.inr f)))))) (hv : F.2 v = some (.inr (4, vs))) (ha : gN G ≤ a) (hi : i = nI j) (hj : j < n) (hb : n < 2 ^ 31) (kk : ∀ F' : AH, F'.1 = F.1 → F'.2 a = some (.inl (gC G 4, n, .inr (.inr (.inr (.inr (va_up f j (some v))))))) → (∀ q, ¬ q = a → F'.2 q = F.2 q) → AF G mi d bc bs R F' (pc + 1) ls st) : AF G mi d bc bs R F pc ls (.ref v :: .int i :: .ref a :: st) := by
  intro p e Rm s m args below meth c mc ms H locs cells slots ls0 hC
  subst hi
  have hG := hC.2.1.1
  have hW := hC.2.1.2.1
  have hK := gK hG hW
  have hcl := nI_clamp (n := j) (by omega)
  obtain ⟨r', hr', cellV, g1, g2, g3, -⟩ := hC.2.2.1.2.2.2 v _ hv
  have hcls := (hK.1 4 _ rfl).2
  obtain ⟨kA, comp, k1, k2, k3, -⟩ := (hK.2 4 _ rfl).2
  have hcomp : comp = G.2.2.1.1 4 := Option.some.inj (k3.symm.trans hcls.1)
  subst hcomp
  obtain ⟨kC, hkC, -⟩ := hcls.2
  refine W.aast hC.1.1 hC.1.2.1 (hC.2.2.1.2.2.2 a _ hF) (fun q h => by cases h) (fun h => by cases h) k1 k2 rfl hkC ⟨nI_pos (by omega), by rw [hcl]; show _ < (arrV _ _ _).slots.size; rw [arrV_size]; exact hj⟩ g1 (fun q h => by rw [g3] at h; cases h) (by rw [g2]; exact hkC) (by rw [g2]; exact va_assign hcls) rfl rfl hd fun H1 e1 e2 e3 => ?_
  rw [hcl] at e1 ⊢
  refine kk (F.1, pu F.2 a (.inl (gC G 4, n, .inr (.inr (.inr (.inr (va_up f j (some v)))))))) rfl pu_s (fun q h => pu_n h) _ _ _ _ _ _ _ _ _ _ _ _ _ _ _ _ (hC.heap (hC.2.2.1.put ha ?_ e2 e3) (Nat.le_of_eq e2.symm) (loc_add hC.2.2.2.1 ha))
  show H1[a]? = some (vp_cell _ _)
  rw [e1]
  rw [vp_cell_q, vp_cell_q, arrV_store]
  congr 2
  funext q
  by_cases hq : q = j
  · subst hq
    simp [updV, va_up, va_rf]
  · simp [updV, va_up, hq]
/-- System.arraycopy of ints -/
def KA (own : String) (idx : Nat) : Prop := Cond.methodLink own idx arraycopyName ∈ lw_tbl ∧ Cond.native arraycopyName ∈ lw_tbl ∧ Cond.static arraycopyName ∈ lw_tbl ∧ Cond.initialized "java/lang/System" ∈ lw_tbl
theorem AF.copyi {idx a0 a n0 n1 sp dp n : Nat} {f g : Nat → Int32} {isp idp i9 : Int32} (hd : decode mi.2.1 pc = .ok (.invokestatic idx, 3)) (hk : KA mi.1.cls idx) (ha0 : F.2 a0 = some (.inl (gC G 0, n0, .inl f))) (ha1 : F.2 a = some (.inl (gC G 0, n1, .inl g))) (ha : gN G ≤ a) (e1 : isp = nI sp) (e2 : idp = nI dp) (e3 : i9 = nI n) (h4 : sp + n ≤ n0) (h5 : dp + n ≤ n1) (hb : n0 < 2 ^ 31) (hb1 : n1 < 2 ^ 31) (hw : (st.map fun v => v.category).sum ≤ 8) (hdd : 1 ≤ d)
    (kk : ∀ F' : AH, F'.1 = F.1 → F'.2 a = some (.inl (gC G 0, n1, .inl (va_cpy f g sp dp n))) → (∀ q, ¬ q = a → F'.2 q = F.2 q) → AF G mi d bc bs R F' (pc + 3) ls st) : AF G mi d bc bs R F pc ls (.int i9 :: .int idp :: .ref a :: .int isp :: .ref a0 :: st) := by
  intro p e Rm s m args below meth c mc ms H locs cells slots ls0 hC
  subst e1 e2 e3
  obtain ⟨w1, w2, w3, w4⟩ := hk
  have hG := hC.2.1.1
  have hW := hC.2.1.2.1
  have hK := gK hG hW
  obtain ⟨a1, a2, a3, a4, a5, a6⟩ := hC.2.2.2.2.2
  have c1 := nI_clamp (n := sp) (by omega)
  have c2 := nI_clamp (n := dp) (by omega)
  have c3 := nI_clamp (n := n) (by omega)
  have t1 := nI_toInt (n := sp) (by omega)
  have t2 := nI_toInt (n := dp) (by omega)
  have t3 := nI_toInt (n := n) (by omega)
  have hnf : nativeFrameWords "java/lang/System" "arraycopy" 5 ≤ 7 := by decide +kernel
  intro T hT X
  have hc0 : H[a0]? = some (vp_cell (gC G 0) (n0, .inl f)) := hC.2.2.1.2.2.2 a0 _ ha0
  have hc1 : H[a]? = some (vp_cell (gC G 0) (n1, .inl g)) := hC.2.2.1.2.2.2 a _ ha1
  obtain ⟨-, k0, hk0, cm0, hkk0⟩ := (hK.2 0 _ rfl).1 n0 (fun j => .int (f j))
  obtain ⟨-, k1, hk1, cm1, hkk1⟩ := (hK.2 0 _ rfl).1 n1 (fun j => .int (g j))
  obtain ⟨vm', X', step⟩ := X.arraycopy hC.1.1 hC.1.2.2.2.2.2.2.1 (gw hG hW w1 rfl) (gw hG hW w2 rfl) (gw hG hW w3 rfl) (gw hG hW w4 rfl) (src := a0) (dst := a) (cs := vp_cell (gC G 0) (n0, .inl f)) (cd := vp_cell (gC G 0) (n1, .inl g)) (srcPos := nI sp) (destPos := nI dp) (n := nI n) (by rw [hT]; exact hc0) (by rw [hT]; exact hc1)
    (fun _ h => by cases h) (fun _ h => by cases h) (fun h => by cases h) (fun h => by cases h) hk0 hk1 hkk0 hkk1 (by simp [refKind]) (nI_pos (by omega)) (nI_pos (by omega)) (nI_pos (by omega))
    (by rw [t1, t3]; show ¬ _ > ((arrV (gC G 0) n0 (fun j => .int (f j))).slots.size : Int); rw [arrV_size]; omega)
    (by rw [t2, t3]; show ¬ _ > ((arrV (gC G 0) n1 (fun j => .int (g j))).slots.size : Int); rw [arrV_size]; omega)
    (fun vm₁ _ i hi => by
      rw [c3] at hi
      have e : (vp_cell (gC G 0) (n0, .inl f)).slots.getD ((nI sp).toNatClampNeg + i) .null = .int (f (sp + i)) := by
        rw [c1]
        show (arrV (gC G 0) n0 (fun j => .int (f j))).slots.getD _ _ = _
        rw [Array.getD_eq_getD_getElem?, arrV_read _ _ (by omega)]
        rfl
      refine ⟨?_, ?_⟩
      · rw [e]
        rfl
      · rw [e]
        exact trivial)
    (g := F0 m pc ls0 (.int (nI n) :: .int (nI dp) :: .ref a :: .int (nI sp) :: .ref a0 :: st)) rfl (hC.2.2.2.2.1.1.trans hC.1.2.2.2.1.symm) (rest := st) rfl (by rw [hC.1.2.1]; exact hd) (by omega) (by show 2 * 0 + _ + (nativeFrameWords _ _ 5 + 11) ≤ _; omega)
  have ec : copied (vp_cell (gC G 0) (n0, .inl f)) (vp_cell (gC G 0) (n1, .inl g)) (nI sp) (nI dp) (nI n) = vp_cell (gC G 0) (n1, .inl (va_cpy f g sp dp n)) := by
    have h9 := va_copied (fun z => .int z) (gC G 0) (gC G 0) (n0 := n0) (n1 := n1) (sp := (nI sp).toNatClampNeg) (dp := (nI dp).toNatClampNeg) (n := (nI n).toNatClampNeg) f g (by rw [c1, c3]; exact h4)
    have h8 : copied (vp_cell (gC G 0) (n0, .inl f)) (vp_cell (gC G 0) (n1, .inl g)) (nI sp) (nI dp) (nI n) = vp_cell (gC G 0) (n1, .inl (va_cpy f g (nI sp).toNatClampNeg (nI dp).toNatClampNeg (nI n).toNatClampNeg)) := h9
    rw [c1, c2, c3] at h8
    exact h8
  rw [ec] at X' step
  have hl : a < H.size := (Array.getElem?_eq_some_iff.mp hc1).1
  have hheap : ((T.setVm vm').setCell a (vp_cell (gC G 0) (n1, .inl (va_cpy f g sp dp n)))).heap = H.setIfInBounds a (vp_cell (gC G 0) (n1, .inl (va_cpy f g sp dp n))) := by rw [← hT]; rfl
  have oq : ∀ q : Nat, q ≠ a → (H.setIfInBounds a (vp_cell (gC G 0) (n1, .inl (va_cpy f g sp dp n))))[q]? = H[q]? := fun q hq => by simp [Array.getElem?_setIfInBounds, Ne.symm hq]
  obtain ⟨t, b1, b2⟩ := kk (F.1, pu F.2 a (.inl (gC G 0, n1, .inl (va_cpy f g sp dp n)))) rfl pu_s (fun q h => pu_n h) _ _ _ _ _ _ _ _ _ _ _ _ _ _ _ _ (hC.heap (hC.2.2.1.put (c := .inl (gC G 0, n1, .inl (va_cpy f g sp dp n))) ha (show (H.setIfInBounds a _)[a]? = some _ by simp [Array.getElem?_setIfInBounds, hl]) (by simp) oq) (by simp) (fun z hz => by
      rcases List.mem_append.mp hz with h | h
      · exact hC.2.2.2.1 z h
      · obtain ⟨z9, -, hz9⟩ := List.mem_map.mp h
        rw [← hz9]
        exact ha)) _ hheap X'
  exact ⟨t, step t b1, b2⟩
end AFK
end
section
/-! The layer: inherited calls, handlers. -/
section AFL
variable {G : GA} {mi : MI} {d bc bs : Nat} {R : AR → AH → Prop} {F : AH} {pc : Nat} {ls : List (Option Value)} {st : List Value}
/-- an inherited method of a constant object: class own calls x at idx, mi' runs -/
def KU (own : String) (idx : Nat) (C owner : String) (x : MethodName) (mi : MI) (n : Nat) : Prop := mi.2.2.2.2 = [] ∧ mi.1 = ⟨owner, x.name, x.desc⟩ ∧ (Cond.methodLink own idx x ∈ lw_tbl ∧ Cond.sameMethod x.cls owner x.name x.desc ∈ lw_tbl ∧ Cond.selects C x mi.1 ∈ lw_tbl ∧ Cond.instanceMethod mi.1 ∈ lw_tbl ∧ Cond.initialized mi.1.cls ∈ lw_tbl ∧ Cond.code mi.1 mi.2.1 mi.2.2.1 mi.2.2.2.1 ∈ lw_tbl) ∧ (owner ≠ "java/lang/invoke/MethodHandle" ∧ owner ≠ "java/lang/invoke/VarHandle") ∧ (parseMethodDescriptor x.desc).map (fun d => d.parameters.length) = some n ∧ mi.2.2.1 ≤ 40
theorem AF.callUC {mi' : MI} {C owner : String} {x : MethodName} {idx n d' mc' ms' b : Nat} {As rest : List Value} {R' : AR → AH → Prop} (hd : decode mi.2.1 pc = .ok (.invokevirtual idx, 3)) (hk : KU mi.1.cls idx C owner x mi' n) (hM : AC G mi' d' mc' ms' (.ref b :: As) F R') (hO : va_O C b (gA G) G.2.1 G.2.1.heap) (hn : As.length = n) (hst : st = As.reverse ++ .ref b :: rest) (hw : (rest.map fun v => v.category).sum ≤ 8) (hdd : d' + 1 ≤ d) (hx : mi.2.2.2.2 = [])
    (kx : ∀ E F', ¬ R' (.inr E) F') (k : ∀ v F', R' (.inl v) F' → AF G mi d bc bs R F' (pc + 3) ls (v.toList ++ rest)) : AF G mi d (bc + mc') (bs + ms') R F pc ls st := by
  intro p e Rm s m args below meth c mc ms H locs cells slots ls0 hC
  obtain ⟨hh, hyx, ⟨w1, w2, w3, w4, w5, w6⟩, hy, hpl, h40⟩ := hk
  have hG := hC.2.1.1
  have hW := hC.2.1.2.1
  obtain ⟨a1, a2, a3, a4⟩ := hC.rm hdd h40
  obtain ⟨b1, b2⟩ := acw_code mi' hh hG hW w6
  obtain ⟨cell, q1, q2, q3, -⟩ := (hC.cO hO).kept hC.vS.2.1
  have hdec : va_Decl s ⟨owner, x.name, x.desc⟩ := by
    rw [← hyx]
    exact va_Decl.of (args := args) (gw hG hW w4 rfl) (gw hG hW w6 rfl)
  refine AF.behind hC rfl rfl (run_x (va_runU (C := C) (owner := owner) (x := x) (Ts := []) (y := mi'.1) (bytes := mi'.2.1) (maxL := mi'.2.2.1) (ret := mi'.2.2.2.1) (n := n) (As := As) (rest := rest) hC.fix (hM.met kx) ⟨⟨rfl, rfl, a1, a2, b1, b2⟩, gw hG hW w6 rfl, gw hG hW w5 rfl, hy, plen hpl, gw hG hW w1 rfl, gw hG hW w2 rfl, hdec, gw hG hW w3 rfl, gw hG hW w4 rfl⟩ ⟨acp_blind, ⟨cell, q1, q2, q3⟩, acp_run hC⟩ rfl hn hC.2.2.2.2.1.1 hst (by simpa using hw) hd ⟨a3, a4⟩)) hx (fun E F' q => absurd q (kx E F')) k
/-- a method of a constant object, of its own class -/
theorem AF.callVC {mi' : MI} {idx n d' mc' ms' b : Nat} {As rest : List Value} {R' : AR → AH → Prop} (hd : decode mi.2.1 pc = .ok (.invokevirtual idx, 3)) (hk : KV mi.1.cls idx mi' n) (hM : AC G mi' d' mc' ms' (.ref b :: As) F R') (hO : va_O mi'.1.cls b (gA G) G.2.1 G.2.1.heap) (hn : As.length = n) (hst : st = As.reverse ++ .ref b :: rest) (hw : (rest.map fun v => v.category).sum ≤ 8) (hdd : d' + 1 ≤ d) (hx : mi.2.2.2.2 = [])
    (kx : ∀ E F', R' (.inr E) F' → R (.inr E) F') (k : ∀ v F', R' (.inl v) F' → AF G mi d bc bs R F' (pc + 3) ls (v.toList ++ rest)) : AF G mi d (bc + mc') (bs + ms') R F pc ls st := by
  intro p e Rm s m args below meth c mc ms H locs cells slots ls0 hC
  obtain ⟨hh, ⟨w1, w2, w3, w4, w5⟩, hy, hpl, h40⟩ := hk
  have hG := hC.2.1.1
  have hW := hC.2.1.2.1
  obtain ⟨a1, a2, a3, a4⟩ := hC.rm hdd h40
  obtain ⟨b1, b2⟩ := acw_code mi' hh hG hW w5
  obtain ⟨cell, q1, q2, q3, -⟩ := (hC.cO hO).kept hC.vS.2.1
  exact AF.behind hC rfl rfl (vx_runV (C := mi'.1.cls) (Ts := []) (y := mi'.1) (bytes := mi'.2.1) (maxL := mi'.2.2.1) (ret := mi'.2.2.2.1) (n := n) (As := As) (rest := rest) hC.fix hM ⟨⟨rfl, rfl, a1, a2, b1, b2, gw hG hW w5 rfl, gw hG hW w4 rfl, hy, plen hpl, gw hG hW w1 rfl⟩, gw hG hW w2 rfl, gw hG hW w3 rfl⟩ ⟨acp_blind, ⟨cell, q1, q2, q3⟩, acp_run hC⟩ rfl hn hC.2.2.2.2.1.1 hst (by simpa using hw) hd ⟨a3, a4⟩) hx kx k
/-- a row of the method's table takes E thrown at pc: the rows ahead don't -/
def HX (mi : MI) (pc : Nat) (E : String) (pre : List (Nat × Nat × Nat × Nat)) (t : Nat × Nat × Nat × Nat) : Prop :=
  (∃ suf, mi.2.2.2.2 = pre ++ t :: suf) ∧ (∀ z ∈ pre, z.2.2.2 ≠ 0 ∧ ∃ nm, Cond.classLink mi.1.cls z.2.2.2 nm ∈ lw_tbl ∧ (E, nm) ∈ ncs) ∧ covers ⟨t.1, t.2.1, t.2.2.1, t.2.2.2⟩ pc = true ∧ t.2.2.2 ≠ 0 ∧ ∃ nm, Cond.classLink mi.1.cls t.2.2.2 nm ∈ lw_tbl ∧ Cond.castable E nm ∈ lw_tbl
/-- behind a call, in a method with handlers -/
theorem AF.behindH {F0' : AH} {bc0 bs0 mc' ms' : Nat} {R' : AR → AH → Prop} {p : Program} {e : Env} {Rm : Room} {s : State} {m : MethodId} {args a : Array Value} {below : List Frame} {meth : Method} {c : Code} {mc ms : Nat} {H : Heap} {locs : List Loc} {cells slots : Nat} {ls0 : Array Slot} {st0 rest : List Value}
    (hC : Cf G mi d bc0 bs0 F0' ls p e Rm s m args below meth c mc ms H locs cells slots ls0) (h1 : bc0 = bc + mc') (h2 : bs0 = bs + ms')
    (hr : vx_Run p G.1 e Rm s m args below meth c H locs cells slots mc' ms' (F0 m pc ls0 st0) rest (QC G R' a) (QX G R') (gA G))
    (kx : ∀ E F', R' (.inr E) F' → ∃ pre t, HX mi pc E pre t ∧ ∀ q, AF G mi d bc bs R F' t.2.2.1 ls [.ref q])
    (k : ∀ v F', R' (.inl v) F' → AF G mi d bc bs R F' (pc + 3) ls (v.toList ++ rest)) : W p G.1 e Rm s m args below meth c H locs cells slots (vx_MQ below (QC G R) (QX G R) args s mc ms (gA G)) (F0 m pc ls0 st0) := by
  intro T hT X
  have hC' := hC.pay h1 h2
  rcases hr T hT X with ⟨v, st₀, t, T', L, h0, X', hL, e1, e2, ⟨v', F', q1, q2, q3, q4⟩, st⟩ | ⟨q, st₀, t, T', L, E, ce, h0, X', hL, e1, e2, ⟨F', q2, q3, q4⟩, hce, hcv, hcl, st⟩
  · cases q1
    rw [h0] at q4
    rw [← e1] at q3 q4
    obtain ⟨t2, a1, b1⟩ := k v F' q2 _ _ _ _ _ _ _ _ _ _ _ _ _ _ _ _ (hC'.heap (locs' := locs ++ L) q3 q4 (fun z hz => (List.mem_append.mp hz).elim (hC.2.2.2.1 z) (hL z))) T' rfl X'
    exact ⟨t2, st t2 a1, b1⟩
  · rw [h0] at q4
    rw [← e1] at q3 q4 hce
    have hC2 := hC'.heap (locs' := locs ++ L) q3 q4 (fun z hz => (List.mem_append.mp hz).elim (hC.2.2.2.1 z) (hL z))
    obtain ⟨pre, tt, ⟨⟨suf, hsp⟩, hpre, hcov, hnz, nm, hlk, hcast⟩, kk⟩ := kx E F' q2
    have hG := hC.2.1.1
    have hW := hC.2.1.2.1
    have kk2 : vx_W p G.1 e Rm s m args below meth c T'.heap (locs ++ L) (cells + mc') (slots + ms') (vx_MQ below (QC G R) (QX G R) args s mc ms (gA G)) (F0 m pc ls0 rest) q := by
      refine vx_catch (E := E) (ce := ce) (own := mi.1.cls) (name := nm) hC.1.2.2.2.2.2.2.1 (tableOf pre) ⟨tt.1, tt.2.1, tt.2.2.1, tt.2.2.2⟩ (tableOf suf) (by rw [hC.1.2.2.2.2.2.2.2, hsp]; simp [tableOf]) ?_ hcov hnz (gw hG hW hlk rfl) (gwT hG hW hcast rfl rfl) hce hcv hcl (kk q _ _ _ _ _ _ _ _ _ _ _ _ _ _ _ _ hC2)
      intro z hz
      obtain ⟨z9, hz9, rfl⟩ := List.mem_map.mp hz
      obtain ⟨g1, nm9, g2, g3⟩ := hpre z9 hz9
      exact Or.inr ⟨g1, nm9, gw hG hW g2 rfl, va_Nc.moved hW.alike (hG.2.2.2.2.2.2.2 _ g3)⟩
    obtain ⟨t2, a1, b1⟩ := kk2 T' rfl X'
    exact ⟨t2, st.trans a1, b1⟩
theorem AF.callVH {mi' : MI} {idx n ci d' mc' ms' b : Nat} {As rest : List Value} {fs : List Value} {R' : AR → AH → Prop} (hd : decode mi.2.1 pc = .ok (.invokevirtual idx, 3)) (hk : KV mi.1.cls idx mi' n) (hM : AC G mi' d' mc' ms' (.ref b :: As) F R') (hF : F.2 b = some (.inr (ci, fs))) (hci : (cls[ci]?).map (fun q => q.1) = some mi'.1.cls) (hn : As.length = n) (hst : st = As.reverse ++ .ref b :: rest) (hw : (rest.map fun v => v.category).sum ≤ 8) (hdd : d' + 1 ≤ d)
    (kx : ∀ E F', R' (.inr E) F' → ∃ pre t, HX mi pc E pre t ∧ ∀ q, AF G mi d bc bs R F' t.2.2.1 ls [.ref q]) (k : ∀ v F', R' (.inl v) F' → AF G mi d bc bs R F' (pc + 3) ls (v.toList ++ rest)) : AF G mi d (bc + mc') (bs + ms') R F pc ls st := by
  intro p e Rm s m args below meth c mc ms H locs cells slots ls0 hC
  obtain ⟨hh, ⟨w1, w2, w3, w4, w5⟩, hy, hpl, h40⟩ := hk
  have hG := hC.2.1.1
  have hW := hC.2.1.2.1
  obtain ⟨a1, a2, a3, a4⟩ := hC.rm hdd h40
  obtain ⟨b1, b2⟩ := acw_code mi' hh hG hW w5
  obtain ⟨r, h1, cell, q1, q2, q3, q4⟩ := hC.2.2.1.2.2.2 b _ hF
  have hr : r.1 = mi'.1.cls := by rw [h1] at hci; exact Option.some.inj hci
  obtain ⟨-, hfc, -⟩ := (gK hG hW).1 ci _ h1
  exact AF.behindH hC rfl rfl (vx_runV (C := mi'.1.cls) (Ts := []) (y := mi'.1) (bytes := mi'.2.1) (maxL := mi'.2.2.1) (ret := mi'.2.2.2.1) (n := n) (As := As) (rest := rest) hC.fix hM ⟨⟨rfl, rfl, a1, a2, b1, b2, gw hG hW w5 rfl, gw hG hW w4 rfl, hy, plen hpl, gw hG hW w1 rfl⟩, gw hG hW w2 rfl, gw hG hW w3 rfl⟩ ⟨acp_blind, ⟨cell, q1, by rw [q3]; rfl, by rw [q2, ← hr]; exact hfc⟩, acp_run hC⟩ rfl hn hC.2.2.2.2.1.1 hst (by simpa using hw) hd ⟨a3, a4⟩) kx k
/-- a method with handlers, over a picture -/
theorem AC.ofH {mc ms : Nat} {args : List Value} (ls : List (Option Value)) {x : Nat × Nat × Nat × Nat} {xs : List (Nat × Nat × Nat × Nat)} (hh : mi.2.2.2.2 = x :: xs) (hy : plainName mi.1.cls = true) (hfit : (lg_sl args).length ≤ mi.2.2.1) (hls : lx ls = lv_args 0 args) (k : AF G mi d mc ms R F 0 ls []) : AC G mi d mc ms args F R := by
  have hw : acw mi = Cond.codeWith mi.1 mi.2.1 mi.2.2.1 mi.2.2.2.1 mi.2.2.2.2 :: [] := by unfold acw; rw [hh]
  refine vx_ofWH (cc := mi.2.1) (maxL := mi.2.2.1) (ret := mi.2.2.2.1) (hh := mi.2.2.2.2) (ws' := []) hy hw ?_
  intro p e s m a below meth c s₁ B hml hP
  obtain ⟨rfl, hG, hW, hWd⟩ := hP
  have hl := lv_entry args (n := mi.2.2.1) hfit
  rw [lg_entry_eq]
  have hnm := name_of_methodNamed B.named B.method
  have hts := atoms_spec (ws := acw mi) B.pre
  have htb : c.exceptionTable.toList = tableOf mi.2.2.2.2 := vx_table (x := mi.1) B (hts _ (by rw [hw]; exact List.mem_cons_self))
  refine k _ _ _ _ _ _ _ _ _ mc ms _ _ _ _ _ ⟨⟨B.exec, B.bytes, B.returns, hml, hnm.1, B.notSynchronized, findClass_of_methodNamed B.named, htb⟩, ⟨hG, hW, by rw [hWd.1]; exact hWd.2.1, hWd.2.2.1, Nat.le_refl _⟩, hWd, fun z hz => absurd hz List.not_mem_nil, by rw [hls]; exact hl, ?_⟩
  exact ⟨Nat.le_refl _, Nat.le_refl _, Nat.le_of_eq (Nat.zero_add _), Nat.le_of_eq (Nat.zero_add _), Nat.le_refl _, Nat.le_refl _⟩
def KSX (own : String) (idx : Nat) (mi : MI) (n : Nat) : Prop := (∃ x xs, mi.2.2.2.2 = x :: xs) ∧ (Cond.methodLink own idx mi.1 ∈ lw_tbl ∧ Cond.static mi.1 ∈ lw_tbl ∧ Cond.initialized mi.1.cls ∈ lw_tbl ∧ Cond.codeWith mi.1 mi.2.1 mi.2.2.1 mi.2.2.2.1 mi.2.2.2.2 ∈ lw_tbl) ∧ (mi.1.cls ≠ "java/lang/invoke/MethodHandle" ∧ mi.1.cls ≠ "java/lang/invoke/VarHandle") ∧ (parseMethodDescriptor mi.1.desc).map (fun d => d.parameters.length) = some n ∧ mi.2.2.1 ≤ 40
theorem AF.callSX {mi' : MI} {idx n d' mc' ms' : Nat} {As rest : List Value} {R' : AR → AH → Prop} (hd : decode mi.2.1 pc = .ok (.invokestatic idx, 3)) (hk : KSX mi.1.cls idx mi' n) (hM : AC G mi' d' mc' ms' As F R') (hn : As.length = n) (hst : st = As.reverse ++ rest) (hw : (rest.map fun v => v.category).sum ≤ 8) (hdd : d' + 1 ≤ d) (hx : mi.2.2.2.2 = [])
    (kx : ∀ E F', R' (.inr E) F' → R (.inr E) F') (k : ∀ v F', R' (.inl v) F' → AF G mi d bc bs R F' (pc + 3) ls (v.toList ++ rest)) : AF G mi d (bc + mc') (bs + ms') R F pc ls st := by
  intro p e Rm s m args below meth c mc ms H locs cells slots ls0 hC
  obtain ⟨⟨x, xs, hh⟩, ⟨w1, w2, w4, w5⟩, hy, hpl, h40⟩ := hk
  have hG := hC.2.1.1
  have hW := hC.2.1.2.1
  obtain ⟨a1, a2, a3, a4⟩ := hC.rm hdd h40
  have hac : acw mi' = Cond.codeWith mi'.1 mi'.2.1 mi'.2.2.1 mi'.2.2.2.1 mi'.2.2.2.2 :: [] := by unfold acw; rw [hh]
  have b1 : ∀ w ∈ acw mi', ∀ (a' : Array Value) (U : State), s.WarmedH U.vm → w.before a' U = true := by
    intro w hw a' U hU
    rw [hac, List.mem_singleton] at hw
    subst hw
    exact gw hG (State.WarmedH.trans hW hU) w5 rfl
  exact AF.behind hC rfl rfl (vx_runSX (hh := mi'.2.2.2.2) (Ts := []) (y := mi'.1) (bytes := mi'.2.1) (maxL := mi'.2.2.1) (ret := mi'.2.2.2.1) (n := n) (As := As) (rest := rest) hC.fix hM ⟨⟨rfl, rfl, a1, a2, b1, by rw [hac]; exact List.mem_cons_self⟩, gw hG hW w5 rfl, gw hG hW w4 rfl, hy, plen hpl, gw hG hW w1 rfl, gw hG hW w2 rfl⟩ ⟨acp_blind, acp_run hC⟩ rfl hn hC.2.2.2.2.1.1 hst (by simpa using hw) hd ⟨a3, a4⟩) hx kx k
end AFL
end
section
/-! Calls that only answer. -/
section AFY
variable {G : GA} {mi : MI} {d bc bs : Nat} {R : AR → AH → Prop} {F : AH} {pc : Nat} {ls : List (Option Value)} {st : List Value}
theorem AV.x {v : Option Value} {F0 : AH} {E : String} {F' : AH} : ¬ AV v F0 (.inr E) F' := fun h => nomatch h.1
theorem AF.v1 {mi' : MI} {idx n ci d' b : Nat} {As rest : List Value} {fs : List Value} {v : Value} (hd : decode mi.2.1 pc = .ok (.invokevirtual idx, 3)) (hk : KV mi.1.cls idx mi' n) (hM : AC G mi' d' 0 0 (.ref b :: As) F (AV (some v) F)) (hF : F.2 b = some (.inr (ci, fs))) (hci : (cls[ci]?).map (fun q => q.1) = some mi'.1.cls) (hn : As.length = n) (hst : st = As.reverse ++ .ref b :: rest) (hw : (rest.map fun v => v.category).sum ≤ 8) (hdd : d' + 1 ≤ d) (hx : mi.2.2.2.2 = [])
    (k : AF G mi d bc bs R F (pc + 3) ls (v :: rest)) : AF G mi d bc bs R F pc ls st :=
  AF.callV (mc' := 0) (ms' := 0) hd hk hM hF hci hn hst hw hdd hx (fun E F' h => absurd h AV.x) (fun v' F' h => by obtain ⟨h1, rfl⟩ := h; cases h1; exact k)
theorem AF.s1 {mi' : MI} {idx n d' : Nat} {As rest : List Value} {v : Value} (hd : decode mi.2.1 pc = .ok (.invokestatic idx, 3)) (hk : KS mi.1.cls idx mi' n) (hM : AC G mi' d' 0 0 As F (AV (some v) F)) (hn : As.length = n) (hst : st = As.reverse ++ rest) (hw : (rest.map fun v => v.category).sum ≤ 8) (hdd : d' + 1 ≤ d) (hx : mi.2.2.2.2 = [])
    (k : AF G mi d bc bs R F (pc + 3) ls (v :: rest)) : AF G mi d bc bs R F pc ls st :=
  AF.callS (mc' := 0) (ms' := 0) hd hk hM hn hst hw hdd hx (fun E F' h => absurd h AV.x) (fun v' F' h => by obtain ⟨h1, rfl⟩ := h; cases h1; exact k)
theorem AF.sn1 {mi' : MI} {host : String} {idx n d' : Nat} {As rest : List Value} {v : Value} (hd : decode mi.2.1 pc = .ok (.invokestatic idx, 3)) (hk : KSN mi.1.cls idx mi' n host) (hM : AC G mi' d' 0 0 As F (AV (some v) F)) (hn : As.length = n) (hst : st = As.reverse ++ rest) (hw : (rest.map fun v => v.category).sum ≤ 8) (hdd : d' + 1 ≤ d) (hx : mi.2.2.2.2 = [])
    (k : AF G mi d bc bs R F (pc + 3) ls (v :: rest)) : AF G mi d bc bs R F pc ls st :=
  AF.callSN (mc' := 0) (ms' := 0) hd hk hM hn hst hw hdd hx (fun E F' h => AV.x h) (fun v' F' h => by obtain ⟨h1, rfl⟩ := h; cases h1; exact k)
theorem AF.vn1 {mi' : MI} {host : String} {idx n ci d' b : Nat} {As rest : List Value} {fs : List Value} {v : Value} (hd : decode mi.2.1 pc = .ok (.invokevirtual idx, 3)) (hk : KVN mi.1.cls idx mi' n host) (hM : AC G mi' d' 0 0 (.ref b :: As) F (AV (some v) F)) (hF : F.2 b = some (.inr (ci, fs))) (hci : (cls[ci]?).map (fun q => q.1) = some mi'.1.cls) (hn : As.length = n) (hst : st = As.reverse ++ .ref b :: rest) (hw : (rest.map fun v => v.category).sum ≤ 8) (hdd : d' + 1 ≤ d) (hx : mi.2.2.2.2 = [])
    (k : AF G mi d bc bs R F (pc + 3) ls (v :: rest)) : AF G mi d bc bs R F pc ls st :=
  AF.callVN (mc' := 0) (ms' := 0) hd hk hM hF hci hn hst hw hdd hx (fun E F' h => AV.x h) (fun v' F' h => by obtain ⟨h1, rfl⟩ := h; cases h1; exact k)
end AFY
section AFY2
variable {G : GA} {mi : MI} {d bc bs : Nat} {R : AR → AH → Prop} {F : AH} {pc : Nat} {ls : List (Option Value)} {st : List Value}
theorem AF.lcmp {x y : Int64} (hd : decode mi.2.1 pc = .ok (.lcmp, 1)) (k : AF G mi d bc bs R F (pc + 1) ls (.int (lg_cmp x y) :: st)) : AF G mi d bc bs R F pc ls (.long y :: .long x :: st) := by
  intro p e Rm s m args below meth c mc ms H locs cells slots ls0 hC
  exact W.lcmp hC.1.1 hC.1.2.1 hd (k _ _ _ _ _ _ _ _ _ _ _ _ _ _ _ _ hC)
theorem lcmp_ge {x y : Int64} (h : 0 ≤ lg_cmp x y) : ¬ x < y := Int64.not_lt.mpr ((lg_cmp_ge _ _).mp h)
theorem lcmp_nge {x y : Int64} (h : ¬ 0 ≤ lg_cmp x y) : x < y := Int64.not_le.mp (fun q => h ((lg_cmp_ge _ _).mpr q))
theorem lcmp_eq {x y : Int64} (h : lg_cmp x y = 0) : x = y := (lg_cmp_eq _ _).mp h
theorem lcmp_self {x : Int64} : lg_cmp x x = 0 := (lg_cmp_eq _ _).mpr rfl
end AFY2
end
section
/-! What the tables say of each field access, call and throw, by their places. -/
theorem tb {w : Cond} (i : Nat) (h : tables_1[i]? = some w) : w ∈ lw_tbl := List.mem_append_right _ (List.mem_of_getElem? h)
theorem tp {w : Cond} (i : Nat) (h : (k2_sels lw_privs)[i]? = some w) : w ∈ lw_tbl := List.mem_append_left _ (List.mem_of_getElem? h)
theorem i_X2 : ∀ w ∈ u_ws RX2 TX2 5, w ∈ lw_tbl := by
  intro w hw
  have h : w ∈ [100, 102, 104, 106, 108].filterMap (fun i => tables_1[i]?) := by
    rw [show [100, 102, 104, 106, 108].filterMap (fun i => tables_1[i]?) = u_ws RX2 TX2 5 from by decide +kernel]
    exact hw
  obtain ⟨i, -, hi⟩ := List.mem_filterMap.mp h
  exact tb i hi
theorem fq_0_4 : ∀ T : u_T, (∃ (C : String) (N : Nat), cls[0]? = some (C, T, N)) → (T 4).2.2.2 = false := fun T h => by obtain ⟨C, N, h⟩ := h; cases h; rfl
theorem i_X3 : ∀ w ∈ u_ws RX3 TX3 5, w ∈ lw_tbl := by
  intro w hw
  have h : w ∈ [68, 70, 72, 74, 76].filterMap (fun i => tables_1[i]?) := by
    rw [show [68, 70, 72, 74, 76].filterMap (fun i => tables_1[i]?) = u_ws RX3 TX3 5 from by decide +kernel]
    exact hw
  obtain ⟨i, -, hi⟩ := List.mem_filterMap.mp h
  exact tb i hi
theorem fq_1_2 : ∀ T : u_T, (∃ (C : String) (N : Nat), cls[1]? = some (C, T, N)) → (T 2).2.2.2 = false := fun T h => by obtain ⟨C, N, h⟩ := h; cases h; rfl
theorem fq_1_3 : ∀ T : u_T, (∃ (C : String) (N : Nat), cls[1]? = some (C, T, N)) → (T 3).2.2.2 = false := fun T h => by obtain ⟨C, N, h⟩ := h; cases h; rfl
theorem fq_1_4 : ∀ T : u_T, (∃ (C : String) (N : Nat), cls[1]? = some (C, T, N)) → (T 4).2.2.2 = false := fun T h => by obtain ⟨C, N, h⟩ := h; cases h; rfl
theorem i_X4 : ∀ w ∈ u_ws RX4 TX4 2, w ∈ lw_tbl := by
  intro w hw
  have h : w ∈ [153, 155].filterMap (fun i => tables_1[i]?) := by
    rw [show [153, 155].filterMap (fun i => tables_1[i]?) = u_ws RX4 TX4 2 from by decide +kernel]
    exact hw
  obtain ⟨i, -, hi⟩ := List.mem_filterMap.mp h
  exact tb i hi
theorem i_X6 : ∀ w ∈ u_ws RX6 TX6 7, w ∈ lw_tbl := by
  intro w hw
  have h : w ∈ [178, 180, 182, 184, 186, 188, 190].filterMap (fun i => tables_1[i]?) := by
    rw [show [178, 180, 182, 184, 186, 188, 190].filterMap (fun i => tables_1[i]?) = u_ws RX6 TX6 7 from by decide +kernel]
    exact hw
  obtain ⟨i, -, hi⟩ := List.mem_filterMap.mp h
  exact tb i hi
theorem fq_3_1 : ∀ T : u_T, (∃ (C : String) (N : Nat), cls[3]? = some (C, T, N)) → (T 1).2.2.2 = false := fun T h => by obtain ⟨C, N, h⟩ := h; cases h; rfl
theorem fq_3_2 : ∀ T : u_T, (∃ (C : String) (N : Nat), cls[3]? = some (C, T, N)) → (T 2).2.2.2 = false := fun T h => by obtain ⟨C, N, h⟩ := h; cases h; rfl
theorem fq_3_3 : ∀ T : u_T, (∃ (C : String) (N : Nat), cls[3]? = some (C, T, N)) → (T 3).2.2.2 = false := fun T h => by obtain ⟨C, N, h⟩ := h; cases h; rfl
theorem fq_3_4 : ∀ T : u_T, (∃ (C : String) (N : Nat), cls[3]? = some (C, T, N)) → (T 4).2.2.2 = false := fun T h => by obtain ⟨C, N, h⟩ := h; cases h; rfl
theorem fq_3_6 : ∀ T : u_T, (∃ (C : String) (N : Nat), cls[3]? = some (C, T, N)) → (T 6).2.2.2 = false := fun T h => by obtain ⟨C, N, h⟩ := h; cases h; rfl
theorem i_X7 : ∀ w ∈ u_ws RX7 TX7 8, w ∈ lw_tbl := by
  intro w hw
  have h : w ∈ [127, 129, 131, 133, 135, 137, 139, 141].filterMap (fun i => tables_1[i]?) := by
    rw [show [127, 129, 131, 133, 135, 137, 139, 141].filterMap (fun i => tables_1[i]?) = u_ws RX7 TX7 8 from by decide +kernel]
    exact hw
  obtain ⟨i, -, hi⟩ := List.mem_filterMap.mp h
  exact tb i hi
theorem fq_4_4 : ∀ T : u_T, (∃ (C : String) (N : Nat), cls[4]? = some (C, T, N)) → (T 4).2.2.2 = false := fun T h => by obtain ⟨C, N, h⟩ := h; cases h; rfl
theorem fq_4_5 : ∀ T : u_T, (∃ (C : String) (N : Nat), cls[4]? = some (C, T, N)) → (T 5).2.2.2 = false := fun T h => by obtain ⟨C, N, h⟩ := h; cases h; rfl
theorem fq_4_6 : ∀ T : u_T, (∃ (C : String) (N : Nat), cls[4]? = some (C, T, N)) → (T 6).2.2.2 = false := fun T h => by obtain ⟨C, N, h⟩ := h; cases h; rfl
theorem fq_4_7 : ∀ T : u_T, (∃ (C : String) (N : Nat), cls[4]? = some (C, T, N)) → (T 7).2.2.2 = false := fun T h => by obtain ⟨C, N, h⟩ := h; cases h; rfl
theorem i_X8 : ∀ w ∈ u_ws RX8 TX8 12, w ∈ lw_tbl := by
  intro w hw
  have h : w ∈ [239, 241, 243, 245, 247, 249, 251, 253, 255, 257, 259, 261].filterMap (fun i => tables_1[i]?) := by
    rw [show [239, 241, 243, 245, 247, 249, 251, 253, 255, 257, 259, 261].filterMap (fun i => tables_1[i]?) = u_ws RX8 TX8 12 from by decide +kernel]
    exact hw
  obtain ⟨i, -, hi⟩ := List.mem_filterMap.mp h
  exact tb i hi
theorem fq_5_3 : ∀ T : u_T, (∃ (C : String) (N : Nat), cls[5]? = some (C, T, N)) → (T 3).2.2.2 = false := fun T h => by obtain ⟨C, N, h⟩ := h; cases h; rfl
theorem fq_5_5 : ∀ T : u_T, (∃ (C : String) (N : Nat), cls[5]? = some (C, T, N)) → (T 5).2.2.2 = false := fun T h => by obtain ⟨C, N, h⟩ := h; cases h; rfl
theorem fq_5_6 : ∀ T : u_T, (∃ (C : String) (N : Nat), cls[5]? = some (C, T, N)) → (T 6).2.2.2 = false := fun T h => by obtain ⟨C, N, h⟩ := h; cases h; rfl
theorem fq_5_10 : ∀ T : u_T, (∃ (C : String) (N : Nat), cls[5]? = some (C, T, N)) → (T 10).2.2.2 = false := fun T h => by obtain ⟨C, N, h⟩ := h; cases h; rfl
theorem fq_5_11 : ∀ T : u_T, (∃ (C : String) (N : Nat), cls[5]? = some (C, T, N)) → (T 11).2.2.2 = false := fun T h => by obtain ⟨C, N, h⟩ := h; cases h; rfl
theorem i_X9 : ∀ w ∈ u_ws RX9 TX9 20, w ∈ lw_tbl := by
  intro w hw
  have h : w ∈ [1565, 1567, 1569, 1571, 1573, 1575, 1577, 1579, 1581, 1583, 1585, 1587, 1589, 1591, 1593, 1595, 1597, 1599, 1601, 1603].filterMap (fun i => tables_1[i]?) := by
    rw [show [1565, 1567, 1569, 1571, 1573, 1575, 1577, 1579, 1581, 1583, 1585, 1587, 1589, 1591, 1593, 1595, 1597, 1599, 1601, 1603].filterMap (fun i => tables_1[i]?) = u_ws RX9 TX9 20 from by decide +kernel]
    exact hw
  obtain ⟨i, -, hi⟩ := List.mem_filterMap.mp h
  exact tb i hi
theorem fq_6_0 : ∀ T : u_T, (∃ (C : String) (N : Nat), cls[6]? = some (C, T, N)) → (T 0).2.2.2 = false := fun T h => by obtain ⟨C, N, h⟩ := h; cases h; rfl
theorem fq_6_6 : ∀ T : u_T, (∃ (C : String) (N : Nat), cls[6]? = some (C, T, N)) → (T 6).2.2.2 = false := fun T h => by obtain ⟨C, N, h⟩ := h; cases h; rfl
theorem fq_6_7 : ∀ T : u_T, (∃ (C : String) (N : Nat), cls[6]? = some (C, T, N)) → (T 7).2.2.2 = false := fun T h => by obtain ⟨C, N, h⟩ := h; cases h; rfl
theorem fq_6_11 : ∀ T : u_T, (∃ (C : String) (N : Nat), cls[6]? = some (C, T, N)) → (T 11).2.2.2 = false := fun T h => by obtain ⟨C, N, h⟩ := h; cases h; rfl
theorem fq_6_12 : ∀ T : u_T, (∃ (C : String) (N : Nat), cls[6]? = some (C, T, N)) → (T 12).2.2.2 = false := fun T h => by obtain ⟨C, N, h⟩ := h; cases h; rfl
theorem fq_6_13 : ∀ T : u_T, (∃ (C : String) (N : Nat), cls[6]? = some (C, T, N)) → (T 13).2.2.2 = false := fun T h => by obtain ⟨C, N, h⟩ := h; cases h; rfl
theorem fq_6_14 : ∀ T : u_T, (∃ (C : String) (N : Nat), cls[6]? = some (C, T, N)) → (T 14).2.2.2 = false := fun T h => by obtain ⟨C, N, h⟩ := h; cases h; rfl
theorem fq_6_15 : ∀ T : u_T, (∃ (C : String) (N : Nat), cls[6]? = some (C, T, N)) → (T 15).2.2.2 = false := fun T h => by obtain ⟨C, N, h⟩ := h; cases h; rfl
theorem fq_6_16 : ∀ T : u_T, (∃ (C : String) (N : Nat), cls[6]? = some (C, T, N)) → (T 16).2.2.2 = false := fun T h => by obtain ⟨C, N, h⟩ := h; cases h; rfl
theorem fq_6_17 : ∀ T : u_T, (∃ (C : String) (N : Nat), cls[6]? = some (C, T, N)) → (T 17).2.2.2 = false := fun T h => by obtain ⟨C, N, h⟩ := h; cases h; rfl
theorem fq_6_18 : ∀ T : u_T, (∃ (C : String) (N : Nat), cls[6]? = some (C, T, N)) → (T 18).2.2.2 = false := fun T h => by obtain ⟨C, N, h⟩ := h; cases h; rfl
theorem fq_6_19 : ∀ T : u_T, (∃ (C : String) (N : Nat), cls[6]? = some (C, T, N)) → (T 19).2.2.2 = false := fun T h => by obtain ⟨C, N, h⟩ := h; cases h; rfl
theorem fl_X8_10 : FL RX8 10 5 0 := ⟨RX8, TX8, 12, rfl, by decide, i_X8, Or.inl (tb 227 (by decide +kernel))⟩
theorem fp_X8_10 : FP RX8 10 5 0 (.object "FountainShow$Stage") := ⟨RX8, TX8, 12, tyX8, rfl, by decide, i_X8, tyX8_ok, nmX8, by decide +kernel, Or.inr ⟨rfl, rfl, (tb 227 (by decide +kernel))⟩⟩
theorem fl_X8_16 : FL RX8 16 5 1 := ⟨RX8, TX8, 12, rfl, by decide, i_X8, Or.inl (tb 228 (by decide +kernel))⟩
theorem fp_X8_16 : FP RX8 16 5 1 (.object "FountainShow$Stage") := ⟨RX8, TX8, 12, tyX8, rfl, by decide, i_X8, tyX8_ok, nmX8, by decide +kernel, Or.inr ⟨rfl, rfl, (tb 228 (by decide +kernel))⟩⟩
theorem fl_X8_19 : FL RX8 19 5 2 := ⟨RX8, TX8, 12, rfl, by decide, i_X8, Or.inl (tb 229 (by decide +kernel))⟩
theorem fp_X8_19 : FP RX8 19 5 2 (.object "FountainShow$Stage") := ⟨RX8, TX8, 12, tyX8, rfl, by decide, i_X8, tyX8_ok, nmX8, by decide +kernel, Or.inr ⟨rfl, rfl, (tb 229 (by decide +kernel))⟩⟩
theorem fl_X8_22 : FL RX8 22 5 3 := ⟨RX8, TX8, 12, rfl, by decide, i_X8, Or.inl (tb 230 (by decide +kernel))⟩
theorem fp_X8_22 : FP RX8 22 5 3 .boolean := ⟨RX8, TX8, 12, tyX8, rfl, by decide, i_X8, tyX8_ok, nmX8, by decide +kernel, Or.inl ⟨rfl, Or.inl (tb 230 (by decide +kernel))⟩⟩
theorem fl_X8_26 : FL RX8 26 5 4 := ⟨RX8, TX8, 12, rfl, by decide, i_X8, Or.inl (tb 231 (by decide +kernel))⟩
theorem fp_X8_26 : FP RX8 26 5 4 (.array (.object "FountainShow$Stage")) := ⟨RX8, TX8, 12, tyX8, rfl, by decide, i_X8, tyX8_ok, nmX8, by decide +kernel, Or.inr ⟨rfl, rfl, (tb 231 (by decide +kernel))⟩⟩
theorem fl_X8_30 : FL RX8 30 5 5 := ⟨RX8, TX8, 12, rfl, by decide, i_X8, Or.inl (tb 232 (by decide +kernel))⟩
theorem fp_X8_30 : FP RX8 30 5 5 .int := ⟨RX8, TX8, 12, tyX8, rfl, by decide, i_X8, tyX8_ok, nmX8, by decide +kernel, Or.inl ⟨rfl, Or.inl (tb 232 (by decide +kernel))⟩⟩
theorem fl_X8_34 : FL RX8 34 5 6 := ⟨RX8, TX8, 12, rfl, by decide, i_X8, Or.inl (tb 233 (by decide +kernel))⟩
theorem fp_X8_34 : FP RX8 34 5 6 .int := ⟨RX8, TX8, 12, tyX8, rfl, by decide, i_X8, tyX8_ok, nmX8, by decide +kernel, Or.inl ⟨rfl, Or.inl (tb 233 (by decide +kernel))⟩⟩
theorem fl_X8_40 : FL RX8 40 5 7 := ⟨RX8, TX8, 12, rfl, by decide, i_X8, Or.inl (tb 234 (by decide +kernel))⟩
theorem fp_X8_40 : FP RX8 40 5 7 (.object "FountainShow$LandingSorter") := ⟨RX8, TX8, 12, tyX8, rfl, by decide, i_X8, tyX8_ok, nmX8, by decide +kernel, Or.inr ⟨rfl, rfl, (tb 234 (by decide +kernel))⟩⟩
theorem fl_X8_47 : FL RX8 47 5 8 := ⟨RX8, TX8, 12, rfl, by decide, i_X8, Or.inl (tb 235 (by decide +kernel))⟩
theorem fp_X8_47 : FP RX8 47 5 8 (.object "FountainShow$Script") := ⟨RX8, TX8, 12, tyX8, rfl, by decide, i_X8, tyX8_ok, nmX8, by decide +kernel, Or.inr ⟨rfl, rfl, (tb 235 (by decide +kernel))⟩⟩
theorem fl_X8_54 : FL RX8 54 5 9 := ⟨RX8, TX8, 12, rfl, by decide, i_X8, Or.inl (tb 236 (by decide +kernel))⟩
theorem fp_X8_54 : FP RX8 54 5 9 (.object "java/lang/StringBuilder") := ⟨RX8, TX8, 12, tyX8, rfl, by decide, i_X8, tyX8_ok, nmX8, by decide +kernel, Or.inr ⟨rfl, rfl, (tb 236 (by decide +kernel))⟩⟩
theorem fl_X8_58 : FL RX8 58 5 10 := ⟨RX8, TX8, 12, rfl, by decide, i_X8, Or.inl (tb 237 (by decide +kernel))⟩
theorem fp_X8_58 : FP RX8 58 5 10 .int := ⟨RX8, TX8, 12, tyX8, rfl, by decide, i_X8, tyX8_ok, nmX8, by decide +kernel, Or.inl ⟨rfl, Or.inl (tb 237 (by decide +kernel))⟩⟩
theorem fl_X8_61 : FL RX8 61 5 11 := ⟨RX8, TX8, 12, rfl, by decide, i_X8, Or.inl (tb 238 (by decide +kernel))⟩
theorem fp_X8_61 : FP RX8 61 5 11 .int := ⟨RX8, TX8, 12, tyX8, rfl, by decide, i_X8, tyX8_ok, nmX8, by decide +kernel, Or.inl ⟨rfl, Or.inl (tb 238 (by decide +kernel))⟩⟩
theorem fl_X8_64 : FL RX8 64 4 0 := ⟨RX7, TX7, 8, rfl, by decide, i_X7, Or.inr ⟨"FountainShow", tb 112 (by decide +kernel)⟩⟩
theorem fl_X8_100 : FL RX8 100 1 2 := ⟨RX3, TX3, 5, rfl, by decide, i_X3, Or.inr ⟨"FountainShow", tb 62 (by decide +kernel)⟩⟩
theorem fp_X8_100 : FP RX8 100 1 2 .int := ⟨RX3, TX3, 5, tyX3, rfl, by decide, i_X3, tyX3_ok, nmX3, by decide +kernel, Or.inl ⟨rfl, Or.inr ⟨"FountainShow", tb 62 (by decide +kernel)⟩⟩⟩
theorem fl_X8_103 : FL RX8 103 1 0 := ⟨RX3, TX3, 5, rfl, by decide, i_X3, Or.inr ⟨"FountainShow", tb 56 (by decide +kernel)⟩⟩
theorem fl_X8_107 : FL RX8 107 1 1 := ⟨RX3, TX3, 5, rfl, by decide, i_X3, Or.inr ⟨"FountainShow", tb 58 (by decide +kernel)⟩⟩
theorem fl_X8_171 : FL RX8 171 1 3 := ⟨RX3, TX3, 5, rfl, by decide, i_X3, Or.inr ⟨"FountainShow", tb 65 (by decide +kernel)⟩⟩
theorem fp_X8_171 : FP RX8 171 1 3 .int := ⟨RX3, TX3, 5, tyX3, rfl, by decide, i_X3, tyX3_ok, nmX3, by decide +kernel, Or.inl ⟨rfl, Or.inr ⟨"FountainShow", tb 65 (by decide +kernel)⟩⟩⟩
theorem fl_X8_174 : FL RX8 174 1 4 := ⟨RX3, TX3, 5, rfl, by decide, i_X3, Or.inr ⟨"FountainShow", tb 67 (by decide +kernel)⟩⟩
theorem fp_X8_174 : FP RX8 174 1 4 .int := ⟨RX3, TX3, 5, tyX3, rfl, by decide, i_X3, tyX3_ok, nmX3, by decide +kernel, Or.inl ⟨rfl, Or.inr ⟨"FountainShow", tb 67 (by decide +kernel)⟩⟩⟩
theorem fl_X8_180 : FL RX8 180 4 6 := ⟨RX7, TX7, 8, rfl, by decide, i_X7, Or.inr ⟨"FountainShow", tb 124 (by decide +kernel)⟩⟩
theorem fp_X8_180 : FP RX8 180 4 6 .long := ⟨RX7, TX7, 8, tyX7, rfl, by decide, i_X7, tyX7_ok, nmX7, by decide +kernel, Or.inl ⟨rfl, Or.inr ⟨"FountainShow", tb 124 (by decide +kernel)⟩⟩⟩
theorem fl_X8_184 : FL RX8 184 4 7 := ⟨RX7, TX7, 8, rfl, by decide, i_X7, Or.inr ⟨"FountainShow", tb 126 (by decide +kernel)⟩⟩
theorem fp_X8_184 : FP RX8 184 4 7 .long := ⟨RX7, TX7, 8, tyX7, rfl, by decide, i_X7, tyX7_ok, nmX7, by decide +kernel, Or.inl ⟨rfl, Or.inr ⟨"FountainShow", tb 126 (by decide +kernel)⟩⟩⟩
theorem fl_X8_187 : FL RX8 187 4 1 := ⟨RX7, TX7, 8, rfl, by decide, i_X7, Or.inr ⟨"FountainShow", tb 114 (by decide +kernel)⟩⟩
theorem fl_X8_219 : FL RX8 219 0 4 := ⟨RX2, TX2, 5, rfl, by decide, i_X2, Or.inr ⟨"FountainShow", tb 99 (by decide +kernel)⟩⟩
theorem fp_X8_219 : FP RX8 219 0 4 .int := ⟨RX2, TX2, 5, tyX2, rfl, by decide, i_X2, tyX2_ok, nmX2, by decide +kernel, Or.inl ⟨rfl, Or.inr ⟨"FountainShow", tb 99 (by decide +kernel)⟩⟩⟩
theorem fl_X8_223 : FL RX8 223 0 0 := ⟨RX2, TX2, 5, rfl, by decide, i_X2, Or.inr ⟨"FountainShow", tb 88 (by decide +kernel)⟩⟩
theorem fl_X8_226 : FL RX8 226 0 1 := ⟨RX2, TX2, 5, rfl, by decide, i_X2, Or.inr ⟨"FountainShow", tb 91 (by decide +kernel)⟩⟩
theorem fl_X8_232 : FL RX8 232 0 2 := ⟨RX2, TX2, 5, rfl, by decide, i_X2, Or.inr ⟨"FountainShow", tb 94 (by decide +kernel)⟩⟩
theorem fl_X8_234 : FL RX8 234 0 3 := ⟨RX2, TX2, 5, rfl, by decide, i_X2, Or.inr ⟨"FountainShow", tb 97 (by decide +kernel)⟩⟩
theorem fl_X8_259 : FL RX8 259 4 5 := ⟨RX7, TX7, 8, rfl, by decide, i_X7, Or.inr ⟨"FountainShow", tb 122 (by decide +kernel)⟩⟩
theorem fp_X8_259 : FP RX8 259 4 5 .int := ⟨RX7, TX7, 8, tyX7, rfl, by decide, i_X7, tyX7_ok, nmX7, by decide +kernel, Or.inl ⟨rfl, Or.inr ⟨"FountainShow", tb 122 (by decide +kernel)⟩⟩⟩
theorem fl_X8_262 : FL RX8 262 4 4 := ⟨RX7, TX7, 8, rfl, by decide, i_X7, Or.inr ⟨"FountainShow", tb 120 (by decide +kernel)⟩⟩
theorem fp_X8_262 : FP RX8 262 4 4 .int := ⟨RX7, TX7, 8, tyX7, rfl, by decide, i_X7, tyX7_ok, nmX7, by decide +kernel, Or.inl ⟨rfl, Or.inr ⟨"FountainShow", tb 120 (by decide +kernel)⟩⟩⟩
theorem fl_X8_265 : FL RX8 265 4 2 := ⟨RX7, TX7, 8, rfl, by decide, i_X7, Or.inr ⟨"FountainShow", tb 116 (by decide +kernel)⟩⟩
theorem fl_X8_268 : FL RX8 268 4 3 := ⟨RX7, TX7, 8, rfl, by decide, i_X7, Or.inr ⟨"FountainShow", tb 118 (by decide +kernel)⟩⟩
theorem fl_X8_329 : FL RX8 329 3 1 := ⟨RX6, TX6, 7, rfl, by decide, i_X6, Or.inr ⟨"FountainShow", tb 168 (by decide +kernel)⟩⟩
theorem fp_X8_329 : FP RX8 329 3 1 .int := ⟨RX6, TX6, 7, tyX6, rfl, by decide, i_X6, tyX6_ok, nmX6, by decide +kernel, Or.inl ⟨rfl, Or.inr ⟨"FountainShow", tb 168 (by decide +kernel)⟩⟩⟩
theorem fl_X8_339 : FL RX8 339 3 3 := ⟨RX6, TX6, 7, rfl, by decide, i_X6, Or.inr ⟨"FountainShow", tb 172 (by decide +kernel)⟩⟩
theorem fp_X8_339 : FP RX8 339 3 3 .int := ⟨RX6, TX6, 7, tyX6, rfl, by decide, i_X6, tyX6_ok, nmX6, by decide +kernel, Or.inl ⟨rfl, Or.inr ⟨"FountainShow", tb 172 (by decide +kernel)⟩⟩⟩
theorem fl_X8_399 : FL RX8 399 3 2 := ⟨RX6, TX6, 7, rfl, by decide, i_X6, Or.inr ⟨"FountainShow", tb 170 (by decide +kernel)⟩⟩
theorem fp_X8_399 : FP RX8 399 3 2 .int := ⟨RX6, TX6, 7, tyX6, rfl, by decide, i_X6, tyX6_ok, nmX6, by decide +kernel, Or.inl ⟨rfl, Or.inr ⟨"FountainShow", tb 170 (by decide +kernel)⟩⟩⟩
theorem fl_X8_405 : FL RX8 405 3 4 := ⟨RX6, TX6, 7, rfl, by decide, i_X6, Or.inr ⟨"FountainShow", tb 174 (by decide +kernel)⟩⟩
theorem fp_X8_405 : FP RX8 405 3 4 (.object "FountainShow$Command") := ⟨RX6, TX6, 7, tyX6, rfl, by decide, i_X6, tyX6_ok, nmX6, by decide +kernel, Or.inl ⟨rfl, Or.inr ⟨"FountainShow", tb 174 (by decide +kernel)⟩⟩⟩
theorem fl_X8_409 : FL RX8 409 3 5 := ⟨RX6, TX6, 7, rfl, by decide, i_X6, Or.inr ⟨"FountainShow", tb 176 (by decide +kernel)⟩⟩
theorem fl_X2_9 : FL RX2 9 0 0 := ⟨RX2, TX2, 5, rfl, by decide, i_X2, Or.inl (tb 86 (by decide +kernel))⟩
theorem fp_X2_9 : FP RX2 9 0 0 (.array .int) := ⟨RX2, TX2, 5, tyX2, rfl, by decide, i_X2, tyX2_ok, nmX2, by decide +kernel, Or.inr ⟨rfl, rfl, (tb 86 (by decide +kernel))⟩⟩
theorem fl_X2_15 : FL RX2 15 0 1 := ⟨RX2, TX2, 5, rfl, by decide, i_X2, Or.inl (tb 89 (by decide +kernel))⟩
theorem fp_X2_15 : FP RX2 15 0 1 (.array .int) := ⟨RX2, TX2, 5, tyX2, rfl, by decide, i_X2, tyX2_ok, nmX2, by decide +kernel, Or.inr ⟨rfl, rfl, (tb 89 (by decide +kernel))⟩⟩
theorem fl_X2_18 : FL RX2 18 0 2 := ⟨RX2, TX2, 5, rfl, by decide, i_X2, Or.inl (tb 92 (by decide +kernel))⟩
theorem fp_X2_18 : FP RX2 18 0 2 (.array .int) := ⟨RX2, TX2, 5, tyX2, rfl, by decide, i_X2, tyX2_ok, nmX2, by decide +kernel, Or.inr ⟨rfl, rfl, (tb 92 (by decide +kernel))⟩⟩
theorem fl_X2_21 : FL RX2 21 0 3 := ⟨RX2, TX2, 5, rfl, by decide, i_X2, Or.inl (tb 95 (by decide +kernel))⟩
theorem fp_X2_21 : FP RX2 21 0 3 (.array .int) := ⟨RX2, TX2, 5, tyX2, rfl, by decide, i_X2, tyX2_ok, nmX2, by decide +kernel, Or.inr ⟨rfl, rfl, (tb 95 (by decide +kernel))⟩⟩
theorem fl_X2_24 : FL RX2 24 0 4 := ⟨RX2, TX2, 5, rfl, by decide, i_X2, Or.inl (tb 98 (by decide +kernel))⟩
theorem fp_X2_24 : FP RX2 24 0 4 .int := ⟨RX2, TX2, 5, tyX2, rfl, by decide, i_X2, tyX2_ok, nmX2, by decide +kernel, Or.inl ⟨rfl, Or.inl (tb 98 (by decide +kernel))⟩⟩
theorem fl_X3_9 : FL RX3 9 1 0 := ⟨RX3, TX3, 5, rfl, by decide, i_X3, Or.inl (tb 55 (by decide +kernel))⟩
theorem fp_X3_9 : FP RX3 9 1 0 (.array .int) := ⟨RX3, TX3, 5, tyX3, rfl, by decide, i_X3, tyX3_ok, nmX3, by decide +kernel, Or.inr ⟨rfl, rfl, (tb 55 (by decide +kernel))⟩⟩
theorem fl_X3_15 : FL RX3 15 1 1 := ⟨RX3, TX3, 5, rfl, by decide, i_X3, Or.inl (tb 57 (by decide +kernel))⟩
theorem fp_X3_15 : FP RX3 15 1 1 (.array .int) := ⟨RX3, TX3, 5, tyX3, rfl, by decide, i_X3, tyX3_ok, nmX3, by decide +kernel, Or.inr ⟨rfl, rfl, (tb 57 (by decide +kernel))⟩⟩
theorem fl_X3_18 : FL RX3 18 1 2 := ⟨RX3, TX3, 5, rfl, by decide, i_X3, Or.inl (tb 60 (by decide +kernel))⟩
theorem fp_X3_18 : FP RX3 18 1 2 .int := ⟨RX3, TX3, 5, tyX3, rfl, by decide, i_X3, tyX3_ok, nmX3, by decide +kernel, Or.inl ⟨rfl, Or.inl (tb 60 (by decide +kernel))⟩⟩
theorem fl_X3_22 : FL RX3 22 1 3 := ⟨RX3, TX3, 5, rfl, by decide, i_X3, Or.inl (tb 64 (by decide +kernel))⟩
theorem fp_X3_22 : FP RX3 22 1 3 .int := ⟨RX3, TX3, 5, tyX3, rfl, by decide, i_X3, tyX3_ok, nmX3, by decide +kernel, Or.inl ⟨rfl, Or.inl (tb 64 (by decide +kernel))⟩⟩
theorem fl_X3_25 : FL RX3 25 1 4 := ⟨RX3, TX3, 5, rfl, by decide, i_X3, Or.inl (tb 66 (by decide +kernel))⟩
theorem fp_X3_25 : FP RX3 25 1 4 .int := ⟨RX3, TX3, 5, tyX3, rfl, by decide, i_X3, tyX3_ok, nmX3, by decide +kernel, Or.inl ⟨rfl, Or.inl (tb 66 (by decide +kernel))⟩⟩
theorem fl_X4_9 : FL RX4 9 2 0 := ⟨RX4, TX4, 2, rfl, by decide, i_X4, Or.inl (tb 151 (by decide +kernel))⟩
theorem fp_X4_9 : FP RX4 9 2 0 (.array .int) := ⟨RX4, TX4, 2, tyX4, rfl, by decide, i_X4, tyX4_ok, nmX4, by decide +kernel, Or.inr ⟨rfl, rfl, (tb 151 (by decide +kernel))⟩⟩
theorem fl_X4_15 : FL RX4 15 2 1 := ⟨RX4, TX4, 2, rfl, by decide, i_X4, Or.inl (tb 152 (by decide +kernel))⟩
theorem fp_X4_15 : FP RX4 15 2 1 (.array .int) := ⟨RX4, TX4, 2, tyX4, rfl, by decide, i_X4, tyX4_ok, nmX4, by decide +kernel, Or.inr ⟨rfl, rfl, (tb 152 (by decide +kernel))⟩⟩
theorem fl_X4_22 : FL RX4 22 1 2 := ⟨RX3, TX3, 5, rfl, by decide, i_X3, Or.inr ⟨"FountainShow", tb 61 (by decide +kernel)⟩⟩
theorem fp_X4_22 : FP RX4 22 1 2 .int := ⟨RX3, TX3, 5, tyX3, rfl, by decide, i_X3, tyX3_ok, nmX3, by decide +kernel, Or.inl ⟨rfl, Or.inr ⟨"FountainShow", tb 61 (by decide +kernel)⟩⟩⟩
theorem fl_X6_9 : FL RX6 9 3 0 := ⟨RX6, TX6, 7, rfl, by decide, i_X6, Or.inl (tb 166 (by decide +kernel))⟩
theorem fp_X6_9 : FP RX6 9 3 0 (.array .char) := ⟨RX6, TX6, 7, tyX6, rfl, by decide, i_X6, tyX6_ok, nmX6, by decide +kernel, Or.inr ⟨rfl, rfl, (tb 166 (by decide +kernel))⟩⟩
theorem fl_X6_15 : FL RX6 15 3 1 := ⟨RX6, TX6, 7, rfl, by decide, i_X6, Or.inl (tb 167 (by decide +kernel))⟩
theorem fp_X6_15 : FP RX6 15 3 1 .int := ⟨RX6, TX6, 7, tyX6, rfl, by decide, i_X6, tyX6_ok, nmX6, by decide +kernel, Or.inl ⟨rfl, Or.inl (tb 167 (by decide +kernel))⟩⟩
theorem fl_X6_19 : FL RX6 19 3 2 := ⟨RX6, TX6, 7, rfl, by decide, i_X6, Or.inl (tb 169 (by decide +kernel))⟩
theorem fp_X6_19 : FP RX6 19 3 2 .int := ⟨RX6, TX6, 7, tyX6, rfl, by decide, i_X6, tyX6_ok, nmX6, by decide +kernel, Or.inl ⟨rfl, Or.inl (tb 169 (by decide +kernel))⟩⟩
theorem fl_X6_22 : FL RX6 22 3 3 := ⟨RX6, TX6, 7, rfl, by decide, i_X6, Or.inl (tb 171 (by decide +kernel))⟩
theorem fp_X6_22 : FP RX6 22 3 3 .int := ⟨RX6, TX6, 7, tyX6, rfl, by decide, i_X6, tyX6_ok, nmX6, by decide +kernel, Or.inl ⟨rfl, Or.inl (tb 171 (by decide +kernel))⟩⟩
theorem fl_X6_31 : FL RX6 31 3 4 := ⟨RX6, TX6, 7, rfl, by decide, i_X6, Or.inl (tb 173 (by decide +kernel))⟩
theorem fp_X6_31 : FP RX6 31 3 4 (.object "FountainShow$Command") := ⟨RX6, TX6, 7, tyX6, rfl, by decide, i_X6, tyX6_ok, nmX6, by decide +kernel, Or.inl ⟨rfl, Or.inl (tb 173 (by decide +kernel))⟩⟩
theorem fl_X6_34 : FL RX6 34 3 5 := ⟨RX6, TX6, 7, rfl, by decide, i_X6, Or.inl (tb 175 (by decide +kernel))⟩
theorem fp_X6_34 : FP RX6 34 3 5 (.array .int) := ⟨RX6, TX6, 7, tyX6, rfl, by decide, i_X6, tyX6_ok, nmX6, by decide +kernel, Or.inr ⟨rfl, rfl, (tb 175 (by decide +kernel))⟩⟩
theorem fl_X6_38 : FL RX6 38 3 6 := ⟨RX6, TX6, 7, rfl, by decide, i_X6, Or.inl (tb 177 (by decide +kernel))⟩
theorem fp_X6_38 : FP RX6 38 3 6 .int := ⟨RX6, TX6, 7, tyX6, rfl, by decide, i_X6, tyX6_ok, nmX6, by decide +kernel, Or.inl ⟨rfl, Or.inl (tb 177 (by decide +kernel))⟩⟩
theorem fl_X7_12 : FL RX7 12 4 0 := ⟨RX7, TX7, 8, rfl, by decide, i_X7, Or.inl (tb 111 (by decide +kernel))⟩
theorem fp_X7_12 : FP RX7 12 4 0 (.object "FountainShow$Jets") := ⟨RX7, TX7, 8, tyX7, rfl, by decide, i_X7, tyX7_ok, nmX7, by decide +kernel, Or.inr ⟨rfl, rfl, (tb 111 (by decide +kernel))⟩⟩
theorem fl_X7_21 : FL RX7 21 4 1 := ⟨RX7, TX7, 8, rfl, by decide, i_X7, Or.inl (tb 113 (by decide +kernel))⟩
theorem fp_X7_21 : FP RX7 21 4 1 (.object "FountainShow$Figures") := ⟨RX7, TX7, 8, tyX7, rfl, by decide, i_X7, tyX7_ok, nmX7, by decide +kernel, Or.inr ⟨rfl, rfl, (tb 113 (by decide +kernel))⟩⟩
theorem fl_X7_25 : FL RX7 25 4 2 := ⟨RX7, TX7, 8, rfl, by decide, i_X7, Or.inl (tb 115 (by decide +kernel))⟩
theorem fp_X7_25 : FP RX7 25 4 2 (.array .int) := ⟨RX7, TX7, 8, tyX7, rfl, by decide, i_X7, tyX7_ok, nmX7, by decide +kernel, Or.inr ⟨rfl, rfl, (tb 115 (by decide +kernel))⟩⟩
theorem fl_X7_29 : FL RX7 29 4 3 := ⟨RX7, TX7, 8, rfl, by decide, i_X7, Or.inl (tb 117 (by decide +kernel))⟩
theorem fp_X7_29 : FP RX7 29 4 3 (.array .int) := ⟨RX7, TX7, 8, tyX7, rfl, by decide, i_X7, tyX7_ok, nmX7, by decide +kernel, Or.inr ⟨rfl, rfl, (tb 117 (by decide +kernel))⟩⟩
theorem fl_X7_32 : FL RX7 32 4 4 := ⟨RX7, TX7, 8, rfl, by decide, i_X7, Or.inl (tb 119 (by decide +kernel))⟩
theorem fp_X7_32 : FP RX7 32 4 4 .int := ⟨RX7, TX7, 8, tyX7, rfl, by decide, i_X7, tyX7_ok, nmX7, by decide +kernel, Or.inl ⟨rfl, Or.inl (tb 119 (by decide +kernel))⟩⟩
theorem fl_X7_36 : FL RX7 36 4 5 := ⟨RX7, TX7, 8, rfl, by decide, i_X7, Or.inl (tb 121 (by decide +kernel))⟩
theorem fp_X7_36 : FP RX7 36 4 5 .int := ⟨RX7, TX7, 8, tyX7, rfl, by decide, i_X7, tyX7_ok, nmX7, by decide +kernel, Or.inl ⟨rfl, Or.inl (tb 121 (by decide +kernel))⟩⟩
theorem fl_X7_39 : FL RX7 39 4 6 := ⟨RX7, TX7, 8, rfl, by decide, i_X7, Or.inl (tb 123 (by decide +kernel))⟩
theorem fp_X7_39 : FP RX7 39 4 6 .long := ⟨RX7, TX7, 8, tyX7, rfl, by decide, i_X7, tyX7_ok, nmX7, by decide +kernel, Or.inl ⟨rfl, Or.inl (tb 123 (by decide +kernel))⟩⟩
theorem fl_X7_43 : FL RX7 43 4 7 := ⟨RX7, TX7, 8, rfl, by decide, i_X7, Or.inl (tb 125 (by decide +kernel))⟩
theorem fp_X7_43 : FP RX7 43 4 7 .long := ⟨RX7, TX7, 8, tyX7, rfl, by decide, i_X7, tyX7_ok, nmX7, by decide +kernel, Or.inl ⟨rfl, Or.inl (tb 125 (by decide +kernel))⟩⟩
theorem fl_X7_89 : FL RX7 89 0 0 := ⟨RX2, TX2, 5, rfl, by decide, i_X2, Or.inr ⟨"FountainShow", tb 87 (by decide +kernel)⟩⟩
theorem fl_X7_116 : FL RX7 116 0 1 := ⟨RX2, TX2, 5, rfl, by decide, i_X2, Or.inr ⟨"FountainShow", tb 90 (by decide +kernel)⟩⟩
theorem fl_X7_119 : FL RX7 119 1 1 := ⟨RX3, TX3, 5, rfl, by decide, i_X3, Or.inr ⟨"FountainShow", tb 59 (by decide +kernel)⟩⟩
theorem fl_X7_122 : FL RX7 122 0 2 := ⟨RX2, TX2, 5, rfl, by decide, i_X2, Or.inr ⟨"FountainShow", tb 93 (by decide +kernel)⟩⟩
theorem fl_X7_124 : FL RX7 124 0 3 := ⟨RX2, TX2, 5, rfl, by decide, i_X2, Or.inr ⟨"FountainShow", tb 96 (by decide +kernel)⟩⟩
theorem fl_X7_133 : FL RX7 133 1 2 := ⟨RX3, TX3, 5, rfl, by decide, i_X3, Or.inr ⟨"FountainShow", tb 63 (by decide +kernel)⟩⟩
theorem fp_X7_133 : FP RX7 133 1 2 .int := ⟨RX3, TX3, 5, tyX3, rfl, by decide, i_X3, tyX3_ok, nmX3, by decide +kernel, Or.inl ⟨rfl, Or.inr ⟨"FountainShow", tb 63 (by decide +kernel)⟩⟩⟩
theorem fl_X9_7 : FL RX9 7 6 1 := ⟨RX9, TX9, 20, rfl, by decide, i_X9, Or.inl (tb 1546 (by decide +kernel))⟩
theorem fp_X9_7 : FP RX9 7 6 1 (.array .int) := ⟨RX9, TX9, 20, tyX9, rfl, by decide, i_X9, tyX9_ok, nmX9, by decide +kernel, Or.inr ⟨rfl, rfl, (tb 1546 (by decide +kernel))⟩⟩
theorem fl_X9_13 : FL RX9 13 6 2 := ⟨RX9, TX9, 20, rfl, by decide, i_X9, Or.inl (tb 1547 (by decide +kernel))⟩
theorem fp_X9_13 : FP RX9 13 6 2 (.array .int) := ⟨RX9, TX9, 20, tyX9, rfl, by decide, i_X9, tyX9_ok, nmX9, by decide +kernel, Or.inr ⟨rfl, rfl, (tb 1547 (by decide +kernel))⟩⟩
theorem fl_X9_16 : FL RX9 16 6 3 := ⟨RX9, TX9, 20, rfl, by decide, i_X9, Or.inl (tb 1548 (by decide +kernel))⟩
theorem fp_X9_16 : FP RX9 16 6 3 (.array .int) := ⟨RX9, TX9, 20, tyX9, rfl, by decide, i_X9, tyX9_ok, nmX9, by decide +kernel, Or.inr ⟨rfl, rfl, (tb 1548 (by decide +kernel))⟩⟩
theorem fl_X9_19 : FL RX9 19 6 4 := ⟨RX9, TX9, 20, rfl, by decide, i_X9, Or.inl (tb 1549 (by decide +kernel))⟩
theorem fp_X9_19 : FP RX9 19 6 4 (.array .int) := ⟨RX9, TX9, 20, tyX9, rfl, by decide, i_X9, tyX9_ok, nmX9, by decide +kernel, Or.inr ⟨rfl, rfl, (tb 1549 (by decide +kernel))⟩⟩
theorem fl_X9_22 : FL RX9 22 6 5 := ⟨RX9, TX9, 20, rfl, by decide, i_X9, Or.inl (tb 1550 (by decide +kernel))⟩
theorem fp_X9_22 : FP RX9 22 6 5 (.array .int) := ⟨RX9, TX9, 20, tyX9, rfl, by decide, i_X9, tyX9_ok, nmX9, by decide +kernel, Or.inr ⟨rfl, rfl, (tb 1550 (by decide +kernel))⟩⟩
theorem fl_X9_25 : FL RX9 25 6 8 := ⟨RX9, TX9, 20, rfl, by decide, i_X9, Or.inl (tb 1553 (by decide +kernel))⟩
theorem fp_X9_25 : FP RX9 25 6 8 (.array .int) := ⟨RX9, TX9, 20, tyX9, rfl, by decide, i_X9, tyX9_ok, nmX9, by decide +kernel, Or.inr ⟨rfl, rfl, (tb 1553 (by decide +kernel))⟩⟩
theorem fl_X9_28 : FL RX9 28 6 9 := ⟨RX9, TX9, 20, rfl, by decide, i_X9, Or.inl (tb 1554 (by decide +kernel))⟩
theorem fp_X9_28 : FP RX9 28 6 9 (.array .int) := ⟨RX9, TX9, 20, tyX9, rfl, by decide, i_X9, tyX9_ok, nmX9, by decide +kernel, Or.inr ⟨rfl, rfl, (tb 1554 (by decide +kernel))⟩⟩
theorem fl_X9_31 : FL RX9 31 6 10 := ⟨RX9, TX9, 20, rfl, by decide, i_X9, Or.inl (tb 1555 (by decide +kernel))⟩
theorem fp_X9_31 : FP RX9 31 6 10 (.array .int) := ⟨RX9, TX9, 20, tyX9, rfl, by decide, i_X9, tyX9_ok, nmX9, by decide +kernel, Or.inr ⟨rfl, rfl, (tb 1555 (by decide +kernel))⟩⟩
theorem fl_X9_34 : FL RX9 34 6 13 := ⟨RX9, TX9, 20, rfl, by decide, i_X9, Or.inl (tb 1558 (by decide +kernel))⟩
theorem fp_X9_34 : FP RX9 34 6 13 .int := ⟨RX9, TX9, 20, tyX9, rfl, by decide, i_X9, tyX9_ok, nmX9, by decide +kernel, Or.inl ⟨rfl, Or.inl (tb 1558 (by decide +kernel))⟩⟩
theorem fl_X9_38 : FL RX9 38 6 14 := ⟨RX9, TX9, 20, rfl, by decide, i_X9, Or.inl (tb 1559 (by decide +kernel))⟩
theorem fp_X9_38 : FP RX9 38 6 14 .int := ⟨RX9, TX9, 20, tyX9, rfl, by decide, i_X9, tyX9_ok, nmX9, by decide +kernel, Or.inl ⟨rfl, Or.inl (tb 1559 (by decide +kernel))⟩⟩
theorem fl_X9_41 : FL RX9 41 6 0 := ⟨RX9, TX9, 20, rfl, by decide, i_X9, Or.inl (tb 1545 (by decide +kernel))⟩
theorem fp_X9_41 : FP RX9 41 6 0 .int := ⟨RX9, TX9, 20, tyX9, rfl, by decide, i_X9, tyX9_ok, nmX9, by decide +kernel, Or.inl ⟨rfl, Or.inl (tb 1545 (by decide +kernel))⟩⟩
theorem fl_X9_44 : FL RX9 44 6 6 := ⟨RX9, TX9, 20, rfl, by decide, i_X9, Or.inl (tb 1551 (by decide +kernel))⟩
theorem fp_X9_44 : FP RX9 44 6 6 .int := ⟨RX9, TX9, 20, tyX9, rfl, by decide, i_X9, tyX9_ok, nmX9, by decide +kernel, Or.inl ⟨rfl, Or.inl (tb 1551 (by decide +kernel))⟩⟩
theorem fl_X9_47 : FL RX9 47 6 15 := ⟨RX9, TX9, 20, rfl, by decide, i_X9, Or.inl (tb 1560 (by decide +kernel))⟩
theorem fp_X9_47 : FP RX9 47 6 15 .int := ⟨RX9, TX9, 20, tyX9, rfl, by decide, i_X9, tyX9_ok, nmX9, by decide +kernel, Or.inl ⟨rfl, Or.inl (tb 1560 (by decide +kernel))⟩⟩
theorem fl_X9_199 : FL RX9 199 6 12 := ⟨RX9, TX9, 20, rfl, by decide, i_X9, Or.inl (tb 1557 (by decide +kernel))⟩
theorem fp_X9_199 : FP RX9 199 6 12 .int := ⟨RX9, TX9, 20, tyX9, rfl, by decide, i_X9, tyX9_ok, nmX9, by decide +kernel, Or.inl ⟨rfl, Or.inl (tb 1557 (by decide +kernel))⟩⟩
theorem fl_X9_208 : FL RX9 208 6 11 := ⟨RX9, TX9, 20, rfl, by decide, i_X9, Or.inl (tb 1556 (by decide +kernel))⟩
theorem fp_X9_208 : FP RX9 208 6 11 .int := ⟨RX9, TX9, 20, tyX9, rfl, by decide, i_X9, tyX9_ok, nmX9, by decide +kernel, Or.inl ⟨rfl, Or.inl (tb 1556 (by decide +kernel))⟩⟩
theorem fl_X9_211 : FL RX9 211 6 16 := ⟨RX9, TX9, 20, rfl, by decide, i_X9, Or.inl (tb 1561 (by decide +kernel))⟩
theorem fp_X9_211 : FP RX9 211 6 16 .int := ⟨RX9, TX9, 20, tyX9, rfl, by decide, i_X9, tyX9_ok, nmX9, by decide +kernel, Or.inl ⟨rfl, Or.inl (tb 1561 (by decide +kernel))⟩⟩
theorem fl_X9_214 : FL RX9 214 6 17 := ⟨RX9, TX9, 20, rfl, by decide, i_X9, Or.inl (tb 1562 (by decide +kernel))⟩
theorem fp_X9_214 : FP RX9 214 6 17 .int := ⟨RX9, TX9, 20, tyX9, rfl, by decide, i_X9, tyX9_ok, nmX9, by decide +kernel, Or.inl ⟨rfl, Or.inl (tb 1562 (by decide +kernel))⟩⟩
theorem fl_X9_221 : FL RX9 221 6 19 := ⟨RX9, TX9, 20, rfl, by decide, i_X9, Or.inl (tb 1564 (by decide +kernel))⟩
theorem fp_X9_221 : FP RX9 221 6 19 .boolean := ⟨RX9, TX9, 20, tyX9, rfl, by decide, i_X9, tyX9_ok, nmX9, by decide +kernel, Or.inl ⟨rfl, Or.inl (tb 1564 (by decide +kernel))⟩⟩
theorem fl_X9_232 : FL RX9 232 6 18 := ⟨RX9, TX9, 20, rfl, by decide, i_X9, Or.inl (tb 1563 (by decide +kernel))⟩
theorem fp_X9_232 : FP RX9 232 6 18 .int := ⟨RX9, TX9, 20, tyX9, rfl, by decide, i_X9, tyX9_ok, nmX9, by decide +kernel, Or.inl ⟨rfl, Or.inl (tb 1563 (by decide +kernel))⟩⟩
theorem fl_X9_283 : FL RX9 283 6 7 := ⟨RX9, TX9, 20, rfl, by decide, i_X9, Or.inl (tb 1552 (by decide +kernel))⟩
theorem fp_X9_283 : FP RX9 283 6 7 .boolean := ⟨RX9, TX9, 20, tyX9, rfl, by decide, i_X9, tyX9_ok, nmX9, by decide +kernel, Or.inl ⟨rfl, Or.inl (tb 1552 (by decide +kernel))⟩⟩
theorem kn_X8_9 : KIN RX8 9 mX7_init 0 "FountainShow" := ⟨rfl, ⟨tb 45 (by decide +kernel), (tb 46 (by decide +kernel)), rfl, rfl, (tb 2 (by decide +kernel)), tb 47 (by decide +kernel)⟩, ⟨by decide +kernel, by decide +kernel⟩, by decide +kernel, by decide⟩
theorem kn_X8_39 : KIN RX8 39 mX4_init 0 "FountainShow" := ⟨rfl, ⟨tb 147 (by decide +kernel), (tb 148 (by decide +kernel)), rfl, rfl, (tb 5 (by decide +kernel)), tb 149 (by decide +kernel)⟩, ⟨by decide +kernel, by decide +kernel⟩, by decide +kernel, by decide⟩
theorem kn_X8_46 : KIN RX8 46 mX6_init 0 "FountainShow" := ⟨rfl, ⟨tb 160 (by decide +kernel), (tb 161 (by decide +kernel)), rfl, rfl, (tb 6 (by decide +kernel)), tb 162 (by decide +kernel)⟩, ⟨by decide +kernel, by decide +kernel⟩, by decide +kernel, by decide⟩
theorem kv_X8_68 : KV RX8 68 mX3_problemOfAdding 1 := ⟨rfl, ⟨tb 467 (by decide +kernel), (tb 468 (by decide +kernel)), (tb 469 (by decide +kernel)), (tb 3 (by decide +kernel)), tb 470 (by decide +kernel)⟩, ⟨by decide +kernel, by decide +kernel⟩, by decide +kernel, by decide⟩
theorem kv_X8_74 : KS RX8 74 mX8_refuse 1 := ⟨rfl, ⟨tb 483 (by decide +kernel), (tb 484 (by decide +kernel)), (tb 1 (by decide +kernel)), tb 485 (by decide +kernel)⟩, ⟨by decide +kernel, by decide +kernel⟩, by decide +kernel, by decide⟩
theorem kv_X8_78 : KV RX8 78 mX8_remember 0 := ⟨rfl, ⟨tb 331 (by decide +kernel), (tb 333 (by decide +kernel)), (tp 3 (by decide +kernel)), (tb 1 (by decide +kernel)), tb 334 (by decide +kernel)⟩, ⟨by decide +kernel, by decide +kernel⟩, by decide +kernel, by decide⟩
theorem kv_X8_81 : KV RX8 81 mX3_append 1 := ⟨rfl, ⟨tb 614 (by decide +kernel), (tb 615 (by decide +kernel)), (tb 616 (by decide +kernel)), (tb 3 (by decide +kernel)), tb 617 (by decide +kernel)⟩, ⟨by decide +kernel, by decide +kernel⟩, by decide +kernel, by decide⟩
theorem kv_X8_85 : KV RX8 85 mX8_requireJet 1 := ⟨rfl, ⟨tb 646 (by decide +kernel), (tb 648 (by decide +kernel)), (tp 11 (by decide +kernel)), (tb 1 (by decide +kernel)), tb 649 (by decide +kernel)⟩, ⟨by decide +kernel, by decide +kernel⟩, by decide +kernel, by decide⟩
theorem kv_X8_89 : KV RX8 89 mX7_dropJet 1 := ⟨rfl, ⟨tb 655 (by decide +kernel), (tb 656 (by decide +kernel)), (tb 657 (by decide +kernel)), (tb 2 (by decide +kernel)), tb 658 (by decide +kernel)⟩, ⟨by decide +kernel, by decide +kernel⟩, by decide +kernel, by decide⟩
theorem kv_X8_92 : KV RX8 92 mX3_problemOfOpening 2 := ⟨rfl, ⟨tb 683 (by decide +kernel), (tb 684 (by decide +kernel)), (tb 685 (by decide +kernel)), (tb 3 (by decide +kernel)), tb 686 (by decide +kernel)⟩, ⟨by decide +kernel, by decide +kernel⟩, by decide +kernel, by decide⟩
theorem kv_X8_96 : KV RX8 96 mX3_changeOpening 2 := ⟨rfl, ⟨tb 690 (by decide +kernel), (tb 691 (by decide +kernel)), (tb 692 (by decide +kernel)), (tb 3 (by decide +kernel)), tb 693 (by decide +kernel)⟩, ⟨by decide +kernel, by decide +kernel⟩, by decide +kernel, by decide⟩
theorem kv_X8_110 : KV RX8 110 mX3_sumOfOpenings 0 := ⟨rfl, ⟨tb 371 (by decide +kernel), (tb 277 (by decide +kernel)), (tb 278 (by decide +kernel)), (tb 3 (by decide +kernel)), tb 279 (by decide +kernel)⟩, ⟨by decide +kernel, by decide +kernel⟩, by decide +kernel, by decide⟩
theorem kv_X8_114 : KV RX8 114 mX3_heightOf 2 := ⟨rfl, ⟨tb 715 (by decide +kernel), (tb 285 (by decide +kernel)), (tb 286 (by decide +kernel)), (tb 3 (by decide +kernel)), tb 287 (by decide +kernel)⟩, ⟨by decide +kernel, by decide +kernel⟩, by decide +kernel, by decide⟩
theorem kv_X8_117 : KV RX8 117 mX3_landingOf 2 := ⟨rfl, ⟨tb 723 (by decide +kernel), (tb 281 (by decide +kernel)), (tb 282 (by decide +kernel)), (tb 3 (by decide +kernel)), tb 283 (by decide +kernel)⟩, ⟨by decide +kernel, by decide +kernel⟩, by decide +kernel, by decide⟩
theorem kv_X8_120 : KS RX8 120 mX3_isOutside 1 := ⟨rfl, ⟨tb 731 (by decide +kernel), (tb 289 (by decide +kernel)), (tb 3 (by decide +kernel)), tb 290 (by decide +kernel)⟩, ⟨by decide +kernel, by decide +kernel⟩, by decide +kernel, by decide⟩
theorem kv_X8_124 : KV RX8 124 mX3_countWild 0 := ⟨rfl, ⟨tb 272 (by decide +kernel), (tb 273 (by decide +kernel)), (tb 274 (by decide +kernel)), (tb 3 (by decide +kernel)), tb 275 (by decide +kernel)⟩, ⟨by decide +kernel, by decide +kernel⟩, by decide +kernel, by decide⟩
theorem kv_X8_127 : KV RX8 127 mX8_requireAnyJet 0 := ⟨rfl, ⟨tb 740 (by decide +kernel), (tb 742 (by decide +kernel)), (tp 14 (by decide +kernel)), (tb 1 (by decide +kernel)), tb 743 (by decide +kernel)⟩, ⟨by decide +kernel, by decide +kernel⟩, by decide +kernel, by decide⟩
theorem kv_X8_130 : KV RX8 130 mX3_findHighest 0 := ⟨rfl, ⟨tb 760 (by decide +kernel), (tb 761 (by decide +kernel)), (tb 762 (by decide +kernel)), (tb 3 (by decide +kernel)), tb 763 (by decide +kernel)⟩, ⟨by decide +kernel, by decide +kernel⟩, by decide +kernel, by decide⟩
theorem kv_X8_133 : KV RX8 133 mX3_has 1 := ⟨rfl, ⟨tb 650 (by decide +kernel), (tb 651 (by decide +kernel)), (tb 652 (by decide +kernel)), (tb 3 (by decide +kernel)), tb 653 (by decide +kernel)⟩, ⟨by decide +kernel, by decide +kernel⟩, by decide +kernel, by decide⟩
theorem kv_X8_143 : KV RX8 143 mX3_findByRank 1 := ⟨rfl, ⟨tb 772 (by decide +kernel), (tb 773 (by decide +kernel)), (tb 774 (by decide +kernel)), (tb 3 (by decide +kernel)), tb 775 (by decide +kernel)⟩, ⟨by decide +kernel, by decide +kernel⟩, by decide +kernel, by decide⟩
theorem kv_X8_146 : KV RX8 146 mX3_findNearestLanding 1 := ⟨rfl, ⟨tb 784 (by decide +kernel), (tb 785 (by decide +kernel)), (tb 786 (by decide +kernel)), (tb 3 (by decide +kernel)), tb 787 (by decide +kernel)⟩, ⟨by decide +kernel, by decide +kernel⟩, by decide +kernel, by decide⟩
theorem kv_X8_149 : KV RX8 149 mX3_countCrossingPairs 0 := ⟨rfl, ⟨tb 295 (by decide +kernel), (tb 296 (by decide +kernel)), (tb 297 (by decide +kernel)), (tb 3 (by decide +kernel)), tb 298 (by decide +kernel)⟩, ⟨by decide +kernel, by decide +kernel⟩, by decide +kernel, by decide⟩
theorem kv_X8_152 : KV RX8 152 mX4_countInversions 1 := ⟨rfl, ⟨tb 303 (by decide +kernel), (tb 304 (by decide +kernel)), (tb 305 (by decide +kernel)), (tb 5 (by decide +kernel)), tb 306 (by decide +kernel)⟩, ⟨by decide +kernel, by decide +kernel⟩, by decide +kernel, by decide⟩
theorem kv_X8_156 : KV RX8 156 mX3_problemOfCapacity 1 := ⟨rfl, ⟨tb 802 (by decide +kernel), (tb 803 (by decide +kernel)), (tb 804 (by decide +kernel)), (tb 3 (by decide +kernel)), tb 805 (by decide +kernel)⟩, ⟨by decide +kernel, by decide +kernel⟩, by decide +kernel, by decide⟩
theorem kv_X8_159 : KV RX8 159 mX3_changeCapacity 1 := ⟨rfl, ⟨tb 806 (by decide +kernel), (tb 807 (by decide +kernel)), (tb 808 (by decide +kernel)), (tb 3 (by decide +kernel)), tb 809 (by decide +kernel)⟩, ⟨by decide +kernel, by decide +kernel⟩, by decide +kernel, by decide⟩
theorem kv_X8_162 : KV RX8 162 mX3_problemOfWind 1 := ⟨rfl, ⟨tb 817 (by decide +kernel), (tb 818 (by decide +kernel)), (tb 819 (by decide +kernel)), (tb 3 (by decide +kernel)), tb 820 (by decide +kernel)⟩, ⟨by decide +kernel, by decide +kernel⟩, by decide +kernel, by decide⟩
theorem kv_X8_165 : KV RX8 165 mX3_changeWind 1 := ⟨rfl, ⟨tb 821 (by decide +kernel), (tb 822 (by decide +kernel)), (tb 823 (by decide +kernel)), (tb 3 (by decide +kernel)), tb 824 (by decide +kernel)⟩, ⟨by decide +kernel, by decide +kernel⟩, by decide +kernel, by decide⟩
theorem kv_X8_168 : KV RX8 168 mX3_closeWildJets 0 := ⟨rfl, ⟨tb 351 (by decide +kernel), (tb 352 (by decide +kernel)), (tb 353 (by decide +kernel)), (tb 3 (by decide +kernel)), tb 354 (by decide +kernel)⟩, ⟨by decide +kernel, by decide +kernel⟩, by decide +kernel, by decide⟩
theorem kv_X8_177 : KV RX8 177 mX3_supplyFor 1 := ⟨rfl, ⟨tb 376 (by decide +kernel), (tb 377 (by decide +kernel)), (tb 378 (by decide +kernel)), (tb 3 (by decide +kernel)), tb 379 (by decide +kernel)⟩, ⟨by decide +kernel, by decide +kernel⟩, by decide +kernel, by decide⟩
theorem kv_X8_191 : KV RX8 191 mX2_problemOfAdding 0 := ⟨rfl, ⟨tb 832 (by decide +kernel), (tb 833 (by decide +kernel)), (tb 834 (by decide +kernel)), (tb 4 (by decide +kernel)), tb 835 (by decide +kernel)⟩, ⟨by decide +kernel, by decide +kernel⟩, by decide +kernel, by decide⟩
theorem kv_X8_196 : KV RX8 196 mX2_append 0 := ⟨rfl, ⟨tb 838 (by decide +kernel), (tb 839 (by decide +kernel)), (tb 840 (by decide +kernel)), (tb 4 (by decide +kernel)), tb 841 (by decide +kernel)⟩, ⟨by decide +kernel, by decide +kernel⟩, by decide +kernel, by decide⟩
theorem kv_X8_198 : KV RX8 198 mX7_problemOfDroppingFigure 1 := ⟨rfl, ⟨tb 849 (by decide +kernel), (tb 850 (by decide +kernel)), (tb 851 (by decide +kernel)), (tb 2 (by decide +kernel)), tb 852 (by decide +kernel)⟩, ⟨by decide +kernel, by decide +kernel⟩, by decide +kernel, by decide⟩
theorem kv_X8_201 : KV RX8 201 mX7_dropFigure 1 := ⟨rfl, ⟨tb 860 (by decide +kernel), (tb 861 (by decide +kernel)), (tb 862 (by decide +kernel)), (tb 2 (by decide +kernel)), tb 863 (by decide +kernel)⟩, ⟨by decide +kernel, by decide +kernel⟩, by decide +kernel, by decide⟩
theorem kv_X8_204 : KV RX8 204 mX7_problemOfStep 4 := ⟨rfl, ⟨tb 875 (by decide +kernel), (tb 876 (by decide +kernel)), (tb 877 (by decide +kernel)), (tb 2 (by decide +kernel)), tb 878 (by decide +kernel)⟩, ⟨by decide +kernel, by decide +kernel⟩, by decide +kernel, by decide⟩
theorem kv_X8_208 : KV RX8 208 mX2_appendStep 4 := ⟨rfl, ⟨tb 881 (by decide +kernel), (tb 882 (by decide +kernel)), (tb 883 (by decide +kernel)), (tb 4 (by decide +kernel)), tb 884 (by decide +kernel)⟩, ⟨by decide +kernel, by decide +kernel⟩, by decide +kernel, by decide⟩
theorem kv_X8_212 : KV RX8 212 mX8_requireStep 2 := ⟨rfl, ⟨tb 892 (by decide +kernel), (tb 894 (by decide +kernel)), (tp 16 (by decide +kernel)), (tb 1 (by decide +kernel)), tb 895 (by decide +kernel)⟩, ⟨by decide +kernel, by decide +kernel⟩, by decide +kernel, by decide⟩
theorem kv_X8_216 : KV RX8 216 mX2_dropStep 2 := ⟨rfl, ⟨tb 902 (by decide +kernel), (tb 903 (by decide +kernel)), (tb 904 (by decide +kernel)), (tb 4 (by decide +kernel)), tb 905 (by decide +kernel)⟩, ⟨by decide +kernel, by decide +kernel⟩, by decide +kernel, by decide⟩
theorem kv_X8_220 : KV RX8 220 mX8_requireFigure 1 := ⟨rfl, ⟨tb 913 (by decide +kernel), (tb 915 (by decide +kernel)), (tp 17 (by decide +kernel)), (tb 1 (by decide +kernel)), tb 916 (by decide +kernel)⟩, ⟨by decide +kernel, by decide +kernel⟩, by decide +kernel, by decide⟩
theorem kv_X8_229 : KS RX8 229 mX8_slot 2 := ⟨rfl, ⟨tb 926 (by decide +kernel), (tb 429 (by decide +kernel)), (tb 1 (by decide +kernel)), tb 430 (by decide +kernel)⟩, ⟨by decide +kernel, by decide +kernel⟩, by decide +kernel, by decide⟩
theorem kv_X8_235 : KV RX8 235 mX2_lengthOf 1 := ⟨rfl, ⟨tb 948 (by decide +kernel), (tb 410 (by decide +kernel)), (tb 411 (by decide +kernel)), (tb 4 (by decide +kernel)), tb 412 (by decide +kernel)⟩, ⟨by decide +kernel, by decide +kernel⟩, by decide +kernel, by decide⟩
theorem kv_X8_238 : KV RX8 238 mX2_countUsing 1 := ⟨rfl, ⟨tb 956 (by decide +kernel), (tb 957 (by decide +kernel)), (tb 958 (by decide +kernel)), (tb 4 (by decide +kernel)), tb 959 (by decide +kernel)⟩, ⟨by decide +kernel, by decide +kernel⟩, by decide +kernel, by decide⟩
theorem kv_X8_241 : KV RX8 241 mX7_problemOfPlaying 2 := ⟨rfl, ⟨tb 971 (by decide +kernel), (tb 972 (by decide +kernel)), (tb 973 (by decide +kernel)), (tb 2 (by decide +kernel)), tb 974 (by decide +kernel)⟩, ⟨by decide +kernel, by decide +kernel⟩, by decide +kernel, by decide⟩
theorem kv_X8_244 : KV RX8 244 mX7_appendEntry 2 := ⟨rfl, ⟨tb 975 (by decide +kernel), (tb 976 (by decide +kernel)), (tb 977 (by decide +kernel)), (tb 2 (by decide +kernel)), tb 978 (by decide +kernel)⟩, ⟨by decide +kernel, by decide +kernel⟩, by decide +kernel, by decide⟩
theorem kv_X8_247 : KV RX8 247 mX8_requireEntry 1 := ⟨rfl, ⟨tb 986 (by decide +kernel), (tb 988 (by decide +kernel)), (tp 19 (by decide +kernel)), (tb 1 (by decide +kernel)), tb 989 (by decide +kernel)⟩, ⟨by decide +kernel, by decide +kernel⟩, by decide +kernel, by decide⟩
theorem kv_X8_250 : KV RX8 250 mX7_dropEntry 1 := ⟨rfl, ⟨tb 991 (by decide +kernel), (tb 992 (by decide +kernel)), (tb 993 (by decide +kernel)), (tb 2 (by decide +kernel)), tb 994 (by decide +kernel)⟩, ⟨by decide +kernel, by decide +kernel⟩, by decide +kernel, by decide⟩
theorem kv_X8_253 : KV RX8 253 mX7_problemOfPassing 1 := ⟨rfl, ⟨tb 1002 (by decide +kernel), (tb 1003 (by decide +kernel)), (tb 1004 (by decide +kernel)), (tb 2 (by decide +kernel)), tb 1005 (by decide +kernel)⟩, ⟨by decide +kernel, by decide +kernel⟩, by decide +kernel, by decide⟩
theorem kv_X8_256 : KV RX8 256 mX7_passBeats 1 := ⟨rfl, ⟨tb 1006 (by decide +kernel), (tb 1007 (by decide +kernel)), (tb 1008 (by decide +kernel)), (tb 2 (by decide +kernel)), tb 1009 (by decide +kernel)⟩, ⟨by decide +kernel, by decide +kernel⟩, by decide +kernel, by decide⟩
theorem kv_X8_271 : KV RX8 271 mX7_beatsToEmptyQueue 0 := ⟨rfl, ⟨tb 405 (by decide +kernel), (tb 406 (by decide +kernel)), (tb 407 (by decide +kernel)), (tb 2 (by decide +kernel)), tb 408 (by decide +kernel)⟩, ⟨by decide +kernel, by decide +kernel⟩, by decide +kernel, by decide⟩
theorem kv_X8_274 : KS RX8 274 mX8_requireForecast 1 := ⟨rfl, ⟨tb 1032 (by decide +kernel), (tb 1033 (by decide +kernel)), (tb 1 (by decide +kernel)), tb 1034 (by decide +kernel)⟩, ⟨by decide +kernel, by decide +kernel⟩, by decide +kernel, by decide⟩
theorem kv_X8_277 : KV RX8 277 mX7_copyFrom 1 := ⟨rfl, ⟨tb 335 (by decide +kernel), (tb 336 (by decide +kernel)), (tb 337 (by decide +kernel)), (tb 2 (by decide +kernel)), tb 338 (by decide +kernel)⟩, ⟨by decide +kernel, by decide +kernel⟩, by decide +kernel, by decide⟩
theorem kv_X8_281 : KV RX8 281 mX7_demandFromLastSteps 1 := ⟨rfl, ⟨tb 420 (by decide +kernel), (tb 421 (by decide +kernel)), (tb 422 (by decide +kernel)), (tb 2 (by decide +kernel)), tb 423 (by decide +kernel)⟩, ⟨by decide +kernel, by decide +kernel⟩, by decide +kernel, by decide⟩
theorem kv_X8_284 : KV RX8 284 mX7_passOneBeat 0 := ⟨rfl, ⟨tb 431 (by decide +kernel), (tb 432 (by decide +kernel)), (tb 433 (by decide +kernel)), (tb 2 (by decide +kernel)), tb 434 (by decide +kernel)⟩, ⟨by decide +kernel, by decide +kernel⟩, by decide +kernel, by decide⟩
theorem kv_X8_299 : KV RX8 299 mX8_writeStep 1 := ⟨rfl, ⟨tb 1340 (by decide +kernel), (tb 1342 (by decide +kernel)), (tp 20 (by decide +kernel)), (tb 1 (by decide +kernel)), tb 1343 (by decide +kernel)⟩, ⟨by decide +kernel, by decide +kernel⟩, by decide +kernel, by decide⟩
theorem kv_X8_314 : KV RX8 314 mX6_isFull 0 := ⟨rfl, ⟨tb 1393 (by decide +kernel), (tb 1394 (by decide +kernel)), (tb 1395 (by decide +kernel)), (tb 6 (by decide +kernel)), tb 1396 (by decide +kernel)⟩, ⟨by decide +kernel, by decide +kernel⟩, by decide +kernel, by decide⟩
theorem kv_X8_323 : KV RX8 323 mX6_append 1 := ⟨rfl, ⟨tb 1398 (by decide +kernel), (tb 1399 (by decide +kernel)), (tb 1400 (by decide +kernel)), (tb 6 (by decide +kernel)), tb 1401 (by decide +kernel)⟩, ⟨by decide +kernel, by decide +kernel⟩, by decide +kernel, by decide⟩
theorem kv_X8_326 : KV RX8 326 mX6_findError 0 := ⟨rfl, ⟨tb 1409 (by decide +kernel), (tb 1410 (by decide +kernel)), (tb 1411 (by decide +kernel)), (tb 6 (by decide +kernel)), tb 1412 (by decide +kernel)⟩, ⟨by decide +kernel, by decide +kernel⟩, by decide +kernel, by decide⟩
theorem kv_X8_336 : KV RX8 336 mX8_performUntilProblem 0 := ⟨rfl, ⟨tb 1469 (by decide +kernel), (tb 1471 (by decide +kernel)), (tp 28 (by decide +kernel)), (tb 1 (by decide +kernel)), tb 1472 (by decide +kernel)⟩, ⟨by decide +kernel, by decide +kernel⟩, by decide +kernel, by decide⟩
theorem kv_X8_380 : KV RX8 380 mX2_has 1 := ⟨rfl, ⟨tb 917 (by decide +kernel), (tb 854 (by decide +kernel)), (tb 855 (by decide +kernel)), (tb 4 (by decide +kernel)), tb 856 (by decide +kernel)⟩, ⟨by decide +kernel, by decide +kernel⟩, by decide +kernel, by decide⟩
theorem kv_X8_383 : KV RX8 383 mX2_hasStep 2 := ⟨rfl, ⟨tb 896 (by decide +kernel), (tb 897 (by decide +kernel)), (tb 898 (by decide +kernel)), (tb 4 (by decide +kernel)), tb 899 (by decide +kernel)⟩, ⟨by decide +kernel, by decide +kernel⟩, by decide +kernel, by decide⟩
theorem kv_X8_402 : KV RX8 402 mX6_readCommand 0 := ⟨rfl, ⟨tb 1473 (by decide +kernel), (tb 1414 (by decide +kernel)), (tb 1415 (by decide +kernel)), (tb 6 (by decide +kernel)), tb 1416 (by decide +kernel)⟩, ⟨by decide +kernel, by decide +kernel⟩, by decide +kernel, by decide⟩
theorem kv_X8_412 : KV RX8 412 mX7_problemOf 2 := ⟨rfl, ⟨tb 1474 (by decide +kernel), (tb 1475 (by decide +kernel)), (tb 1476 (by decide +kernel)), (tb 2 (by decide +kernel)), tb 1477 (by decide +kernel)⟩, ⟨by decide +kernel, by decide +kernel⟩, by decide +kernel, by decide⟩
theorem kv_X8_420 : KV RX8 420 mX7_carryOut 2 := ⟨rfl, ⟨tb 1492 (by decide +kernel), (tb 1493 (by decide +kernel)), (tb 1494 (by decide +kernel)), (tb 2 (by decide +kernel)), tb 1495 (by decide +kernel)⟩, ⟨by decide +kernel, by decide +kernel⟩, by decide +kernel, by decide⟩
theorem kv_X8_424 : KV RX8 424 mX6_skipSemicolon 0 := ⟨rfl, ⟨tb 1505 (by decide +kernel), (tb 1465 (by decide +kernel)), (tb 1466 (by decide +kernel)), (tb 6 (by decide +kernel)), tb 1467 (by decide +kernel)⟩, ⟨by decide +kernel, by decide +kernel⟩, by decide +kernel, by decide⟩
theorem kv_X2_34 : KV RX2 34 mX2_has 1 := ⟨rfl, ⟨tb 900 (by decide +kernel), (tb 854 (by decide +kernel)), (tb 855 (by decide +kernel)), (tb 4 (by decide +kernel)), tb 856 (by decide +kernel)⟩, ⟨by decide +kernel, by decide +kernel⟩, by decide +kernel, by decide⟩
theorem kn_X2_47 : KSN RX2 47 mX8_slot 2 "FountainShow" := ⟨rfl, ⟨tb 671 (by decide +kernel), (tb 429 (by decide +kernel)), (tb 1 (by decide +kernel)), tb 430 (by decide +kernel)⟩, ⟨by decide +kernel, by decide +kernel⟩, by decide +kernel, by decide⟩
theorem kv_X2_51 : KV RX2 51 mX2_moveStep 2 := ⟨rfl, ⟨tb 672 (by decide +kernel), (tb 674 (by decide +kernel)), (tp 13 (by decide +kernel)), (tb 4 (by decide +kernel)), tb 675 (by decide +kernel)⟩, ⟨by decide +kernel, by decide +kernel⟩, by decide +kernel, by decide⟩
theorem kv_X2_55 : KV RX2 55 mX2_uses 2 := ⟨rfl, ⟨tb 960 (by decide +kernel), (tb 962 (by decide +kernel)), (tp 18 (by decide +kernel)), (tb 4 (by decide +kernel)), tb 963 (by decide +kernel)⟩, ⟨by decide +kernel, by decide +kernel⟩, by decide +kernel, by decide⟩
theorem kv_X2_59 : KV RX2 59 mX2_forgetJetIn 2 := ⟨rfl, ⟨tb 667 (by decide +kernel), (tb 669 (by decide +kernel)), (tp 12 (by decide +kernel)), (tb 4 (by decide +kernel)), tb 670 (by decide +kernel)⟩, ⟨by decide +kernel, by decide +kernel⟩, by decide +kernel, by decide⟩
theorem kv_X3_40 : KV RX3 40 mX3_isTaken 1 := ⟨rfl, ⟨tb 473 (by decide +kernel), (tb 475 (by decide +kernel)), (tp 9 (by decide +kernel)), (tb 3 (by decide +kernel)), tb 476 (by decide +kernel)⟩, ⟨by decide +kernel, by decide +kernel⟩, by decide +kernel, by decide⟩
theorem kv_X3_53 : KV RX3 53 mX3_has 1 := ⟨rfl, ⟨tb 687 (by decide +kernel), (tb 651 (by decide +kernel)), (tb 652 (by decide +kernel)), (tb 3 (by decide +kernel)), tb 653 (by decide +kernel)⟩, ⟨by decide +kernel, by decide +kernel⟩, by decide +kernel, by decide⟩
theorem kv_X3_65 : KV RX3 65 mX3_heightOf 2 := ⟨rfl, ⟨tb 284 (by decide +kernel), (tb 285 (by decide +kernel)), (tb 286 (by decide +kernel)), (tb 3 (by decide +kernel)), tb 287 (by decide +kernel)⟩, ⟨by decide +kernel, by decide +kernel⟩, by decide +kernel, by decide⟩
theorem kv_X3_68 : KV RX3 68 mX3_sumOfOpenings 0 := ⟨rfl, ⟨tb 276 (by decide +kernel), (tb 277 (by decide +kernel)), (tb 278 (by decide +kernel)), (tb 3 (by decide +kernel)), tb 279 (by decide +kernel)⟩, ⟨by decide +kernel, by decide +kernel⟩, by decide +kernel, by decide⟩
theorem kv_X3_72 : KV RX3 72 mX3_landingOf 2 := ⟨rfl, ⟨tb 280 (by decide +kernel), (tb 281 (by decide +kernel)), (tb 282 (by decide +kernel)), (tb 3 (by decide +kernel)), tb 283 (by decide +kernel)⟩, ⟨by decide +kernel, by decide +kernel⟩, by decide +kernel, by decide⟩
theorem kv_X3_75 : KS RX3 75 mX3_isOutside 1 := ⟨rfl, ⟨tb 288 (by decide +kernel), (tb 289 (by decide +kernel)), (tb 3 (by decide +kernel)), tb 290 (by decide +kernel)⟩, ⟨by decide +kernel, by decide +kernel⟩, by decide +kernel, by decide⟩
theorem kv_X3_78 : KV RX3 78 mX3_findFirstWild 0 := ⟨rfl, ⟨tb 355 (by decide +kernel), (tb 357 (by decide +kernel)), (tp 4 (by decide +kernel)), (tb 3 (by decide +kernel)), tb 358 (by decide +kernel)⟩, ⟨by decide +kernel, by decide +kernel⟩, by decide +kernel, by decide⟩
theorem kv_X3_81 : KV RX3 81 mX3_rankOf 1 := ⟨rfl, ⟨tb 776 (by decide +kernel), (tb 314 (by decide +kernel)), (tp 1 (by decide +kernel)), (tb 3 (by decide +kernel)), tb 315 (by decide +kernel)⟩, ⟨by decide +kernel, by decide +kernel⟩, by decide +kernel, by decide⟩
theorem kv_X3_85 : KV RX3 85 mX3_distance 3 := ⟨rfl, ⟨tb 788 (by decide +kernel), (tb 790 (by decide +kernel)), (tp 15 (by decide +kernel)), (tb 3 (by decide +kernel)), tb 791 (by decide +kernel)⟩, ⟨by decide +kernel, by decide +kernel⟩, by decide +kernel, by decide⟩
theorem kv_X4_18 : KV RX4 18 mX4_takeLandings 1 := ⟨rfl, ⟨tb 307 (by decide +kernel), (tb 309 (by decide +kernel)), (tp 0 (by decide +kernel)), (tb 5 (by decide +kernel)), tb 310 (by decide +kernel)⟩, ⟨by decide +kernel, by decide +kernel⟩, by decide +kernel, by decide⟩
theorem kv_X4_34 : KV RX4 34 mX4_merge 3 := ⟨rfl, ⟨tb 320 (by decide +kernel), (tb 322 (by decide +kernel)), (tp 2 (by decide +kernel)), (tb 5 (by decide +kernel)), tb 323 (by decide +kernel)⟩, ⟨by decide +kernel, by decide +kernel⟩, by decide +kernel, by decide⟩
theorem kv_X4_38 : KV RX4 38 mX3_sumOfOpenings 0 := ⟨rfl, ⟨tb 311 (by decide +kernel), (tb 277 (by decide +kernel)), (tb 278 (by decide +kernel)), (tb 3 (by decide +kernel)), tb 279 (by decide +kernel)⟩, ⟨by decide +kernel, by decide +kernel⟩, by decide +kernel, by decide⟩
theorem kn_X4_42 : KVN RX4 42 mX3_rankOf 1 "FountainShow" := ⟨rfl, ⟨tb 312 (by decide +kernel), (tb 314 (by decide +kernel)), (tp 1 (by decide +kernel)), (tb 3 (by decide +kernel)), tb 315 (by decide +kernel)⟩, ⟨by decide +kernel, by decide +kernel⟩, by decide +kernel, by decide⟩
theorem kv_X4_46 : KV RX4 46 mX3_landingOf 2 := ⟨rfl, ⟨tb 316 (by decide +kernel), (tb 281 (by decide +kernel)), (tb 282 (by decide +kernel)), (tb 3 (by decide +kernel)), tb 283 (by decide +kernel)⟩, ⟨by decide +kernel, by decide +kernel⟩, by decide +kernel, by decide⟩
theorem kv_X6_41 : KV RX6 41 mX6_readCommand 0 := ⟨rfl, ⟨tb 1413 (by decide +kernel), (tb 1414 (by decide +kernel)), (tb 1415 (by decide +kernel)), (tb 6 (by decide +kernel)), tb 1416 (by decide +kernel)⟩, ⟨by decide +kernel, by decide +kernel⟩, by decide +kernel, by decide⟩
theorem kv_X6_45 : KV RX6 45 mX6_skipSemicolon 0 := ⟨rfl, ⟨tb 1464 (by decide +kernel), (tb 1465 (by decide +kernel)), (tb 1466 (by decide +kernel)), (tb 6 (by decide +kernel)), tb 1467 (by decide +kernel)⟩, ⟨by decide +kernel, by decide +kernel⟩, by decide +kernel, by decide⟩
theorem kv_X6_48 : KV RX6 48 mX6_takeCharacter 1 := ⟨rfl, ⟨tb 1459 (by decide +kernel), (tb 1461 (by decide +kernel)), (tp 27 (by decide +kernel)), (tb 6 (by decide +kernel)), tb 1462 (by decide +kernel)⟩, ⟨by decide +kernel, by decide +kernel⟩, by decide +kernel, by decide⟩
theorem kv_X6_60 : KV RX6 60 mX6_fits 1 := ⟨rfl, ⟨tb 1419 (by decide +kernel), (tb 1421 (by decide +kernel)), (tp 21 (by decide +kernel)), (tb 6 (by decide +kernel)), tb 1422 (by decide +kernel)⟩, ⟨by decide +kernel, by decide +kernel⟩, by decide +kernel, by decide⟩
theorem kv_X6_79 : KV RX6 79 mX6_takePart 1 := ⟨rfl, ⟨tb 1439 (by decide +kernel), (tb 1441 (by decide +kernel)), (tp 22 (by decide +kernel)), (tb 6 (by decide +kernel)), tb 1442 (by decide +kernel)⟩, ⟨by decide +kernel, by decide +kernel⟩, by decide +kernel, by decide⟩
theorem kv_X6_82 : KV RX6 82 mX6_takeNumber 1 := ⟨rfl, ⟨tb 1443 (by decide +kernel), (tb 1445 (by decide +kernel)), (tp 23 (by decide +kernel)), (tb 6 (by decide +kernel)), tb 1446 (by decide +kernel)⟩, ⟨by decide +kernel, by decide +kernel⟩, by decide +kernel, by decide⟩
theorem kv_X6_86 : KV RX6 86 mX6_takeSign 0 := ⟨rfl, ⟨tb 1455 (by decide +kernel), (tb 1457 (by decide +kernel)), (tp 26 (by decide +kernel)), (tb 6 (by decide +kernel)), tb 1458 (by decide +kernel)⟩, ⟨by decide +kernel, by decide +kernel⟩, by decide +kernel, by decide⟩
theorem kv_X6_89 : KV RX6 89 mX6_standsAtDigit 0 := ⟨rfl, ⟨tb 1447 (by decide +kernel), (tb 1449 (by decide +kernel)), (tp 24 (by decide +kernel)), (tb 6 (by decide +kernel)), tb 1450 (by decide +kernel)⟩, ⟨by decide +kernel, by decide +kernel⟩, by decide +kernel, by decide⟩
theorem kv_X6_92 : KV RX6 92 mX6_keepNumber 1 := ⟨rfl, ⟨tb 1451 (by decide +kernel), (tb 1453 (by decide +kernel)), (tp 25 (by decide +kernel)), (tb 6 (by decide +kernel)), tb 1454 (by decide +kernel)⟩, ⟨by decide +kernel, by decide +kernel⟩, by decide +kernel, by decide⟩
theorem kn_X7_11 : KIN RX7 11 mX3_init 0 "FountainShow" := ⟨rfl, ⟨tb 51 (by decide +kernel), (tb 52 (by decide +kernel)), rfl, rfl, (tb 3 (by decide +kernel)), tb 53 (by decide +kernel)⟩, ⟨by decide +kernel, by decide +kernel⟩, by decide +kernel, by decide⟩
theorem kn_X7_20 : KIN RX7 20 mX2_init 0 "FountainShow" := ⟨rfl, ⟨tb 82 (by decide +kernel), (tb 83 (by decide +kernel)), rfl, rfl, (tb 4 (by decide +kernel)), tb 84 (by decide +kernel)⟩, ⟨by decide +kernel, by decide +kernel⟩, by decide +kernel, by decide⟩
theorem kv_X7_46 : KV RX7 46 mX3_copyFrom 1 := ⟨rfl, ⟨tb 339 (by decide +kernel), (tb 340 (by decide +kernel)), (tb 341 (by decide +kernel)), (tb 3 (by decide +kernel)), tb 342 (by decide +kernel)⟩, ⟨by decide +kernel, by decide +kernel⟩, by decide +kernel, by decide⟩
theorem kv_X7_50 : KV RX7 50 mX2_copyFrom 1 := ⟨rfl, ⟨tb 344 (by decide +kernel), (tb 345 (by decide +kernel)), (tb 346 (by decide +kernel)), (tb 4 (by decide +kernel)), tb 347 (by decide +kernel)⟩, ⟨by decide +kernel, by decide +kernel⟩, by decide +kernel, by decide⟩
theorem kv_X7_59 : KV RX7 59 mX3_drop 1 := ⟨rfl, ⟨tb 659 (by decide +kernel), (tb 660 (by decide +kernel)), (tb 661 (by decide +kernel)), (tb 3 (by decide +kernel)), tb 662 (by decide +kernel)⟩, ⟨by decide +kernel, by decide +kernel⟩, by decide +kernel, by decide⟩
theorem kv_X7_63 : KV RX7 63 mX2_forgetJet 1 := ⟨rfl, ⟨tb 663 (by decide +kernel), (tb 664 (by decide +kernel)), (tb 665 (by decide +kernel)), (tb 4 (by decide +kernel)), tb 666 (by decide +kernel)⟩, ⟨by decide +kernel, by decide +kernel⟩, by decide +kernel, by decide⟩
theorem kv_X7_67 : KV RX7 67 mX2_has 1 := ⟨rfl, ⟨tb 853 (by decide +kernel), (tb 854 (by decide +kernel)), (tb 855 (by decide +kernel)), (tb 4 (by decide +kernel)), tb 856 (by decide +kernel)⟩, ⟨by decide +kernel, by decide +kernel⟩, by decide +kernel, by decide⟩
theorem kv_X7_83 : KV RX7 83 mX2_drop 1 := ⟨rfl, ⟨tb 864 (by decide +kernel), (tb 865 (by decide +kernel)), (tb 866 (by decide +kernel)), (tb 4 (by decide +kernel)), tb 867 (by decide +kernel)⟩, ⟨by decide +kernel, by decide +kernel⟩, by decide +kernel, by decide⟩
theorem kv_X7_85 : KV RX7 85 mX3_has 1 := ⟨rfl, ⟨tb 879 (by decide +kernel), (tb 651 (by decide +kernel)), (tb 652 (by decide +kernel)), (tb 3 (by decide +kernel)), tb 653 (by decide +kernel)⟩, ⟨by decide +kernel, by decide +kernel⟩, by decide +kernel, by decide⟩
theorem kv_X7_92 : KV RX7 92 mX7_moveEntry 2 := ⟨rfl, ⟨tb 443 (by decide +kernel), (tb 445 (by decide +kernel)), (tp 8 (by decide +kernel)), (tb 2 (by decide +kernel)), tb 446 (by decide +kernel)⟩, ⟨by decide +kernel, by decide +kernel⟩, by decide +kernel, by decide⟩
theorem kv_X7_96 : KV RX7 96 mX7_passOneBeat 0 := ⟨rfl, ⟨tb 1010 (by decide +kernel), (tb 432 (by decide +kernel)), (tb 433 (by decide +kernel)), (tb 2 (by decide +kernel)), tb 434 (by decide +kernel)⟩, ⟨by decide +kernel, by decide +kernel⟩, by decide +kernel, by decide⟩
theorem kv_X7_100 : KV RX7 100 mX7_happenDueSteps 1 := ⟨rfl, ⟨tb 435 (by decide +kernel), (tb 437 (by decide +kernel)), (tp 6 (by decide +kernel)), (tb 2 (by decide +kernel)), tb 438 (by decide +kernel)⟩, ⟨by decide +kernel, by decide +kernel⟩, by decide +kernel, by decide⟩
theorem kv_X7_103 : KV RX7 103 mX7_dropFinishedEntries 0 := ⟨rfl, ⟨tb 439 (by decide +kernel), (tb 441 (by decide +kernel)), (tp 7 (by decide +kernel)), (tb 2 (by decide +kernel)), tb 442 (by decide +kernel)⟩, ⟨by decide +kernel, by decide +kernel⟩, by decide +kernel, by decide⟩
theorem kv_X7_106 : KV RX7 106 mX3_sumOfOpenings 0 := ⟨rfl, ⟨tb 447 (by decide +kernel), (tb 277 (by decide +kernel)), (tb 278 (by decide +kernel)), (tb 3 (by decide +kernel)), tb 279 (by decide +kernel)⟩, ⟨by decide +kernel, by decide +kernel⟩, by decide +kernel, by decide⟩
theorem kv_X7_109 : KV RX7 109 mX3_supplyFor 1 := ⟨rfl, ⟨tb 448 (by decide +kernel), (tb 377 (by decide +kernel)), (tb 378 (by decide +kernel)), (tb 3 (by decide +kernel)), tb 379 (by decide +kernel)⟩, ⟨by decide +kernel, by decide +kernel⟩, by decide +kernel, by decide⟩
theorem kn_X7_112 : KSN RX7 112 mX8_slot 2 "FountainShow" := ⟨rfl, ⟨tb 428 (by decide +kernel), (tb 429 (by decide +kernel)), (tb 1 (by decide +kernel)), tb 430 (by decide +kernel)⟩, ⟨by decide +kernel, by decide +kernel⟩, by decide +kernel, by decide⟩
theorem kv_X7_125 : KV RX7 125 mX2_lengthOf 1 := ⟨rfl, ⟨tb 409 (by decide +kernel), (tb 410 (by decide +kernel)), (tb 411 (by decide +kernel)), (tb 4 (by decide +kernel)), tb 412 (by decide +kernel)⟩, ⟨by decide +kernel, by decide +kernel⟩, by decide +kernel, by decide⟩
theorem kv_X7_136 : KV RX7 136 mX7_openingFromLastStep 2 := ⟨rfl, ⟨tb 424 (by decide +kernel), (tb 426 (by decide +kernel)), (tp 5 (by decide +kernel)), (tb 2 (by decide +kernel)), tb 427 (by decide +kernel)⟩, ⟨by decide +kernel, by decide +kernel⟩, by decide +kernel, by decide⟩
theorem kv_X7_149 : KV RX7 149 mX3_problemOfAdding 1 := ⟨rfl, ⟨tb 1483 (by decide +kernel), (tb 468 (by decide +kernel)), (tb 469 (by decide +kernel)), (tb 3 (by decide +kernel)), tb 470 (by decide +kernel)⟩, ⟨by decide +kernel, by decide +kernel⟩, by decide +kernel, by decide⟩
theorem kv_X7_153 : KV RX7 153 mX3_problemOfOpening 2 := ⟨rfl, ⟨tb 1484 (by decide +kernel), (tb 684 (by decide +kernel)), (tb 685 (by decide +kernel)), (tb 3 (by decide +kernel)), tb 686 (by decide +kernel)⟩, ⟨by decide +kernel, by decide +kernel⟩, by decide +kernel, by decide⟩
theorem kv_X7_157 : KV RX7 157 mX3_problemOfCapacity 1 := ⟨rfl, ⟨tb 1485 (by decide +kernel), (tb 803 (by decide +kernel)), (tb 804 (by decide +kernel)), (tb 3 (by decide +kernel)), tb 805 (by decide +kernel)⟩, ⟨by decide +kernel, by decide +kernel⟩, by decide +kernel, by decide⟩
theorem kv_X7_160 : KV RX7 160 mX3_problemOfWind 1 := ⟨rfl, ⟨tb 1486 (by decide +kernel), (tb 818 (by decide +kernel)), (tb 819 (by decide +kernel)), (tb 3 (by decide +kernel)), tb 820 (by decide +kernel)⟩, ⟨by decide +kernel, by decide +kernel⟩, by decide +kernel, by decide⟩
theorem kv_X7_163 : KV RX7 163 mX2_problemOfAdding 0 := ⟨rfl, ⟨tb 1487 (by decide +kernel), (tb 833 (by decide +kernel)), (tb 834 (by decide +kernel)), (tb 4 (by decide +kernel)), tb 835 (by decide +kernel)⟩, ⟨by decide +kernel, by decide +kernel⟩, by decide +kernel, by decide⟩
theorem kv_X7_166 : KV RX7 166 mX7_problemOfStep 4 := ⟨rfl, ⟨tb 1488 (by decide +kernel), (tb 876 (by decide +kernel)), (tb 877 (by decide +kernel)), (tb 2 (by decide +kernel)), tb 878 (by decide +kernel)⟩, ⟨by decide +kernel, by decide +kernel⟩, by decide +kernel, by decide⟩
theorem kv_X7_170 : KV RX7 170 mX7_problemOfPlaying 2 := ⟨rfl, ⟨tb 1489 (by decide +kernel), (tb 972 (by decide +kernel)), (tb 973 (by decide +kernel)), (tb 2 (by decide +kernel)), tb 974 (by decide +kernel)⟩, ⟨by decide +kernel, by decide +kernel⟩, by decide +kernel, by decide⟩
theorem kv_X7_173 : KV RX7 173 mX7_problemOfPassing 1 := ⟨rfl, ⟨tb 1490 (by decide +kernel), (tb 1003 (by decide +kernel)), (tb 1004 (by decide +kernel)), (tb 2 (by decide +kernel)), tb 1005 (by decide +kernel)⟩, ⟨by decide +kernel, by decide +kernel⟩, by decide +kernel, by decide⟩
theorem kv_X7_176 : KV RX7 176 mX3_append 1 := ⟨rfl, ⟨tb 1496 (by decide +kernel), (tb 615 (by decide +kernel)), (tb 616 (by decide +kernel)), (tb 3 (by decide +kernel)), tb 617 (by decide +kernel)⟩, ⟨by decide +kernel, by decide +kernel⟩, by decide +kernel, by decide⟩
theorem kv_X7_179 : KV RX7 179 mX3_changeOpening 2 := ⟨rfl, ⟨tb 1497 (by decide +kernel), (tb 691 (by decide +kernel)), (tb 692 (by decide +kernel)), (tb 3 (by decide +kernel)), tb 693 (by decide +kernel)⟩, ⟨by decide +kernel, by decide +kernel⟩, by decide +kernel, by decide⟩
theorem kv_X7_182 : KV RX7 182 mX3_changeCapacity 1 := ⟨rfl, ⟨tb 1498 (by decide +kernel), (tb 807 (by decide +kernel)), (tb 808 (by decide +kernel)), (tb 3 (by decide +kernel)), tb 809 (by decide +kernel)⟩, ⟨by decide +kernel, by decide +kernel⟩, by decide +kernel, by decide⟩
theorem kv_X7_185 : KV RX7 185 mX3_changeWind 1 := ⟨rfl, ⟨tb 1499 (by decide +kernel), (tb 822 (by decide +kernel)), (tb 823 (by decide +kernel)), (tb 3 (by decide +kernel)), tb 824 (by decide +kernel)⟩, ⟨by decide +kernel, by decide +kernel⟩, by decide +kernel, by decide⟩
theorem kv_X7_188 : KV RX7 188 mX3_closeWildJets 0 := ⟨rfl, ⟨tb 1500 (by decide +kernel), (tb 352 (by decide +kernel)), (tb 353 (by decide +kernel)), (tb 3 (by decide +kernel)), tb 354 (by decide +kernel)⟩, ⟨by decide +kernel, by decide +kernel⟩, by decide +kernel, by decide⟩
theorem kv_X7_191 : KV RX7 191 mX2_append 0 := ⟨rfl, ⟨tb 1501 (by decide +kernel), (tb 839 (by decide +kernel)), (tb 840 (by decide +kernel)), (tb 4 (by decide +kernel)), tb 841 (by decide +kernel)⟩, ⟨by decide +kernel, by decide +kernel⟩, by decide +kernel, by decide⟩
theorem kv_X7_193 : KV RX7 193 mX2_appendStep 4 := ⟨rfl, ⟨tb 1502 (by decide +kernel), (tb 882 (by decide +kernel)), (tb 883 (by decide +kernel)), (tb 4 (by decide +kernel)), tb 884 (by decide +kernel)⟩, ⟨by decide +kernel, by decide +kernel⟩, by decide +kernel, by decide⟩
theorem kv_X7_197 : KV RX7 197 mX7_appendEntry 2 := ⟨rfl, ⟨tb 1503 (by decide +kernel), (tb 976 (by decide +kernel)), (tb 977 (by decide +kernel)), (tb 2 (by decide +kernel)), tb 978 (by decide +kernel)⟩, ⟨by decide +kernel, by decide +kernel⟩, by decide +kernel, by decide⟩
theorem kv_X7_200 : KV RX7 200 mX7_passBeats 1 := ⟨rfl, ⟨tb 1504 (by decide +kernel), (tb 1007 (by decide +kernel)), (tb 1008 (by decide +kernel)), (tb 2 (by decide +kernel)), tb 1009 (by decide +kernel)⟩, ⟨by decide +kernel, by decide +kernel⟩, by decide +kernel, by decide⟩
theorem kv_L_7 : KV RL 7 mX8_addJet 1 := ⟨rfl, ⟨tb 463 (by decide +kernel), (tb 464 (by decide +kernel)), (tb 465 (by decide +kernel)), (tb 1 (by decide +kernel)), tb 466 (by decide +kernel)⟩, ⟨by decide +kernel, by decide +kernel⟩, by decide +kernel, by decide⟩
theorem kv_L_19 : KV RL 19 mX8_removeJet 1 := ⟨rfl, ⟨tb 642 (by decide +kernel), (tb 643 (by decide +kernel)), (tb 644 (by decide +kernel)), (tb 1 (by decide +kernel)), tb 645 (by decide +kernel)⟩, ⟨by decide +kernel, by decide +kernel⟩, by decide +kernel, by decide⟩
theorem kv_L_24 : KV RL 24 mX8_setOpening 2 := ⟨rfl, ⟨tb 679 (by decide +kernel), (tb 680 (by decide +kernel)), (tb 681 (by decide +kernel)), (tb 1 (by decide +kernel)), tb 682 (by decide +kernel)⟩, ⟨by decide +kernel, by decide +kernel⟩, by decide +kernel, by decide⟩
theorem kv_L_28 : KV RL 28 mX8_position 1 := ⟨rfl, ⟨tb 697 (by decide +kernel), (tb 698 (by decide +kernel)), (tb 699 (by decide +kernel)), (tb 1 (by decide +kernel)), tb 700 (by decide +kernel)⟩, ⟨by decide +kernel, by decide +kernel⟩, by decide +kernel, by decide⟩
theorem kv_L_31 : KV RL 31 mX8_opening 1 := ⟨rfl, ⟨tb 704 (by decide +kernel), (tb 705 (by decide +kernel)), (tb 706 (by decide +kernel)), (tb 1 (by decide +kernel)), tb 707 (by decide +kernel)⟩, ⟨by decide +kernel, by decide +kernel⟩, by decide +kernel, by decide⟩
theorem kv_L_34 : KV RL 34 mX8_height 1 := ⟨rfl, ⟨tb 711 (by decide +kernel), (tb 712 (by decide +kernel)), (tb 713 (by decide +kernel)), (tb 1 (by decide +kernel)), tb 714 (by decide +kernel)⟩, ⟨by decide +kernel, by decide +kernel⟩, by decide +kernel, by decide⟩
theorem kv_L_37 : KV RL 37 mX8_landing 1 := ⟨rfl, ⟨tb 719 (by decide +kernel), (tb 720 (by decide +kernel)), (tb 721 (by decide +kernel)), (tb 1 (by decide +kernel)), tb 722 (by decide +kernel)⟩, ⟨by decide +kernel, by decide +kernel⟩, by decide +kernel, by decide⟩
theorem kv_L_40 : KV RL 40 mX8_isWild 1 := ⟨rfl, ⟨tb 727 (by decide +kernel), (tb 728 (by decide +kernel)), (tb 729 (by decide +kernel)), (tb 1 (by decide +kernel)), tb 730 (by decide +kernel)⟩, ⟨by decide +kernel, by decide +kernel⟩, by decide +kernel, by decide⟩
theorem kv_L_44 : KV RL 44 mX8_highestJet 0 := ⟨rfl, ⟨tb 736 (by decide +kernel), (tb 737 (by decide +kernel)), (tb 738 (by decide +kernel)), (tb 1 (by decide +kernel)), tb 739 (by decide +kernel)⟩, ⟨by decide +kernel, by decide +kernel⟩, by decide +kernel, by decide⟩
theorem kv_L_50 : KV RL 50 mX8_jetByPosition 1 := ⟨rfl, ⟨tb 767 (by decide +kernel), (tb 768 (by decide +kernel)), (tb 769 (by decide +kernel)), (tb 1 (by decide +kernel)), tb 770 (by decide +kernel)⟩, ⟨by decide +kernel, by decide +kernel⟩, by decide +kernel, by decide⟩
theorem kv_L_53 : KV RL 53 mX8_nearestLanding 1 := ⟨rfl, ⟨tb 780 (by decide +kernel), (tb 781 (by decide +kernel)), (tb 782 (by decide +kernel)), (tb 1 (by decide +kernel)), tb 783 (by decide +kernel)⟩, ⟨by decide +kernel, by decide +kernel⟩, by decide +kernel, by decide⟩
theorem kv_L_56 : KV RL 56 mX8_setCapacity 1 := ⟨rfl, ⟨tb 798 (by decide +kernel), (tb 799 (by decide +kernel)), (tb 800 (by decide +kernel)), (tb 1 (by decide +kernel)), tb 801 (by decide +kernel)⟩, ⟨by decide +kernel, by decide +kernel⟩, by decide +kernel, by decide⟩
theorem kv_L_59 : KV RL 59 mX8_setWind 1 := ⟨rfl, ⟨tb 813 (by decide +kernel), (tb 814 (by decide +kernel)), (tb 815 (by decide +kernel)), (tb 1 (by decide +kernel)), tb 816 (by decide +kernel)⟩, ⟨by decide +kernel, by decide +kernel⟩, by decide +kernel, by decide⟩
theorem kv_L_62 : KV RL 62 mX8_addFigure 0 := ⟨rfl, ⟨tb 828 (by decide +kernel), (tb 829 (by decide +kernel)), (tb 830 (by decide +kernel)), (tb 1 (by decide +kernel)), tb 831 (by decide +kernel)⟩, ⟨by decide +kernel, by decide +kernel⟩, by decide +kernel, by decide⟩
theorem kv_L_65 : KV RL 65 mX8_removeFigure 1 := ⟨rfl, ⟨tb 845 (by decide +kernel), (tb 846 (by decide +kernel)), (tb 847 (by decide +kernel)), (tb 1 (by decide +kernel)), tb 848 (by decide +kernel)⟩, ⟨by decide +kernel, by decide +kernel⟩, by decide +kernel, by decide⟩
theorem kv_L_68 : KV RL 68 mX8_addStep 4 := ⟨rfl, ⟨tb 871 (by decide +kernel), (tb 872 (by decide +kernel)), (tb 873 (by decide +kernel)), (tb 1 (by decide +kernel)), tb 874 (by decide +kernel)⟩, ⟨by decide +kernel, by decide +kernel⟩, by decide +kernel, by decide⟩
theorem kv_L_72 : KV RL 72 mX8_removeStep 2 := ⟨rfl, ⟨tb 888 (by decide +kernel), (tb 889 (by decide +kernel)), (tb 890 (by decide +kernel)), (tb 1 (by decide +kernel)), tb 891 (by decide +kernel)⟩, ⟨by decide +kernel, by decide +kernel⟩, by decide +kernel, by decide⟩
theorem kv_L_75 : KV RL 75 mX8_stepCount 1 := ⟨rfl, ⟨tb 909 (by decide +kernel), (tb 910 (by decide +kernel)), (tb 911 (by decide +kernel)), (tb 1 (by decide +kernel)), tb 912 (by decide +kernel)⟩, ⟨by decide +kernel, by decide +kernel⟩, by decide +kernel, by decide⟩
theorem kv_L_78 : KV RL 78 mX8_stepDelay 2 := ⟨rfl, ⟨tb 922 (by decide +kernel), (tb 923 (by decide +kernel)), (tb 924 (by decide +kernel)), (tb 1 (by decide +kernel)), tb 925 (by decide +kernel)⟩, ⟨by decide +kernel, by decide +kernel⟩, by decide +kernel, by decide⟩
theorem kv_L_81 : KV RL 81 mX8_stepJet 2 := ⟨rfl, ⟨tb 930 (by decide +kernel), (tb 931 (by decide +kernel)), (tb 932 (by decide +kernel)), (tb 1 (by decide +kernel)), tb 933 (by decide +kernel)⟩, ⟨by decide +kernel, by decide +kernel⟩, by decide +kernel, by decide⟩
theorem kv_L_84 : KV RL 84 mX8_stepOpening 2 := ⟨rfl, ⟨tb 937 (by decide +kernel), (tb 938 (by decide +kernel)), (tb 939 (by decide +kernel)), (tb 1 (by decide +kernel)), tb 940 (by decide +kernel)⟩, ⟨by decide +kernel, by decide +kernel⟩, by decide +kernel, by decide⟩
theorem kv_L_87 : KV RL 87 mX8_figureLength 1 := ⟨rfl, ⟨tb 944 (by decide +kernel), (tb 945 (by decide +kernel)), (tb 946 (by decide +kernel)), (tb 1 (by decide +kernel)), tb 947 (by decide +kernel)⟩, ⟨by decide +kernel, by decide +kernel⟩, by decide +kernel, by decide⟩
theorem kv_L_90 : KV RL 90 mX8_figuresUsing 1 := ⟨rfl, ⟨tb 952 (by decide +kernel), (tb 953 (by decide +kernel)), (tb 954 (by decide +kernel)), (tb 1 (by decide +kernel)), tb 955 (by decide +kernel)⟩, ⟨by decide +kernel, by decide +kernel⟩, by decide +kernel, by decide⟩
theorem kv_L_93 : KV RL 93 mX8_play 2 := ⟨rfl, ⟨tb 967 (by decide +kernel), (tb 968 (by decide +kernel)), (tb 969 (by decide +kernel)), (tb 1 (by decide +kernel)), tb 970 (by decide +kernel)⟩, ⟨by decide +kernel, by decide +kernel⟩, by decide +kernel, by decide⟩
theorem kv_L_96 : KV RL 96 mX8_cancel 1 := ⟨rfl, ⟨tb 982 (by decide +kernel), (tb 983 (by decide +kernel)), (tb 984 (by decide +kernel)), (tb 1 (by decide +kernel)), tb 985 (by decide +kernel)⟩, ⟨by decide +kernel, by decide +kernel⟩, by decide +kernel, by decide⟩
theorem kv_L_99 : KV RL 99 mX8_pass 1 := ⟨rfl, ⟨tb 998 (by decide +kernel), (tb 999 (by decide +kernel)), (tb 1000 (by decide +kernel)), (tb 1 (by decide +kernel)), tb 1001 (by decide +kernel)⟩, ⟨by decide +kernel, by decide +kernel⟩, by decide +kernel, by decide⟩
theorem kv_L_102 : KV RL 102 mX8_entryFigure 1 := ⟨rfl, ⟨tb 1014 (by decide +kernel), (tb 1015 (by decide +kernel)), (tb 1016 (by decide +kernel)), (tb 1 (by decide +kernel)), tb 1017 (by decide +kernel)⟩, ⟨by decide +kernel, by decide +kernel⟩, by decide +kernel, by decide⟩
theorem kv_L_105 : KV RL 105 mX8_entryStart 1 := ⟨rfl, ⟨tb 1021 (by decide +kernel), (tb 1022 (by decide +kernel)), (tb 1023 (by decide +kernel)), (tb 1 (by decide +kernel)), tb 1024 (by decide +kernel)⟩, ⟨by decide +kernel, by decide +kernel⟩, by decide +kernel, by decide⟩
theorem kv_L_108 : KV RL 108 mX8_demandAfter 1 := ⟨rfl, ⟨tb 1028 (by decide +kernel), (tb 1029 (by decide +kernel)), (tb 1030 (by decide +kernel)), (tb 1 (by decide +kernel)), tb 1031 (by decide +kernel)⟩, ⟨by decide +kernel, by decide +kernel⟩, by decide +kernel, by decide⟩
theorem kv_L_111 : KV RL 111 mX8_demandAfterBySteps 1 := ⟨rfl, ⟨tb 1039 (by decide +kernel), (tb 1040 (by decide +kernel)), (tb 1041 (by decide +kernel)), (tb 1 (by decide +kernel)), tb 1042 (by decide +kernel)⟩, ⟨by decide +kernel, by decide +kernel⟩, by decide +kernel, by decide⟩
theorem kv_L_114 : KV RL 114 mX8_firstOverload 1 := ⟨rfl, ⟨tb 1046 (by decide +kernel), (tb 1047 (by decide +kernel)), (tb 1048 (by decide +kernel)), (tb 1 (by decide +kernel)), tb 1049 (by decide +kernel)⟩, ⟨by decide +kernel, by decide +kernel⟩, by decide +kernel, by decide⟩
theorem kv_L_117 : KV RL 117 mX8_meanOpening 0 := ⟨rfl, ⟨tb 1068 (by decide +kernel), (tb 1069 (by decide +kernel)), (tb 1070 (by decide +kernel)), (tb 1 (by decide +kernel)), tb 1071 (by decide +kernel)⟩, ⟨by decide +kernel, by decide +kernel⟩, by decide +kernel, by decide⟩
theorem kv_L_123 : KV RL 123 mX8_supplyFraction 0 := ⟨rfl, ⟨tb 1077 (by decide +kernel), (tb 1078 (by decide +kernel)), (tb 1079 (by decide +kernel)), (tb 1 (by decide +kernel)), tb 1080 (by decide +kernel)⟩, ⟨by decide +kernel, by decide +kernel⟩, by decide +kernel, by decide⟩
theorem kv_L_127 : KV RL 127 mX8_writeFigure 1 := ⟨rfl, ⟨tb 1085 (by decide +kernel), (tb 1086 (by decide +kernel)), (tb 1087 (by decide +kernel)), (tb 1 (by decide +kernel)), tb 1088 (by decide +kernel)⟩, ⟨by decide +kernel, by decide +kernel⟩, by decide +kernel, by decide⟩
theorem kv_L_130 : KV RL 130 mX8_outputCharacter 1 := ⟨rfl, ⟨tb 1371 (by decide +kernel), (tb 1372 (by decide +kernel)), (tb 1373 (by decide +kernel)), (tb 1 (by decide +kernel)), tb 1374 (by decide +kernel)⟩, ⟨by decide +kernel, by decide +kernel⟩, by decide +kernel, by decide⟩
theorem kv_L_134 : KV RL 134 mX8_feed 1 := ⟨rfl, ⟨tb 1389 (by decide +kernel), (tb 1390 (by decide +kernel)), (tb 1391 (by decide +kernel)), (tb 1 (by decide +kernel)), tb 1392 (by decide +kernel)⟩, ⟨by decide +kernel, by decide +kernel⟩, by decide +kernel, by decide⟩
theorem kv_L_138 : KV RL 138 mX8_execute 0 := ⟨rfl, ⟨tb 1405 (by decide +kernel), (tb 1406 (by decide +kernel)), (tb 1407 (by decide +kernel)), (tb 1 (by decide +kernel)), tb 1408 (by decide +kernel)⟩, ⟨by decide +kernel, by decide +kernel⟩, by decide +kernel, by decide⟩
theorem kv_L_141 : KV RL 141 mX8_errorPosition 0 := ⟨rfl, ⟨tb 1510 (by decide +kernel), (tb 1511 (by decide +kernel)), (tb 1512 (by decide +kernel)), (tb 1 (by decide +kernel)), tb 1513 (by decide +kernel)⟩, ⟨by decide +kernel, by decide +kernel⟩, by decide +kernel, by decide⟩
theorem kv_L_144 : KV RL 144 mX8_failedCommand 0 := ⟨rfl, ⟨tb 1518 (by decide +kernel), (tb 1519 (by decide +kernel)), (tb 1520 (by decide +kernel)), (tb 1 (by decide +kernel)), tb 1521 (by decide +kernel)⟩, ⟨by decide +kernel, by decide +kernel⟩, by decide +kernel, by decide⟩
theorem kv_L_147 : KV RL 147 mX8_undo 0 := ⟨rfl, ⟨tb 1526 (by decide +kernel), (tb 1527 (by decide +kernel)), (tb 1528 (by decide +kernel)), (tb 1 (by decide +kernel)), tb 1529 (by decide +kernel)⟩, ⟨by decide +kernel, by decide +kernel⟩, by decide +kernel, by decide⟩
theorem kv_L_150 : KV RL 150 mX8_restore 0 := ⟨rfl, ⟨tb 1534 (by decide +kernel), (tb 1535 (by decide +kernel)), (tb 1536 (by decide +kernel)), (tb 1 (by decide +kernel)), tb 1537 (by decide +kernel)⟩, ⟨by decide +kernel, by decide +kernel⟩, by decide +kernel, by decide⟩
theorem kv_L_153 : KI RL 153 mX8_init 0 := ⟨rfl, ⟨tb 37 (by decide +kernel), (tb 38 (by decide +kernel)), rfl, rfl, (tb 1 (by decide +kernel)), tb 39 (by decide +kernel)⟩, ⟨by decide +kernel, by decide +kernel⟩, by decide +kernel, by decide⟩
theorem kv_L_156 : KI RL 156 mX9_init 0 := ⟨rfl, ⟨tb 1541 (by decide +kernel), (tb 1542 (by decide +kernel)), rfl, rfl, (tb 13 (by decide +kernel)), tb 1543 (by decide +kernel)⟩, ⟨by decide +kernel, by decide +kernel⟩, by decide +kernel, by decide⟩
theorem kv_L_162 : KV RL 162 mX9_addJet 1 := ⟨rfl, ⟨tb 1610 (by decide +kernel), (tb 1611 (by decide +kernel)), (tb 1612 (by decide +kernel)), (tb 13 (by decide +kernel)), tb 1613 (by decide +kernel)⟩, ⟨by decide +kernel, by decide +kernel⟩, by decide +kernel, by decide⟩
theorem kv_L_163 : KV RL 163 mX9_thrown 0 := ⟨rfl, ⟨tb 1606 (by decide +kernel), (tb 1607 (by decide +kernel)), (tb 1608 (by decide +kernel)), (tb 13 (by decide +kernel)), tb 1609 (by decide +kernel)⟩, ⟨by decide +kernel, by decide +kernel⟩, by decide +kernel, by decide⟩
theorem kv_L_168 : KV RL 168 mX9_removeJet 1 := ⟨rfl, ⟨tb 1645 (by decide +kernel), (tb 1646 (by decide +kernel)), (tb 1647 (by decide +kernel)), (tb 13 (by decide +kernel)), tb 1648 (by decide +kernel)⟩, ⟨by decide +kernel, by decide +kernel⟩, by decide +kernel, by decide⟩
theorem kv_L_172 : KV RL 172 mX9_setOpening 2 := ⟨rfl, ⟨tb 1669 (by decide +kernel), (tb 1670 (by decide +kernel)), (tb 1671 (by decide +kernel)), (tb 13 (by decide +kernel)), tb 1672 (by decide +kernel)⟩, ⟨by decide +kernel, by decide +kernel⟩, by decide +kernel, by decide⟩
theorem kv_L_173 : KV RL 173 mX8_jetCount 0 := ⟨rfl, ⟨tb 264 (by decide +kernel), (tb 265 (by decide +kernel)), (tb 266 (by decide +kernel)), (tb 1 (by decide +kernel)), tb 267 (by decide +kernel)⟩, ⟨by decide +kernel, by decide +kernel⟩, by decide +kernel, by decide⟩
theorem kv_L_176 : KV RL 176 mX9_jetCount 0 := ⟨rfl, ⟨tb 1681 (by decide +kernel), (tb 1682 (by decide +kernel)), (tb 1683 (by decide +kernel)), (tb 13 (by decide +kernel)), tb 1684 (by decide +kernel)⟩, ⟨by decide +kernel, by decide +kernel⟩, by decide +kernel, by decide⟩
theorem kv_L_179 : KV RL 179 mX9_position 1 := ⟨rfl, ⟨tb 1685 (by decide +kernel), (tb 1686 (by decide +kernel)), (tb 1687 (by decide +kernel)), (tb 13 (by decide +kernel)), tb 1688 (by decide +kernel)⟩, ⟨by decide +kernel, by decide +kernel⟩, by decide +kernel, by decide⟩
theorem kv_L_182 : KV RL 182 mX9_opening 1 := ⟨rfl, ⟨tb 1693 (by decide +kernel), (tb 1694 (by decide +kernel)), (tb 1695 (by decide +kernel)), (tb 13 (by decide +kernel)), tb 1696 (by decide +kernel)⟩, ⟨by decide +kernel, by decide +kernel⟩, by decide +kernel, by decide⟩
theorem kv_L_185 : KV RL 185 mX9_height 1 := ⟨rfl, ⟨tb 1697 (by decide +kernel), (tb 1698 (by decide +kernel)), (tb 1699 (by decide +kernel)), (tb 13 (by decide +kernel)), tb 1700 (by decide +kernel)⟩, ⟨by decide +kernel, by decide +kernel⟩, by decide +kernel, by decide⟩
theorem kv_L_188 : KV RL 188 mX9_landing 1 := ⟨rfl, ⟨tb 1709 (by decide +kernel), (tb 1710 (by decide +kernel)), (tb 1711 (by decide +kernel)), (tb 13 (by decide +kernel)), tb 1712 (by decide +kernel)⟩, ⟨by decide +kernel, by decide +kernel⟩, by decide +kernel, by decide⟩
theorem kv_L_191 : KV RL 191 mX9_isWild 1 := ⟨rfl, ⟨tb 1717 (by decide +kernel), (tb 1718 (by decide +kernel)), (tb 1719 (by decide +kernel)), (tb 13 (by decide +kernel)), tb 1720 (by decide +kernel)⟩, ⟨by decide +kernel, by decide +kernel⟩, by decide +kernel, by decide⟩
theorem kv_L_192 : KV RL 192 mX8_wildCount 0 := ⟨rfl, ⟨tb 268 (by decide +kernel), (tb 269 (by decide +kernel)), (tb 270 (by decide +kernel)), (tb 1 (by decide +kernel)), tb 271 (by decide +kernel)⟩, ⟨by decide +kernel, by decide +kernel⟩, by decide +kernel, by decide⟩
theorem kv_L_195 : KV RL 195 mX9_wildCount 0 := ⟨rfl, ⟨tb 1725 (by decide +kernel), (tb 1726 (by decide +kernel)), (tb 1727 (by decide +kernel)), (tb 13 (by decide +kernel)), tb 1728 (by decide +kernel)⟩, ⟨by decide +kernel, by decide +kernel⟩, by decide +kernel, by decide⟩
theorem kv_L_199 : KV RL 199 mX9_highestJet 0 := ⟨rfl, ⟨tb 1729 (by decide +kernel), (tb 1730 (by decide +kernel)), (tb 1731 (by decide +kernel)), (tb 13 (by decide +kernel)), tb 1732 (by decide +kernel)⟩, ⟨by decide +kernel, by decide +kernel⟩, by decide +kernel, by decide⟩
theorem kv_L_202 : KV RL 202 mX9_jetByPosition 1 := ⟨rfl, ⟨tb 1733 (by decide +kernel), (tb 1734 (by decide +kernel)), (tb 1735 (by decide +kernel)), (tb 13 (by decide +kernel)), tb 1736 (by decide +kernel)⟩, ⟨by decide +kernel, by decide +kernel⟩, by decide +kernel, by decide⟩
theorem kv_L_205 : KV RL 205 mX9_nearestLanding 1 := ⟨rfl, ⟨tb 1737 (by decide +kernel), (tb 1738 (by decide +kernel)), (tb 1739 (by decide +kernel)), (tb 13 (by decide +kernel)), tb 1740 (by decide +kernel)⟩, ⟨by decide +kernel, by decide +kernel⟩, by decide +kernel, by decide⟩
theorem kv_L_206 : KV RL 206 mX8_crossings 0 := ⟨rfl, ⟨tb 291 (by decide +kernel), (tb 292 (by decide +kernel)), (tb 293 (by decide +kernel)), (tb 1 (by decide +kernel)), tb 294 (by decide +kernel)⟩, ⟨by decide +kernel, by decide +kernel⟩, by decide +kernel, by decide⟩
theorem kv_L_209 : KV RL 209 mX9_crossings 0 := ⟨rfl, ⟨tb 1745 (by decide +kernel), (tb 1746 (by decide +kernel)), (tb 1747 (by decide +kernel)), (tb 13 (by decide +kernel)), tb 1748 (by decide +kernel)⟩, ⟨by decide +kernel, by decide +kernel⟩, by decide +kernel, by decide⟩
theorem kv_L_210 : KV RL 210 mX8_crossingsByMerging 0 := ⟨rfl, ⟨tb 299 (by decide +kernel), (tb 300 (by decide +kernel)), (tb 301 (by decide +kernel)), (tb 1 (by decide +kernel)), tb 302 (by decide +kernel)⟩, ⟨by decide +kernel, by decide +kernel⟩, by decide +kernel, by decide⟩
theorem kv_L_213 : KV RL 213 mX9_crossingsByMerging 0 := ⟨rfl, ⟨tb 1749 (by decide +kernel), (tb 1750 (by decide +kernel)), (tb 1751 (by decide +kernel)), (tb 13 (by decide +kernel)), tb 1752 (by decide +kernel)⟩, ⟨by decide +kernel, by decide +kernel⟩, by decide +kernel, by decide⟩
theorem kv_L_216 : KV RL 216 mX9_setCapacity 1 := ⟨rfl, ⟨tb 1754 (by decide +kernel), (tb 1755 (by decide +kernel)), (tb 1756 (by decide +kernel)), (tb 13 (by decide +kernel)), tb 1757 (by decide +kernel)⟩, ⟨by decide +kernel, by decide +kernel⟩, by decide +kernel, by decide⟩
theorem kv_L_219 : KV RL 219 mX9_setWind 1 := ⟨rfl, ⟨tb 1762 (by decide +kernel), (tb 1763 (by decide +kernel)), (tb 1764 (by decide +kernel)), (tb 13 (by decide +kernel)), tb 1765 (by decide +kernel)⟩, ⟨by decide +kernel, by decide +kernel⟩, by decide +kernel, by decide⟩
theorem kv_L_220 : KV RL 220 mX8_trim 0 := ⟨rfl, ⟨tb 327 (by decide +kernel), (tb 328 (by decide +kernel)), (tb 329 (by decide +kernel)), (tb 1 (by decide +kernel)), tb 330 (by decide +kernel)⟩, ⟨by decide +kernel, by decide +kernel⟩, by decide +kernel, by decide⟩
theorem kv_L_223 : KV RL 223 mX9_trim 0 := ⟨rfl, ⟨tb 1770 (by decide +kernel), (tb 1771 (by decide +kernel)), (tb 1772 (by decide +kernel)), (tb 13 (by decide +kernel)), tb 1773 (by decide +kernel)⟩, ⟨by decide +kernel, by decide +kernel⟩, by decide +kernel, by decide⟩
theorem kv_L_224 : KV RL 224 mX8_capacity 0 := ⟨rfl, ⟨tb 359 (by decide +kernel), (tb 360 (by decide +kernel)), (tb 361 (by decide +kernel)), (tb 1 (by decide +kernel)), tb 362 (by decide +kernel)⟩, ⟨by decide +kernel, by decide +kernel⟩, by decide +kernel, by decide⟩
theorem kv_L_227 : KV RL 227 mX9_capacity 0 := ⟨rfl, ⟨tb 1778 (by decide +kernel), (tb 1779 (by decide +kernel)), (tb 1780 (by decide +kernel)), (tb 13 (by decide +kernel)), tb 1781 (by decide +kernel)⟩, ⟨by decide +kernel, by decide +kernel⟩, by decide +kernel, by decide⟩
theorem kv_L_228 : KV RL 228 mX8_wind 0 := ⟨rfl, ⟨tb 363 (by decide +kernel), (tb 364 (by decide +kernel)), (tb 365 (by decide +kernel)), (tb 1 (by decide +kernel)), tb 366 (by decide +kernel)⟩, ⟨by decide +kernel, by decide +kernel⟩, by decide +kernel, by decide⟩
theorem kv_L_231 : KV RL 231 mX9_wind 0 := ⟨rfl, ⟨tb 1782 (by decide +kernel), (tb 1783 (by decide +kernel)), (tb 1784 (by decide +kernel)), (tb 13 (by decide +kernel)), tb 1785 (by decide +kernel)⟩, ⟨by decide +kernel, by decide +kernel⟩, by decide +kernel, by decide⟩
theorem kv_L_232 : KV RL 232 mX8_demand 0 := ⟨rfl, ⟨tb 367 (by decide +kernel), (tb 368 (by decide +kernel)), (tb 369 (by decide +kernel)), (tb 1 (by decide +kernel)), tb 370 (by decide +kernel)⟩, ⟨by decide +kernel, by decide +kernel⟩, by decide +kernel, by decide⟩
theorem kv_L_235 : KV RL 235 mX9_demand 0 := ⟨rfl, ⟨tb 1786 (by decide +kernel), (tb 1787 (by decide +kernel)), (tb 1788 (by decide +kernel)), (tb 13 (by decide +kernel)), tb 1789 (by decide +kernel)⟩, ⟨by decide +kernel, by decide +kernel⟩, by decide +kernel, by decide⟩
theorem kv_L_236 : KV RL 236 mX8_supply 0 := ⟨rfl, ⟨tb 372 (by decide +kernel), (tb 373 (by decide +kernel)), (tb 374 (by decide +kernel)), (tb 1 (by decide +kernel)), tb 375 (by decide +kernel)⟩, ⟨by decide +kernel, by decide +kernel⟩, by decide +kernel, by decide⟩
theorem kv_L_239 : KV RL 239 mX9_supply 0 := ⟨rfl, ⟨tb 1790 (by decide +kernel), (tb 1791 (by decide +kernel)), (tb 1792 (by decide +kernel)), (tb 13 (by decide +kernel)), tb 1793 (by decide +kernel)⟩, ⟨by decide +kernel, by decide +kernel⟩, by decide +kernel, by decide⟩
theorem kv_L_240 : KV RL 240 mX8_pumped 0 := ⟨rfl, ⟨tb 381 (by decide +kernel), (tb 382 (by decide +kernel)), (tb 383 (by decide +kernel)), (tb 1 (by decide +kernel)), tb 384 (by decide +kernel)⟩, ⟨by decide +kernel, by decide +kernel⟩, by decide +kernel, by decide⟩
theorem kv_L_244 : KV RL 244 mX9_pumped 0 := ⟨rfl, ⟨tb 1798 (by decide +kernel), (tb 1799 (by decide +kernel)), (tb 1800 (by decide +kernel)), (tb 13 (by decide +kernel)), tb 1801 (by decide +kernel)⟩, ⟨by decide +kernel, by decide +kernel⟩, by decide +kernel, by decide⟩
theorem kv_L_245 : KV RL 245 mX8_shortage 0 := ⟨rfl, ⟨tb 385 (by decide +kernel), (tb 386 (by decide +kernel)), (tb 387 (by decide +kernel)), (tb 1 (by decide +kernel)), tb 388 (by decide +kernel)⟩, ⟨by decide +kernel, by decide +kernel⟩, by decide +kernel, by decide⟩
theorem kv_L_248 : KV RL 248 mX9_shortage 0 := ⟨rfl, ⟨tb 1802 (by decide +kernel), (tb 1803 (by decide +kernel)), (tb 1804 (by decide +kernel)), (tb 13 (by decide +kernel)), tb 1805 (by decide +kernel)⟩, ⟨by decide +kernel, by decide +kernel⟩, by decide +kernel, by decide⟩
theorem kv_L_251 : KV RL 251 mX9_addFigure 0 := ⟨rfl, ⟨tb 1806 (by decide +kernel), (tb 1807 (by decide +kernel)), (tb 1808 (by decide +kernel)), (tb 13 (by decide +kernel)), tb 1809 (by decide +kernel)⟩, ⟨by decide +kernel, by decide +kernel⟩, by decide +kernel, by decide⟩
theorem kv_L_254 : KV RL 254 mX9_removeFigure 1 := ⟨rfl, ⟨tb 1814 (by decide +kernel), (tb 1815 (by decide +kernel)), (tb 1816 (by decide +kernel)), (tb 13 (by decide +kernel)), tb 1817 (by decide +kernel)⟩, ⟨by decide +kernel, by decide +kernel⟩, by decide +kernel, by decide⟩
theorem kv_L_258 : KV RL 258 mX9_addStep 4 := ⟨rfl, ⟨tb 1826 (by decide +kernel), (tb 1827 (by decide +kernel)), (tb 1828 (by decide +kernel)), (tb 13 (by decide +kernel)), tb 1829 (by decide +kernel)⟩, ⟨by decide +kernel, by decide +kernel⟩, by decide +kernel, by decide⟩
theorem kv_L_261 : KV RL 261 mX9_removeStep 2 := ⟨rfl, ⟨tb 1834 (by decide +kernel), (tb 1835 (by decide +kernel)), (tb 1836 (by decide +kernel)), (tb 13 (by decide +kernel)), tb 1837 (by decide +kernel)⟩, ⟨by decide +kernel, by decide +kernel⟩, by decide +kernel, by decide⟩
theorem kv_L_262 : KV RL 262 mX8_figureCount 0 := ⟨rfl, ⟨tb 389 (by decide +kernel), (tb 390 (by decide +kernel)), (tb 391 (by decide +kernel)), (tb 1 (by decide +kernel)), tb 392 (by decide +kernel)⟩, ⟨by decide +kernel, by decide +kernel⟩, by decide +kernel, by decide⟩
theorem kv_L_265 : KV RL 265 mX9_figureCount 0 := ⟨rfl, ⟨tb 1846 (by decide +kernel), (tb 1847 (by decide +kernel)), (tb 1848 (by decide +kernel)), (tb 13 (by decide +kernel)), tb 1849 (by decide +kernel)⟩, ⟨by decide +kernel, by decide +kernel⟩, by decide +kernel, by decide⟩
theorem kv_L_268 : KV RL 268 mX9_stepCount 1 := ⟨rfl, ⟨tb 1850 (by decide +kernel), (tb 1851 (by decide +kernel)), (tb 1852 (by decide +kernel)), (tb 13 (by decide +kernel)), tb 1853 (by decide +kernel)⟩, ⟨by decide +kernel, by decide +kernel⟩, by decide +kernel, by decide⟩
theorem kv_L_271 : KV RL 271 mX9_stepDelay 2 := ⟨rfl, ⟨tb 1854 (by decide +kernel), (tb 1855 (by decide +kernel)), (tb 1856 (by decide +kernel)), (tb 13 (by decide +kernel)), tb 1857 (by decide +kernel)⟩, ⟨by decide +kernel, by decide +kernel⟩, by decide +kernel, by decide⟩
theorem kv_L_274 : KV RL 274 mX9_stepJet 2 := ⟨rfl, ⟨tb 1862 (by decide +kernel), (tb 1863 (by decide +kernel)), (tb 1864 (by decide +kernel)), (tb 13 (by decide +kernel)), tb 1865 (by decide +kernel)⟩, ⟨by decide +kernel, by decide +kernel⟩, by decide +kernel, by decide⟩
theorem kv_L_277 : KV RL 277 mX9_stepOpening 2 := ⟨rfl, ⟨tb 1866 (by decide +kernel), (tb 1867 (by decide +kernel)), (tb 1868 (by decide +kernel)), (tb 13 (by decide +kernel)), tb 1869 (by decide +kernel)⟩, ⟨by decide +kernel, by decide +kernel⟩, by decide +kernel, by decide⟩
theorem kv_L_280 : KV RL 280 mX9_figureLength 1 := ⟨rfl, ⟨tb 1870 (by decide +kernel), (tb 1871 (by decide +kernel)), (tb 1872 (by decide +kernel)), (tb 13 (by decide +kernel)), tb 1873 (by decide +kernel)⟩, ⟨by decide +kernel, by decide +kernel⟩, by decide +kernel, by decide⟩
theorem kv_L_283 : KV RL 283 mX9_figuresUsing 1 := ⟨rfl, ⟨tb 1878 (by decide +kernel), (tb 1879 (by decide +kernel)), (tb 1880 (by decide +kernel)), (tb 13 (by decide +kernel)), tb 1881 (by decide +kernel)⟩, ⟨by decide +kernel, by decide +kernel⟩, by decide +kernel, by decide⟩
theorem kv_L_286 : KV RL 286 mX9_play 2 := ⟨rfl, ⟨tb 1886 (by decide +kernel), (tb 1887 (by decide +kernel)), (tb 1888 (by decide +kernel)), (tb 13 (by decide +kernel)), tb 1889 (by decide +kernel)⟩, ⟨by decide +kernel, by decide +kernel⟩, by decide +kernel, by decide⟩
theorem kv_L_289 : KV RL 289 mX9_cancel 1 := ⟨rfl, ⟨tb 1894 (by decide +kernel), (tb 1895 (by decide +kernel)), (tb 1896 (by decide +kernel)), (tb 13 (by decide +kernel)), tb 1897 (by decide +kernel)⟩, ⟨by decide +kernel, by decide +kernel⟩, by decide +kernel, by decide⟩
theorem kv_L_292 : KV RL 292 mX9_pass 1 := ⟨rfl, ⟨tb 1910 (by decide +kernel), (tb 1911 (by decide +kernel)), (tb 1912 (by decide +kernel)), (tb 13 (by decide +kernel)), tb 1913 (by decide +kernel)⟩, ⟨by decide +kernel, by decide +kernel⟩, by decide +kernel, by decide⟩
theorem kv_L_293 : KV RL 293 mX8_beat 0 := ⟨rfl, ⟨tb 393 (by decide +kernel), (tb 394 (by decide +kernel)), (tb 395 (by decide +kernel)), (tb 1 (by decide +kernel)), tb 396 (by decide +kernel)⟩, ⟨by decide +kernel, by decide +kernel⟩, by decide +kernel, by decide⟩
theorem kv_L_296 : KV RL 296 mX9_beat 0 := ⟨rfl, ⟨tb 1926 (by decide +kernel), (tb 1927 (by decide +kernel)), (tb 1928 (by decide +kernel)), (tb 13 (by decide +kernel)), tb 1929 (by decide +kernel)⟩, ⟨by decide +kernel, by decide +kernel⟩, by decide +kernel, by decide⟩
theorem kv_L_297 : KV RL 297 mX8_queueLength 0 := ⟨rfl, ⟨tb 397 (by decide +kernel), (tb 398 (by decide +kernel)), (tb 399 (by decide +kernel)), (tb 1 (by decide +kernel)), tb 400 (by decide +kernel)⟩, ⟨by decide +kernel, by decide +kernel⟩, by decide +kernel, by decide⟩
theorem kv_L_300 : KV RL 300 mX9_queueLength 0 := ⟨rfl, ⟨tb 1930 (by decide +kernel), (tb 1931 (by decide +kernel)), (tb 1932 (by decide +kernel)), (tb 13 (by decide +kernel)), tb 1933 (by decide +kernel)⟩, ⟨by decide +kernel, by decide +kernel⟩, by decide +kernel, by decide⟩
theorem kv_L_303 : KV RL 303 mX9_entryFigure 1 := ⟨rfl, ⟨tb 1934 (by decide +kernel), (tb 1935 (by decide +kernel)), (tb 1936 (by decide +kernel)), (tb 13 (by decide +kernel)), tb 1937 (by decide +kernel)⟩, ⟨by decide +kernel, by decide +kernel⟩, by decide +kernel, by decide⟩
theorem kv_L_306 : KV RL 306 mX9_entryStart 1 := ⟨rfl, ⟨tb 1942 (by decide +kernel), (tb 1943 (by decide +kernel)), (tb 1944 (by decide +kernel)), (tb 13 (by decide +kernel)), tb 1945 (by decide +kernel)⟩, ⟨by decide +kernel, by decide +kernel⟩, by decide +kernel, by decide⟩
theorem kv_L_307 : KV RL 307 mX8_beatsUntilEmpty 0 := ⟨rfl, ⟨tb 401 (by decide +kernel), (tb 402 (by decide +kernel)), (tb 403 (by decide +kernel)), (tb 1 (by decide +kernel)), tb 404 (by decide +kernel)⟩, ⟨by decide +kernel, by decide +kernel⟩, by decide +kernel, by decide⟩
theorem kv_L_310 : KV RL 310 mX9_beatsUntilEmpty 0 := ⟨rfl, ⟨tb 1946 (by decide +kernel), (tb 1947 (by decide +kernel)), (tb 1948 (by decide +kernel)), (tb 13 (by decide +kernel)), tb 1949 (by decide +kernel)⟩, ⟨by decide +kernel, by decide +kernel⟩, by decide +kernel, by decide⟩
theorem kv_L_313 : KV RL 313 mX9_demandAfter 1 := ⟨rfl, ⟨tb 1950 (by decide +kernel), (tb 1951 (by decide +kernel)), (tb 1952 (by decide +kernel)), (tb 13 (by decide +kernel)), tb 1953 (by decide +kernel)⟩, ⟨by decide +kernel, by decide +kernel⟩, by decide +kernel, by decide⟩
theorem kv_L_316 : KV RL 316 mX9_demandAfterBySteps 1 := ⟨rfl, ⟨tb 1962 (by decide +kernel), (tb 1963 (by decide +kernel)), (tb 1964 (by decide +kernel)), (tb 13 (by decide +kernel)), tb 1965 (by decide +kernel)⟩, ⟨by decide +kernel, by decide +kernel⟩, by decide +kernel, by decide⟩
theorem kv_L_319 : KV RL 319 mX9_firstOverload 1 := ⟨rfl, ⟨tb 1967 (by decide +kernel), (tb 1968 (by decide +kernel)), (tb 1969 (by decide +kernel)), (tb 13 (by decide +kernel)), tb 1970 (by decide +kernel)⟩, ⟨by decide +kernel, by decide +kernel⟩, by decide +kernel, by decide⟩
theorem kv_L_323 : KV RL 323 mX9_meanOpening 0 := ⟨rfl, ⟨tb 1971 (by decide +kernel), (tb 1972 (by decide +kernel)), (tb 1973 (by decide +kernel)), (tb 13 (by decide +kernel)), tb 1974 (by decide +kernel)⟩, ⟨by decide +kernel, by decide +kernel⟩, by decide +kernel, by decide⟩
theorem kv_L_326 : KV RL 326 mX9_supplyFraction 0 := ⟨rfl, ⟨tb 1975 (by decide +kernel), (tb 1976 (by decide +kernel)), (tb 1977 (by decide +kernel)), (tb 13 (by decide +kernel)), tb 1978 (by decide +kernel)⟩, ⟨by decide +kernel, by decide +kernel⟩, by decide +kernel, by decide⟩
theorem kv_L_329 : KV RL 329 mX9_writeFigure 1 := ⟨rfl, ⟨tb 1979 (by decide +kernel), (tb 1980 (by decide +kernel)), (tb 1981 (by decide +kernel)), (tb 13 (by decide +kernel)), tb 1982 (by decide +kernel)⟩, ⟨by decide +kernel, by decide +kernel⟩, by decide +kernel, by decide⟩
theorem kv_L_332 : KV RL 332 mX9_outputCharacter 1 := ⟨rfl, ⟨tb 1991 (by decide +kernel), (tb 1992 (by decide +kernel)), (tb 1993 (by decide +kernel)), (tb 13 (by decide +kernel)), tb 1994 (by decide +kernel)⟩, ⟨by decide +kernel, by decide +kernel⟩, by decide +kernel, by decide⟩
theorem kv_L_333 : KV RL 333 mX8_isConsistent 0 := ⟨rfl, ⟨tb 416 (by decide +kernel), (tb 417 (by decide +kernel)), (tb 418 (by decide +kernel)), (tb 1 (by decide +kernel)), tb 419 (by decide +kernel)⟩, ⟨by decide +kernel, by decide +kernel⟩, by decide +kernel, by decide⟩
theorem kv_L_337 : KV RL 337 mX9_isConsistent 0 := ⟨rfl, ⟨tb 1995 (by decide +kernel), (tb 1996 (by decide +kernel)), (tb 1997 (by decide +kernel)), (tb 13 (by decide +kernel)), tb 1998 (by decide +kernel)⟩, ⟨by decide +kernel, by decide +kernel⟩, by decide +kernel, by decide⟩
theorem kv_L_341 : KV RL 341 mX9_feed 1 := ⟨rfl, ⟨tb 1999 (by decide +kernel), (tb 2000 (by decide +kernel)), (tb 2001 (by decide +kernel)), (tb 13 (by decide +kernel)), tb 2002 (by decide +kernel)⟩, ⟨by decide +kernel, by decide +kernel⟩, by decide +kernel, by decide⟩
theorem kv_L_344 : KV RL 344 mX9_execute 0 := ⟨rfl, ⟨tb 2003 (by decide +kernel), (tb 2004 (by decide +kernel)), (tb 2005 (by decide +kernel)), (tb 13 (by decide +kernel)), tb 2006 (by decide +kernel)⟩, ⟨by decide +kernel, by decide +kernel⟩, by decide +kernel, by decide⟩
theorem kv_L_347 : KV RL 347 mX9_errorPosition 0 := ⟨rfl, ⟨tb 2053 (by decide +kernel), (tb 2054 (by decide +kernel)), (tb 2055 (by decide +kernel)), (tb 13 (by decide +kernel)), tb 2056 (by decide +kernel)⟩, ⟨by decide +kernel, by decide +kernel⟩, by decide +kernel, by decide⟩
theorem kv_L_350 : KV RL 350 mX9_failedCommand 0 := ⟨rfl, ⟨tb 2057 (by decide +kernel), (tb 2058 (by decide +kernel)), (tb 2059 (by decide +kernel)), (tb 13 (by decide +kernel)), tb 2060 (by decide +kernel)⟩, ⟨by decide +kernel, by decide +kernel⟩, by decide +kernel, by decide⟩
theorem kv_L_353 : KV RL 353 mX9_undo 0 := ⟨rfl, ⟨tb 2061 (by decide +kernel), (tb 2062 (by decide +kernel)), (tb 2063 (by decide +kernel)), (tb 13 (by decide +kernel)), tb 2064 (by decide +kernel)⟩, ⟨by decide +kernel, by decide +kernel⟩, by decide +kernel, by decide⟩
theorem kv_L_354 : KV RL 354 mX8_undoCount 0 := ⟨rfl, ⟨tb 449 (by decide +kernel), (tb 450 (by decide +kernel)), (tb 451 (by decide +kernel)), (tb 1 (by decide +kernel)), tb 452 (by decide +kernel)⟩, ⟨by decide +kernel, by decide +kernel⟩, by decide +kernel, by decide⟩
theorem kv_L_357 : KV RL 357 mX9_undoCount 0 := ⟨rfl, ⟨tb 2065 (by decide +kernel), (tb 2066 (by decide +kernel)), (tb 2067 (by decide +kernel)), (tb 13 (by decide +kernel)), tb 2068 (by decide +kernel)⟩, ⟨by decide +kernel, by decide +kernel⟩, by decide +kernel, by decide⟩
theorem kv_L_358 : KV RL 358 mX8_save 0 := ⟨rfl, ⟨tb 453 (by decide +kernel), (tb 454 (by decide +kernel)), (tb 455 (by decide +kernel)), (tb 1 (by decide +kernel)), tb 456 (by decide +kernel)⟩, ⟨by decide +kernel, by decide +kernel⟩, by decide +kernel, by decide⟩
theorem kv_L_361 : KV RL 361 mX9_save 0 := ⟨rfl, ⟨tb 2069 (by decide +kernel), (tb 2070 (by decide +kernel)), (tb 2071 (by decide +kernel)), (tb 13 (by decide +kernel)), tb 2072 (by decide +kernel)⟩, ⟨by decide +kernel, by decide +kernel⟩, by decide +kernel, by decide⟩
theorem kv_L_364 : KV RL 364 mX9_restore 0 := ⟨rfl, ⟨tb 2073 (by decide +kernel), (tb 2074 (by decide +kernel)), (tb 2075 (by decide +kernel)), (tb 13 (by decide +kernel)), tb 2076 (by decide +kernel)⟩, ⟨by decide +kernel, by decide +kernel⟩, by decide +kernel, by decide⟩
theorem kv_X9_50 : KV RX9 50 mX9_changed 1 := ⟨rfl, ⟨tb 1637 (by decide +kernel), (tb 1639 (by decide +kernel)), (tp 34 (by decide +kernel)), (tb 13 (by decide +kernel)), tb 1640 (by decide +kernel)⟩, ⟨by decide +kernel, by decide +kernel⟩, by decide +kernel, by decide⟩
theorem kv_X9_54 : KV RX9 54 mX9_fails 1 := ⟨rfl, ⟨tb 1641 (by decide +kernel), (tb 1643 (by decide +kernel)), (tp 35 (by decide +kernel)), (tb 13 (by decide +kernel)), tb 1644 (by decide +kernel)⟩, ⟨by decide +kernel, by decide +kernel⟩, by decide +kernel, by decide⟩
theorem kv_X9_57 : KS RX9 57 mX9_in 3 := ⟨rfl, ⟨tb 1622 (by decide +kernel), (tb 1623 (by decide +kernel)), (tb 13 (by decide +kernel)), tb 1624 (by decide +kernel)⟩, ⟨by decide +kernel, by decide +kernel⟩, by decide +kernel, by decide⟩
theorem kv_X9_61 : KV RX9 61 mX9_valve 1 := ⟨rfl, ⟨tb 1677 (by decide +kernel), (tb 1679 (by decide +kernel)), (tp 42 (by decide +kernel)), (tb 13 (by decide +kernel)), tb 1680 (by decide +kernel)⟩, ⟨by decide +kernel, by decide +kernel⟩, by decide +kernel, by decide⟩
theorem kv_X9_64 : KV RX9 64 mX9_asked 0 := ⟨rfl, ⟨tb 1705 (by decide +kernel), (tb 1707 (by decide +kernel)), (tp 45 (by decide +kernel)), (tb 13 (by decide +kernel)), tb 1708 (by decide +kernel)⟩, ⟨by decide +kernel, by decide +kernel⟩, by decide +kernel, by decide⟩
theorem kv_X9_68 : KV RX9 68 mX9_place 1 := ⟨rfl, ⟨tb 1625 (by decide +kernel), (tb 1627 (by decide +kernel)), (tp 31 (by decide +kernel)), (tb 13 (by decide +kernel)), tb 1628 (by decide +kernel)⟩, ⟨by decide +kernel, by decide +kernel⟩, by decide +kernel, by decide⟩
theorem kv_X9_71 : KV RX9 71 mX9_high 1 := ⟨rfl, ⟨tb 1701 (by decide +kernel), (tb 1703 (by decide +kernel)), (tp 44 (by decide +kernel)), (tb 13 (by decide +kernel)), tb 1704 (by decide +kernel)⟩, ⟨by decide +kernel, by decide +kernel⟩, by decide +kernel, by decide⟩
theorem kv_X9_74 : KV RX9 74 mX9_lands 1 := ⟨rfl, ⟨tb 1713 (by decide +kernel), (tb 1715 (by decide +kernel)), (tp 46 (by decide +kernel)), (tb 13 (by decide +kernel)), tb 1716 (by decide +kernel)⟩, ⟨by decide +kernel, by decide +kernel⟩, by decide +kernel, by decide⟩
theorem kv_X9_77 : KV RX9 77 mX9_steps 1 := ⟨rfl, ⟨tb 1657 (by decide +kernel), (tb 1659 (by decide +kernel)), (tp 38 (by decide +kernel)), (tb 13 (by decide +kernel)), tb 1660 (by decide +kernel)⟩, ⟨by decide +kernel, by decide +kernel⟩, by decide +kernel, by decide⟩
theorem kv_X9_80 : KV RX9 80 mX9_at 3 := ⟨rfl, ⟨tb 1661 (by decide +kernel), (tb 1663 (by decide +kernel)), (tp 39 (by decide +kernel)), (tb 13 (by decide +kernel)), tb 1664 (by decide +kernel)⟩, ⟨by decide +kernel, by decide +kernel⟩, by decide +kernel, by decide⟩
theorem kv_X9_84 : KV RX9 84 mX9_lasts 1 := ⟨rfl, ⟨tb 1874 (by decide +kernel), (tb 1876 (by decide +kernel)), (tp 60 (by decide +kernel)), (tb 13 (by decide +kernel)), tb 1877 (by decide +kernel)⟩, ⟨by decide +kernel, by decide +kernel⟩, by decide +kernel, by decide⟩
theorem kv_X9_87 : KV RX9 87 mX9_done 1 := ⟨rfl, ⟨tb 1629 (by decide +kernel), (tb 1631 (by decide +kernel)), (tp 32 (by decide +kernel)), (tb 13 (by decide +kernel)), tb 1632 (by decide +kernel)⟩, ⟨by decide +kernel, by decide +kernel⟩, by decide +kernel, by decide⟩
theorem kv_X9_90 : KV RX9 90 mX9_isJet 1 := ⟨rfl, ⟨tb 1653 (by decide +kernel), (tb 1655 (by decide +kernel)), (tp 37 (by decide +kernel)), (tb 13 (by decide +kernel)), tb 1656 (by decide +kernel)⟩, ⟨by decide +kernel, by decide +kernel⟩, by decide +kernel, by decide⟩
theorem kv_X9_94 : KV RX9 94 mX9_cuts 2 := ⟨rfl, ⟨tb 1665 (by decide +kernel), (tb 1667 (by decide +kernel)), (tp 40 (by decide +kernel)), (tb 13 (by decide +kernel)), tb 1668 (by decide +kernel)⟩, ⟨by decide +kernel, by decide +kernel⟩, by decide +kernel, by decide⟩
theorem kv_X9_98 : KV RX9 98 mX9_wild 1 := ⟨rfl, ⟨tb 1721 (by decide +kernel), (tb 1723 (by decide +kernel)), (tp 47 (by decide +kernel)), (tb 13 (by decide +kernel)), tb 1724 (by decide +kernel)⟩, ⟨by decide +kernel, by decide +kernel⟩, by decide +kernel, by decide⟩
theorem kv_X9_101 : KV RX9 101 mX9_isFigure 1 := ⟨rfl, ⟨tb 1822 (by decide +kernel), (tb 1824 (by decide +kernel)), (tp 55 (by decide +kernel)), (tb 13 (by decide +kernel)), tb 1825 (by decide +kernel)⟩, ⟨by decide +kernel, by decide +kernel⟩, by decide +kernel, by decide⟩
theorem kv_X9_104 : KV RX9 104 mX9_isStep 2 := ⟨rfl, ⟨tb 1842 (by decide +kernel), (tb 1844 (by decide +kernel)), (tp 58 (by decide +kernel)), (tb 13 (by decide +kernel)), tb 1845 (by decide +kernel)⟩, ⟨by decide +kernel, by decide +kernel⟩, by decide +kernel, by decide⟩
theorem kv_X9_108 : KV RX9 108 mX9_isEntry 1 := ⟨rfl, ⟨tb 1902 (by decide +kernel), (tb 1904 (by decide +kernel)), (tp 64 (by decide +kernel)), (tb 13 (by decide +kernel)), tb 1905 (by decide +kernel)⟩, ⟨by decide +kernel, by decide +kernel⟩, by decide +kernel, by decide⟩
theorem kv_X9_111 : KV RX9 111 mX9_drops 1 := ⟨rfl, ⟨tb 1906 (by decide +kernel), (tb 1908 (by decide +kernel)), (tp 65 (by decide +kernel)), (tb 13 (by decide +kernel)), tb 1909 (by decide +kernel)⟩, ⟨by decide +kernel, by decide +kernel⟩, by decide +kernel, by decide⟩
theorem kv_X9_115 : KV RX9 115 mX9_due 1 := ⟨rfl, ⟨tb 1922 (by decide +kernel), (tb 1924 (by decide +kernel)), (tp 68 (by decide +kernel)), (tb 13 (by decide +kernel)), tb 1925 (by decide +kernel)⟩, ⟨by decide +kernel, by decide +kernel⟩, by decide +kernel, by decide⟩
theorem kv_X9_118 : KV RX9 118 mX9_given 0 := ⟨rfl, ⟨tb 1794 (by decide +kernel), (tb 1796 (by decide +kernel)), (tp 52 (by decide +kernel)), (tb 13 (by decide +kernel)), tb 1797 (by decide +kernel)⟩, ⟨by decide +kernel, by decide +kernel⟩, by decide +kernel, by decide⟩
theorem kv_X9_121 : KV RX9 121 mX9_oneBeat 0 := ⟨rfl, ⟨tb 1918 (by decide +kernel), (tb 1920 (by decide +kernel)), (tp 67 (by decide +kernel)), (tb 13 (by decide +kernel)), tb 1921 (by decide +kernel)⟩, ⟨by decide +kernel, by decide +kernel⟩, by decide +kernel, by decide⟩
theorem kv_X9_124 : KV RX9 124 mX9_remembers 0 := ⟨rfl, ⟨tb 1614 (by decide +kernel), (tb 1616 (by decide +kernel)), (tp 29 (by decide +kernel)), (tb 13 (by decide +kernel)), tb 1617 (by decide +kernel)⟩, ⟨by decide +kernel, by decide +kernel⟩, by decide +kernel, by decide⟩
theorem kv_X9_127 : KV RX9 127 mX9_addsJet 1 := ⟨rfl, ⟨tb 1618 (by decide +kernel), (tb 1620 (by decide +kernel)), (tp 30 (by decide +kernel)), (tb 13 (by decide +kernel)), tb 1621 (by decide +kernel)⟩, ⟨by decide +kernel, by decide +kernel⟩, by decide +kernel, by decide⟩
theorem kv_X9_130 : KV RX9 130 mX9_ends 1 := ⟨rfl, ⟨tb 1633 (by decide +kernel), (tb 1635 (by decide +kernel)), (tp 33 (by decide +kernel)), (tb 13 (by decide +kernel)), tb 1636 (by decide +kernel)⟩, ⟨by decide +kernel, by decide +kernel⟩, by decide +kernel, by decide⟩
theorem kv_X9_133 : KV RX9 133 mX9_removesJet 1 := ⟨rfl, ⟨tb 1649 (by decide +kernel), (tb 1651 (by decide +kernel)), (tp 36 (by decide +kernel)), (tb 13 (by decide +kernel)), tb 1652 (by decide +kernel)⟩, ⟨by decide +kernel, by decide +kernel⟩, by decide +kernel, by decide⟩
theorem kv_X9_136 : KV RX9 136 mX9_opens 2 := ⟨rfl, ⟨tb 1673 (by decide +kernel), (tb 1675 (by decide +kernel)), (tp 41 (by decide +kernel)), (tb 13 (by decide +kernel)), tb 1676 (by decide +kernel)⟩, ⟨by decide +kernel, by decide +kernel⟩, by decide +kernel, by decide⟩
theorem kv_X9_140 : KV RX9 140 mX9_isAsked 1 := ⟨rfl, ⟨tb 1689 (by decide +kernel), (tb 1691 (by decide +kernel)), (tp 43 (by decide +kernel)), (tb 13 (by decide +kernel)), tb 1692 (by decide +kernel)⟩, ⟨by decide +kernel, by decide +kernel⟩, by decide +kernel, by decide⟩
theorem kv_X9_143 : KV RX9 143 mX9_away 2 := ⟨rfl, ⟨tb 1741 (by decide +kernel), (tb 1743 (by decide +kernel)), (tp 48 (by decide +kernel)), (tb 13 (by decide +kernel)), tb 1744 (by decide +kernel)⟩, ⟨by decide +kernel, by decide +kernel⟩, by decide +kernel, by decide⟩
theorem kv_X9_147 : KV RX9 147 mX9_crossings 0 := ⟨rfl, ⟨tb 1753 (by decide +kernel), (tb 1746 (by decide +kernel)), (tb 1747 (by decide +kernel)), (tb 13 (by decide +kernel)), tb 1748 (by decide +kernel)⟩, ⟨by decide +kernel, by decide +kernel⟩, by decide +kernel, by decide⟩
theorem kv_X9_150 : KV RX9 150 mX9_pumps 1 := ⟨rfl, ⟨tb 1758 (by decide +kernel), (tb 1760 (by decide +kernel)), (tp 49 (by decide +kernel)), (tb 13 (by decide +kernel)), tb 1761 (by decide +kernel)⟩, ⟨by decide +kernel, by decide +kernel⟩, by decide +kernel, by decide⟩
theorem kv_X9_153 : KV RX9 153 mX9_blows 1 := ⟨rfl, ⟨tb 1766 (by decide +kernel), (tb 1768 (by decide +kernel)), (tp 50 (by decide +kernel)), (tb 13 (by decide +kernel)), tb 1769 (by decide +kernel)⟩, ⟨by decide +kernel, by decide +kernel⟩, by decide +kernel, by decide⟩
theorem kv_X9_156 : KV RX9 156 mX9_trims 0 := ⟨rfl, ⟨tb 1774 (by decide +kernel), (tb 1776 (by decide +kernel)), (tp 51 (by decide +kernel)), (tb 13 (by decide +kernel)), tb 1777 (by decide +kernel)⟩, ⟨by decide +kernel, by decide +kernel⟩, by decide +kernel, by decide⟩
theorem kv_X9_159 : KV RX9 159 mX9_addsFigure 0 := ⟨rfl, ⟨tb 1810 (by decide +kernel), (tb 1812 (by decide +kernel)), (tp 53 (by decide +kernel)), (tb 13 (by decide +kernel)), tb 1813 (by decide +kernel)⟩, ⟨by decide +kernel, by decide +kernel⟩, by decide +kernel, by decide⟩
theorem kv_X9_162 : KV RX9 162 mX9_removesFigure 1 := ⟨rfl, ⟨tb 1818 (by decide +kernel), (tb 1820 (by decide +kernel)), (tp 54 (by decide +kernel)), (tb 13 (by decide +kernel)), tb 1821 (by decide +kernel)⟩, ⟨by decide +kernel, by decide +kernel⟩, by decide +kernel, by decide⟩
theorem kv_X9_165 : KV RX9 165 mX9_addsStep 4 := ⟨rfl, ⟨tb 1830 (by decide +kernel), (tb 1832 (by decide +kernel)), (tp 56 (by decide +kernel)), (tb 13 (by decide +kernel)), tb 1833 (by decide +kernel)⟩, ⟨by decide +kernel, by decide +kernel⟩, by decide +kernel, by decide⟩
theorem kv_X9_169 : KV RX9 169 mX9_removesStep 2 := ⟨rfl, ⟨tb 1838 (by decide +kernel), (tb 1840 (by decide +kernel)), (tp 57 (by decide +kernel)), (tb 13 (by decide +kernel)), tb 1841 (by decide +kernel)⟩, ⟨by decide +kernel, by decide +kernel⟩, by decide +kernel, by decide⟩
theorem kv_X9_172 : KV RX9 172 mX9_askedStep 3 := ⟨rfl, ⟨tb 1858 (by decide +kernel), (tb 1860 (by decide +kernel)), (tp 59 (by decide +kernel)), (tb 13 (by decide +kernel)), tb 1861 (by decide +kernel)⟩, ⟨by decide +kernel, by decide +kernel⟩, by decide +kernel, by decide⟩
theorem kv_X9_175 : KV RX9 175 mX9_uses 2 := ⟨rfl, ⟨tb 1882 (by decide +kernel), (tb 1884 (by decide +kernel)), (tp 61 (by decide +kernel)), (tb 13 (by decide +kernel)), tb 1885 (by decide +kernel)⟩, ⟨by decide +kernel, by decide +kernel⟩, by decide +kernel, by decide⟩
theorem kv_X9_178 : KV RX9 178 mX9_plays 2 := ⟨rfl, ⟨tb 1890 (by decide +kernel), (tb 1892 (by decide +kernel)), (tp 62 (by decide +kernel)), (tb 13 (by decide +kernel)), tb 1893 (by decide +kernel)⟩, ⟨by decide +kernel, by decide +kernel⟩, by decide +kernel, by decide⟩
theorem kv_X9_181 : KV RX9 181 mX9_cancels 1 := ⟨rfl, ⟨tb 1898 (by decide +kernel), (tb 1900 (by decide +kernel)), (tp 63 (by decide +kernel)), (tb 13 (by decide +kernel)), tb 1901 (by decide +kernel)⟩, ⟨by decide +kernel, by decide +kernel⟩, by decide +kernel, by decide⟩
theorem kv_X9_184 : KV RX9 184 mX9_passes 1 := ⟨rfl, ⟨tb 1914 (by decide +kernel), (tb 1916 (by decide +kernel)), (tp 66 (by decide +kernel)), (tb 13 (by decide +kernel)), tb 1917 (by decide +kernel)⟩, ⟨by decide +kernel, by decide +kernel⟩, by decide +kernel, by decide⟩
theorem kv_X9_187 : KV RX9 187 mX9_askedEntry 2 := ⟨rfl, ⟨tb 1938 (by decide +kernel), (tb 1940 (by decide +kernel)), (tp 69 (by decide +kernel)), (tb 13 (by decide +kernel)), tb 1941 (by decide +kernel)⟩, ⟨by decide +kernel, by decide +kernel⟩, by decide +kernel, by decide⟩
theorem kv_X9_190 : KV RX9 190 mX9_thinks 0 := ⟨rfl, ⟨tb 1954 (by decide +kernel), (tb 1956 (by decide +kernel)), (tp 70 (by decide +kernel)), (tb 13 (by decide +kernel)), tb 1957 (by decide +kernel)⟩, ⟨by decide +kernel, by decide +kernel⟩, by decide +kernel, by decide⟩
theorem kv_X9_193 : KV RX9 193 mX9_forgets 0 := ⟨rfl, ⟨tb 1958 (by decide +kernel), (tb 1960 (by decide +kernel)), (tp 71 (by decide +kernel)), (tb 13 (by decide +kernel)), tb 1961 (by decide +kernel)⟩, ⟨by decide +kernel, by decide +kernel⟩, by decide +kernel, by decide⟩
theorem kv_X9_196 : KV RX9 196 mX9_demandAfter 1 := ⟨rfl, ⟨tb 1966 (by decide +kernel), (tb 1951 (by decide +kernel)), (tb 1952 (by decide +kernel)), (tb 13 (by decide +kernel)), tb 1953 (by decide +kernel)⟩, ⟨by decide +kernel, by decide +kernel⟩, by decide +kernel, by decide⟩
theorem kv_X9_202 : KV RX9 202 mX9_writes 1 := ⟨rfl, ⟨tb 1983 (by decide +kernel), (tb 1985 (by decide +kernel)), (tp 72 (by decide +kernel)), (tb 13 (by decide +kernel)), tb 1986 (by decide +kernel)⟩, ⟨by decide +kernel, by decide +kernel⟩, by decide +kernel, by decide⟩
theorem kv_X9_205 : KV RX9 205 mX9_writesNumber 1 := ⟨rfl, ⟨tb 1987 (by decide +kernel), (tb 1989 (by decide +kernel)), (tp 73 (by decide +kernel)), (tb 13 (by decide +kernel)), tb 1990 (by decide +kernel)⟩, ⟨by decide +kernel, by decide +kernel⟩, by decide +kernel, by decide⟩
theorem kv_X9_225 : KV RX9 225 mX9_here 1 := ⟨rfl, ⟨tb 2011 (by decide +kernel), (tb 2013 (by decide +kernel)), (tp 75 (by decide +kernel)), (tb 13 (by decide +kernel)), tb 2014 (by decide +kernel)⟩, ⟨by decide +kernel, by decide +kernel⟩, by decide +kernel, by decide⟩
theorem kv_X9_235 : KV RX9 235 mX9_says 1 := ⟨rfl, ⟨tb 2020 (by decide +kernel), (tb 2022 (by decide +kernel)), (tp 77 (by decide +kernel)), (tb 13 (by decide +kernel)), tb 2023 (by decide +kernel)⟩, ⟨by decide +kernel, by decide +kernel⟩, by decide +kernel, by decide⟩
theorem kv_X9_239 : KV RX9 239 mX9_number 2 := ⟨rfl, ⟨tb 2026 (by decide +kernel), (tb 2028 (by decide +kernel)), (tp 78 (by decide +kernel)), (tb 13 (by decide +kernel)), tb 2029 (by decide +kernel)⟩, ⟨by decide +kernel, by decide +kernel⟩, by decide +kernel, by decide⟩
theorem kv_X9_242 : KV RX9 242 mX9_one 3 := ⟨rfl, ⟨tb 2016 (by decide +kernel), (tb 2018 (by decide +kernel)), (tp 76 (by decide +kernel)), (tb 13 (by decide +kernel)), tb 2019 (by decide +kernel)⟩, ⟨by decide +kernel, by decide +kernel⟩, by decide +kernel, by decide⟩
theorem kv_X9_254 : KV RX9 254 mX9_two 3 := ⟨rfl, ⟨tb 2032 (by decide +kernel), (tb 2034 (by decide +kernel)), (tp 79 (by decide +kernel)), (tb 13 (by decide +kernel)), tb 2035 (by decide +kernel)⟩, ⟨by decide +kernel, by decide +kernel⟩, by decide +kernel, by decide⟩
theorem kv_X9_266 : KV RX9 266 mX9_breeze 0 := ⟨rfl, ⟨tb 2040 (by decide +kernel), (tb 2042 (by decide +kernel)), (tp 80 (by decide +kernel)), (tb 13 (by decide +kernel)), tb 2043 (by decide +kernel)⟩, ⟨by decide +kernel, by decide +kernel⟩, by decide +kernel, by decide⟩
theorem kv_X9_277 : KV RX9 277 mX9_readsOne 0 := ⟨rfl, ⟨tb 2007 (by decide +kernel), (tb 2009 (by decide +kernel)), (tp 74 (by decide +kernel)), (tb 13 (by decide +kernel)), tb 2010 (by decide +kernel)⟩, ⟨by decide +kernel, by decide +kernel⟩, by decide +kernel, by decide⟩
theorem kv_X9_280 : KV RX9 280 mX9_does 1 := ⟨rfl, ⟨tb 2049 (by decide +kernel), (tb 2051 (by decide +kernel)), (tp 81 (by decide +kernel)), (tb 13 (by decide +kernel)), tb 2052 (by decide +kernel)⟩, ⟨by decide +kernel, by decide +kernel⟩, by decide +kernel, by decide⟩
end
section
/-! What the tables say of constants, library calls, makings and throws. -/
theorem i_J4 : ∀ w ∈ u_ws RJ4 TJ4 4, w ∈ lw_tbl := by
  intro w hw
  have h : w ∈ [217, 219, 221, 223].filterMap (fun i => tables_1[i]?) := by
    rw [show [217, 219, 221, 223].filterMap (fun i => tables_1[i]?) = u_ws RJ4 TJ4 4 from by decide +kernel]
    exact hw
  obtain ⟨i, -, hi⟩ := List.mem_filterMap.mp h
  exact tb i hi
theorem ko_X8_1 : KO RX8 1 := ⟨tb 40 (by decide +kernel), tb 41 (by decide +kernel), tb 42 (by decide +kernel)⟩
theorem kn_X8_7 : KN RX8 7 4 [.null, .null, .null, .null, .int 0, .int 0, .long 0, .long 0] := ⟨RX7, TX7, 8, tyX7, rfl, i_X7, tyX7_ok, tb 43 (by decide +kernel), tb 44 (by decide +kernel), tb 2 (by decide +kernel), by decide +kernel, rfl⟩
theorem kn_X8_37 : KN RX8 37 2 [.null, .null] := ⟨RX4, TX4, 2, tyX4, rfl, i_X4, tyX4_ok, tb 145 (by decide +kernel), tb 146 (by decide +kernel), tb 5 (by decide +kernel), by decide +kernel, rfl⟩
theorem kn_X8_44 : KN RX8 44 3 [.null, .int 0, .int 0, .int 0, .null, .null, .int 0] := ⟨RX6, TX6, 7, tyX6, rfl, i_X6, tyX6_ok, tb 158 (by decide +kernel), tb 159 (by decide +kernel), tb 6 (by decide +kernel), by decide +kernel, rfl⟩
theorem kn_X8_51 : KN RX8 51 7 [.null, .int 0, .int 0, .int 0] := ⟨RJ4, TJ4, 4, tyJ4, rfl, i_J4, tyJ4_ok, tb 194 (by decide +kernel), tb 195 (by decide +kernel), tb 10 (by decide +kernel), by decide +kernel, rfl⟩
theorem km_X8_355 : KM RX8 355 Lib.Math.min.name Lib.Math.min.code .int := ⟨tb 350 (by decide +kernel), tb 318 (by decide +kernel), tb 24 (by decide +kernel), tb 319 (by decide +kernel)⟩
theorem gs_X8_360 : Cond.fieldLink RX8 360 "FountainShow$1" "$SwitchMap$FountainShow$Problem" "[I" ∈ lw_tbl ∨ ∃ host, Cond.fieldLinkNest RX8 360 "FountainShow$1" "$SwitchMap$FountainShow$Problem" "[I" host ∈ lw_tbl := Or.inl (tb 486 (by decide +kernel))
theorem ku_X8_365 : KU RX8 365 "FountainShow$Problem" "java/lang/Enum" ⟨"FountainShow$Problem", "ordinal", "()I"⟩ mJx29ce0_ordinal_8abf5 0 := ⟨rfl, rfl, ⟨tb 488 (by decide +kernel), tb 489 (by decide +kernel), tb 491 (by decide +kernel), tb 492 (by decide +kernel), tb 7 (by decide +kernel), tb 493 (by decide +kernel)⟩, ⟨by decide, by decide⟩, by decide +kernel, by decide⟩
theorem gs_X8_416 : Cond.fieldLink RX8 416 "FountainShow$Problem" "NONE" "LFountainShow$Problem;" ∈ lw_tbl ∨ ∃ host, Cond.fieldLinkNest RX8 416 "FountainShow$Problem" "NONE" "LFountainShow$Problem;" host ∈ lw_tbl := Or.inl (tb 1491 (by decide +kernel))
theorem ko_X2_3 : KO RX2 3 := ⟨tb 85 (by decide +kernel), tb 41 (by decide +kernel), tb 42 (by decide +kernel)⟩
theorem ka_X2_28 : KA RX2 28 := ⟨tb 348 (by decide +kernel), tb 326 (by decide +kernel), tb 325 (by decide +kernel), tb 23 (by decide +kernel)⟩
theorem gs_X2_38 : Cond.fieldLink RX2 38 "FountainShow$Problem" "NONE" "LFountainShow$Problem;" ∈ lw_tbl ∨ ∃ host, Cond.fieldLinkNest RX2 38 "FountainShow$Problem" "NONE" "LFountainShow$Problem;" host ∈ lw_tbl := Or.inl (tb 836 (by decide +kernel))
theorem gs_X2_44 : Cond.fieldLink RX2 44 "FountainShow$Problem" "STATE" "LFountainShow$Problem;" ∈ lw_tbl ∨ ∃ host, Cond.fieldLinkNest RX2 44 "FountainShow$Problem" "STATE" "LFountainShow$Problem;" host ∈ lw_tbl := Or.inl (tb 837 (by decide +kernel))
theorem ko_X3_3 : KO RX3 3 := ⟨tb 54 (by decide +kernel), tb 41 (by decide +kernel), tb 42 (by decide +kernel)⟩
theorem ka_X3_28 : KA RX3 28 := ⟨tb 343 (by decide +kernel), tb 326 (by decide +kernel), tb 325 (by decide +kernel), tb 23 (by decide +kernel)⟩
theorem gs_X3_34 : Cond.fieldLink RX3 34 "FountainShow$Problem" "ARGUMENT" "LFountainShow$Problem;" ∈ lw_tbl ∨ ∃ host, Cond.fieldLinkNest RX3 34 "FountainShow$Problem" "ARGUMENT" "LFountainShow$Problem;" host ∈ lw_tbl := Or.inl (tb 471 (by decide +kernel))
theorem gs_X3_44 : Cond.fieldLink RX3 44 "FountainShow$Problem" "UNSUPPORTED" "LFountainShow$Problem;" ∈ lw_tbl ∨ ∃ host, Cond.fieldLinkNest RX3 44 "FountainShow$Problem" "UNSUPPORTED" "LFountainShow$Problem;" host ∈ lw_tbl := Or.inl (tb 477 (by decide +kernel))
theorem gs_X3_47 : Cond.fieldLink RX3 47 "FountainShow$Problem" "NONE" "LFountainShow$Problem;" ∈ lw_tbl ∨ ∃ host, Cond.fieldLinkNest RX3 47 "FountainShow$Problem" "NONE" "LFountainShow$Problem;" host ∈ lw_tbl := Or.inl (tb 479 (by decide +kernel))
theorem gs_X3_50 : Cond.fieldLink RX3 50 "FountainShow$Problem" "STATE" "LFountainShow$Problem;" ∈ lw_tbl ∨ ∃ host, Cond.fieldLinkNest RX3 50 "FountainShow$Problem" "STATE" "LFountainShow$Problem;" host ∈ lw_tbl := Or.inl (tb 481 (by decide +kernel))
theorem gs_X3_56 : Cond.fieldLink RX3 56 "FountainShow$Problem" "INDEX" "LFountainShow$Problem;" ∈ lw_tbl ∨ ∃ host, Cond.fieldLinkNest RX3 56 "FountainShow$Problem" "INDEX" "LFountainShow$Problem;" host ∈ lw_tbl := Or.inl (tb 688 (by decide +kernel))
theorem km_X3_59 : KM RX3 59 Lib.Math.min.name Lib.Math.min.code .int := ⟨tb 380 (by decide +kernel), tb 318 (by decide +kernel), tb 24 (by decide +kernel), tb 319 (by decide +kernel)⟩
theorem km_X3_89 : KM RX3 89 Lib.MathLoose.abs_long.x Lib.MathLoose.abs_long.code .long := ⟨tb 792 (by decide +kernel), tb 793 (by decide +kernel), tb 24 (by decide +kernel), tb 794 (by decide +kernel)⟩
theorem ko_X4_3 : KO RX4 3 := ⟨tb 150 (by decide +kernel), tb 41 (by decide +kernel), tb 42 (by decide +kernel)⟩
theorem km_X4_28 : KM RX4 28 Lib.Math.min.name Lib.Math.min.code .int := ⟨tb 317 (by decide +kernel), tb 318 (by decide +kernel), tb 24 (by decide +kernel), tb 319 (by decide +kernel)⟩
theorem ka_X4_49 : KA RX4 49 := ⟨tb 324 (by decide +kernel), tb 326 (by decide +kernel), tb 325 (by decide +kernel), tb 23 (by decide +kernel)⟩
theorem ko_X6_3 : KO RX6 3 := ⟨tb 163 (by decide +kernel), tb 41 (by decide +kernel), tb 42 (by decide +kernel)⟩
theorem gs_X6_25 : Cond.fieldLink RX6 25 "FountainShow$Command" "TRIM" "LFountainShow$Command;" ∈ lw_tbl ∨ ∃ host, Cond.fieldLinkNest RX6 25 "FountainShow$Command" "TRIM" "LFountainShow$Command;" host ∈ lw_tbl := Or.inl (tb 164 (by decide +kernel))
theorem gs_X6_52 : Cond.fieldLink RX6 52 "FountainShow" "COMMANDS" "[LFountainShow$Command;" ∈ lw_tbl ∨ ∃ host, Cond.fieldLinkNest RX6 52 "FountainShow" "COMMANDS" "[LFountainShow$Command;" host ∈ lw_tbl := Or.inr ⟨"FountainShow", tb 1417 (by decide +kernel)⟩
theorem gs_X6_56 : Cond.fieldLink RX6 56 "FountainShow$Command" "pattern" "Ljava/lang/String;" ∈ lw_tbl ∨ ∃ host, Cond.fieldLinkNest RX6 56 "FountainShow$Command" "pattern" "Ljava/lang/String;" host ∈ lw_tbl := Or.inr ⟨"FountainShow", tb 2115 (by decide +kernel)⟩
theorem km_X6_64 : KM RX6 64 Lib.Math.max.name Lib.Math.max.code .int := ⟨tb 1463 (by decide +kernel), tb 414 (by decide +kernel), tb 24 (by decide +kernel), tb 415 (by decide +kernel)⟩
theorem ko_X7_3 : KO RX7 3 := ⟨tb 48 (by decide +kernel), tb 41 (by decide +kernel), tb 42 (by decide +kernel)⟩
theorem kn_X7_9 : KN RX7 9 1 [.null, .null, .int 0, .int 0, .int 0] := ⟨RX3, TX3, 5, tyX3, rfl, i_X3, tyX3_ok, tb 49 (by decide +kernel), tb 50 (by decide +kernel), tb 3 (by decide +kernel), by decide +kernel, rfl⟩
theorem kn_X7_18 : KN RX7 18 0 [.null, .null, .null, .null, .int 0] := ⟨RX2, TX2, 5, tyX2, rfl, i_X2, tyX2_ok, tb 80 (by decide +kernel), tb 81 (by decide +kernel), tb 4 (by decide +kernel), by decide +kernel, rfl⟩
theorem ka_X7_53 : KA RX7 53 := ⟨tb 349 (by decide +kernel), tb 326 (by decide +kernel), tb 325 (by decide +kernel), tb 23 (by decide +kernel)⟩
theorem gs_X7_71 : Cond.fieldLink RX7 71 "FountainShow$Problem" "INDEX" "LFountainShow$Problem;" ∈ lw_tbl ∨ ∃ host, Cond.fieldLinkNest RX7 71 "FountainShow$Problem" "INDEX" "LFountainShow$Problem;" host ∈ lw_tbl := Or.inl (tb 857 (by decide +kernel))
theorem gs_X7_77 : Cond.fieldLink RX7 77 "FountainShow$Problem" "STATE" "LFountainShow$Problem;" ∈ lw_tbl ∨ ∃ host, Cond.fieldLinkNest RX7 77 "FountainShow$Problem" "STATE" "LFountainShow$Problem;" host ∈ lw_tbl := Or.inl (tb 858 (by decide +kernel))
theorem gs_X7_80 : Cond.fieldLink RX7 80 "FountainShow$Problem" "NONE" "LFountainShow$Problem;" ∈ lw_tbl ∨ ∃ host, Cond.fieldLinkNest RX7 80 "FountainShow$Problem" "NONE" "LFountainShow$Problem;" host ∈ lw_tbl := Or.inl (tb 859 (by decide +kernel))
theorem gs_X7_86 : Cond.fieldLink RX7 86 "FountainShow$Problem" "ARGUMENT" "LFountainShow$Problem;" ∈ lw_tbl ∨ ∃ host, Cond.fieldLinkNest RX7 86 "FountainShow$Problem" "ARGUMENT" "LFountainShow$Problem;" host ∈ lw_tbl := Or.inl (tb 880 (by decide +kernel))
theorem km_X7_128 : KM RX7 128 Lib.Math.max.name Lib.Math.max.code .int := ⟨tb 413 (by decide +kernel), tb 414 (by decide +kernel), tb 24 (by decide +kernel), tb 415 (by decide +kernel)⟩
theorem gs_X7_139 : Cond.fieldLink RX7 139 "FountainShow$1" "$SwitchMap$FountainShow$Command" "[I" ∈ lw_tbl ∨ ∃ host, Cond.fieldLinkNest RX7 139 "FountainShow$1" "$SwitchMap$FountainShow$Command" "[I" host ∈ lw_tbl := Or.inl (tb 1478 (by decide +kernel))
theorem ku_X7_144 : KU RX7 144 "FountainShow$Command" "java/lang/Enum" ⟨"FountainShow$Command", "ordinal", "()I"⟩ mJx29ce0_ordinal_8abf5 0 := ⟨rfl, rfl, ⟨tb 1480 (by decide +kernel), tb 1481 (by decide +kernel), tb 1482 (by decide +kernel), tb 492 (by decide +kernel), tb 7 (by decide +kernel), tb 493 (by decide +kernel)⟩, ⟨by decide, by decide⟩, by decide +kernel, by decide⟩
theorem kn_L_8 : KN RL 8 5 [.null, .null, .null, .int 0, .null, .int 0, .int 0, .null, .null, .null, .int 0, .int 0] := ⟨RX8, TX8, 12, tyX8, rfl, i_X8, tyX8_ok, tb 35 (by decide +kernel), tb 36 (by decide +kernel), tb 1 (by decide +kernel), by decide +kernel, rfl⟩
theorem kn_L_154 : KN RL 154 6 [.int 0, .null, .null, .null, .null, .null, .int 0, .int 0, .null, .null, .null, .int 0, .int 0, .int 0, .int 0, .int 0, .int 0, .int 0, .int 0, .int 0] := ⟨RX9, TX9, 20, tyX9, rfl, i_X9, tyX9_ok, tb 1539 (by decide +kernel), tb 1540 (by decide +kernel), tb 13 (by decide +kernel), by decide +kernel, rfl⟩
theorem ko_X9_1 : KO RX9 1 := ⟨tb 1544 (by decide +kernel), tb 41 (by decide +kernel), tb 42 (by decide +kernel)⟩
theorem aw_int : Cond.arrayClass .int ∈ lw_tbl := tb 79 (by decide +kernel)
theorem aw_long : Cond.arrayClass .long ∈ lw_tbl := tb 2077 (by decide +kernel)
theorem aw_char : Cond.arrayClass .char ∈ lw_tbl := tb 193 (by decide +kernel)
theorem aw_double : Cond.arrayClass .double ∈ lw_tbl := tb 2078 (by decide +kernel)
theorem aw_byte : Cond.arrayClass .byte ∈ lw_tbl := tb 226 (by decide +kernel)
theorem gs_ord : Cond.fieldLink RJx29ce0 7 "java/lang/Enum" "ordinal" "I" ∈ lw_tbl ∨ ∃ host, Cond.fieldLinkNest RJx29ce0 7 "java/lang/Enum" "ordinal" "I" host ∈ lw_tbl := Or.inl (tb 2114 (by decide +kernel))
theorem st_X9_248 : Cond.stringRef RX9 248 "jet " ∈ lw_tbl := tb 2015 (by decide +kernel)
theorem st_X9_250 : Cond.stringRef RX9 250 "open " ∈ lw_tbl := tb 2030 (by decide +kernel)
theorem st_X9_252 : Cond.stringRef RX9 252 "=" ∈ lw_tbl := tb 2031 (by decide +kernel)
theorem st_X9_258 : Cond.stringRef RX9 258 "play " ∈ lw_tbl := tb 2036 (by decide +kernel)
theorem st_X9_260 : Cond.stringRef RX9 260 "+" ∈ lw_tbl := tb 2037 (by decide +kernel)
theorem st_X9_262 : Cond.stringRef RX9 262 "pass " ∈ lw_tbl := tb 2038 (by decide +kernel)
theorem st_X9_264 : Cond.stringRef RX9 264 "pump " ∈ lw_tbl := tb 2039 (by decide +kernel)
theorem st_X9_246 : Cond.stringRef RX9 246 "wind " ∈ lw_tbl := tb 2044 (by decide +kernel)
theorem st_X9_269 : Cond.stringRef RX9 269 "trim" ∈ lw_tbl := tb 2045 (by decide +kernel)
theorem st_X9_271 : Cond.stringRef RX9 271 "figure" ∈ lw_tbl := tb 2046 (by decide +kernel)
theorem st_X9_273 : Cond.stringRef RX9 273 "step " ∈ lw_tbl := tb 2047 (by decide +kernel)
theorem st_X9_275 : Cond.stringRef RX9 275 ":" ∈ lw_tbl := tb 2048 (by decide +kernel)
def ths : List String := ["java/lang/RuntimeException", "java/lang/Exception"]
theorem tw_X8_289_293 : ∀ w ∈ Cond.classLink RX8 289 "java/lang/ArithmeticException" :: Cond.initialized "java/lang/ArithmeticException" :: vx_atS RX8 293 "java/lang/ArithmeticException" ths, w ∈ lw_tbl ∧ vx_ot w = true := by
  intro w hw
  have h : (Cond.classLink RX8 289 "java/lang/ArithmeticException" :: Cond.initialized "java/lang/ArithmeticException" :: vx_atS RX8 293 "java/lang/ArithmeticException" ths).all (fun w => tables_1.contains w && vx_ot w) = true := by decide +kernel
  have h1 := List.all_eq_true.mp h w hw
  rw [Bool.and_eq_true] at h1
  exact ⟨List.mem_append_right _ (List.contains_iff_mem.mp h1.1), h1.2⟩
theorem th_X8_289_291_293 : TH RX8 289 291 293 "java/lang/ArithmeticException" "there are no jets" ths := ⟨by decide +kernel, by decide +kernel, tb 753 (by decide +kernel), tw_X8_289_293, by decide⟩
theorem th_X8_289_294_293 : TH RX8 289 294 293 "java/lang/ArithmeticException" "the demand is 0" ths := ⟨by decide +kernel, by decide +kernel, tb 1081 (by decide +kernel), tw_X8_289_293, by decide⟩
theorem tw_X8_305_309 : ∀ w ∈ Cond.classLink RX8 305 "java/lang/IndexOutOfBoundsException" :: Cond.initialized "java/lang/IndexOutOfBoundsException" :: vx_atS RX8 309 "java/lang/IndexOutOfBoundsException" ths, w ∈ lw_tbl ∧ vx_ot w = true := by
  intro w hw
  have h : (Cond.classLink RX8 305 "java/lang/IndexOutOfBoundsException" :: Cond.initialized "java/lang/IndexOutOfBoundsException" :: vx_atS RX8 309 "java/lang/IndexOutOfBoundsException" ths).all (fun w => tables_1.contains w && vx_ot w) = true := by decide +kernel
  have h1 := List.all_eq_true.mp h w hw
  rw [Bool.and_eq_true] at h1
  exact ⟨List.mem_append_right _ (List.contains_iff_mem.mp h1.1), h1.2⟩
theorem th_X8_305_307_309 : TH RX8 305 307 309 "java/lang/IndexOutOfBoundsException" "there is no such character" ths := ⟨by decide +kernel, by decide +kernel, tb 1375 (by decide +kernel), tw_X8_305_309, by decide⟩
theorem th_X8_305_370_309 : TH RX8 305 370 309 "java/lang/IndexOutOfBoundsException" "there is no such index" ths := ⟨by decide +kernel, by decide +kernel, tb 540 (by decide +kernel), tw_X8_305_309, by decide⟩
theorem th_X8_305_378_309 : TH RX8 305 378 309 "java/lang/IndexOutOfBoundsException" "there is no such jet" ths := ⟨by decide +kernel, by decide +kernel, tb 654 (by decide +kernel), tw_X8_305_309, by decide⟩
theorem th_X8_305_381_309 : TH RX8 305 381 309 "java/lang/IndexOutOfBoundsException" "there is no such figure" ths := ⟨by decide +kernel, by decide +kernel, tb 918 (by decide +kernel), tw_X8_305_309, by decide⟩
theorem th_X8_305_387_309 : TH RX8 305 387 309 "java/lang/IndexOutOfBoundsException" "there is no such figure or step" ths := ⟨by decide +kernel, by decide +kernel, tb 901 (by decide +kernel), tw_X8_305_309, by decide⟩
theorem th_X8_305_389_309 : TH RX8 305 389 309 "java/lang/IndexOutOfBoundsException" "there is no such entry" ths := ⟨by decide +kernel, by decide +kernel, tb 990 (by decide +kernel), tw_X8_305_309, by decide⟩
theorem tw_X8_318_322 : ∀ w ∈ Cond.classLink RX8 318 "java/lang/IllegalStateException" :: Cond.initialized "java/lang/IllegalStateException" :: vx_atS RX8 322 "java/lang/IllegalStateException" ths, w ∈ lw_tbl ∧ vx_ot w = true := by
  intro w hw
  have h : (Cond.classLink RX8 318 "java/lang/IllegalStateException" :: Cond.initialized "java/lang/IllegalStateException" :: vx_atS RX8 322 "java/lang/IllegalStateException" ths).all (fun w => tables_1.contains w && vx_ot w) = true := by decide +kernel
  have h1 := List.all_eq_true.mp h w hw
  rw [Bool.and_eq_true] at h1
  exact ⟨List.mem_append_right _ (List.contains_iff_mem.mp h1.1), h1.2⟩
theorem th_X8_318_320_322 : TH RX8 318 320 322 "java/lang/IllegalStateException" "the input buffer is full" ths := ⟨by decide +kernel, by decide +kernel, tb 1397 (by decide +kernel), tw_X8_318_322, by decide⟩
theorem th_X8_318_351_322 : TH RX8 318 351 322 "java/lang/IllegalStateException" "there is no change to undo" ths := ⟨by decide +kernel, by decide +kernel, tb 1530 (by decide +kernel), tw_X8_318_322, by decide⟩
theorem th_X8_318_353_322 : TH RX8 318 353 322 "java/lang/IllegalStateException" "nothing was saved" ths := ⟨by decide +kernel, by decide +kernel, tb 1538 (by decide +kernel), tw_X8_318_322, by decide⟩
theorem th_X8_318_376_322 : TH RX8 318 376 322 "java/lang/IllegalStateException" "the state does not allow it" ths := ⟨by decide +kernel, by decide +kernel, tb 607 (by decide +kernel), tw_X8_318_322, by decide⟩
theorem tw_X8_331_335 : ∀ w ∈ Cond.classLink RX8 331 "java/lang/IllegalArgumentException" :: Cond.initialized "java/lang/IllegalArgumentException" :: vx_atS RX8 335 "java/lang/IllegalArgumentException" ths, w ∈ lw_tbl ∧ vx_ot w = true := by
  intro w hw
  have h : (Cond.classLink RX8 331 "java/lang/IllegalArgumentException" :: Cond.initialized "java/lang/IllegalArgumentException" :: vx_atS RX8 335 "java/lang/IllegalArgumentException" ths).all (fun w => tables_1.contains w && vx_ot w) = true := by decide +kernel
  have h1 := List.all_eq_true.mp h w hw
  rw [Bool.and_eq_true] at h1
  exact ⟨List.mem_append_right _ (List.contains_iff_mem.mp h1.1), h1.2⟩
theorem th_X8_331_333_335 : TH RX8 331 333 335 "java/lang/IllegalArgumentException" "the text is malformed" ths := ⟨by decide +kernel, by decide +kernel, tb 1468 (by decide +kernel), tw_X8_331_335, by decide⟩
theorem th_X8_331_372_335 : TH RX8 331 372 335 "java/lang/IllegalArgumentException" "a number is out of its range" ths := ⟨by decide +kernel, by decide +kernel, tb 575 (by decide +kernel), tw_X8_331_335, by decide⟩
theorem th_X8_331_391_335 : TH RX8 331 391 335 "java/lang/IllegalArgumentException" "a forecast is for 0 to 40 beats" ths := ⟨by decide +kernel, by decide +kernel, tb 1035 (by decide +kernel), tw_X8_331_335, by decide⟩
theorem tw_X8_342_346 : ∀ w ∈ Cond.classLink RX8 342 "java/lang/UnsupportedOperationException" :: Cond.initialized "java/lang/UnsupportedOperationException" :: vx_atS RX8 346 "java/lang/UnsupportedOperationException" ths, w ∈ lw_tbl ∧ vx_ot w = true := by
  intro w hw
  have h : (Cond.classLink RX8 342 "java/lang/UnsupportedOperationException" :: Cond.initialized "java/lang/UnsupportedOperationException" :: vx_atS RX8 346 "java/lang/UnsupportedOperationException" ths).all (fun w => tables_1.contains w && vx_ot w) = true := by decide +kernel
  have h1 := List.all_eq_true.mp h w hw
  rw [Bool.and_eq_true] at h1
  exact ⟨List.mem_append_right _ (List.contains_iff_mem.mp h1.1), h1.2⟩
theorem th_X8_342_344_346 : TH RX8 342 344 346 "java/lang/UnsupportedOperationException" "a command failed" ths := ⟨by decide +kernel, by decide +kernel, tb 1506 (by decide +kernel), tw_X8_342_346, by decide⟩
theorem th_X8_342_374_346 : TH RX8 342 374 346 "java/lang/UnsupportedOperationException" "the position is taken" ths := ⟨by decide +kernel, by decide +kernel, tb 591 (by decide +kernel), tw_X8_342_346, by decide⟩
theorem kx_L_157 : KSX RL 157 mL_addJet 3 := ⟨⟨_, _, rfl⟩, ⟨(tb 457 (by decide +kernel)), (tb 458 (by decide +kernel)), (tb 0 (by decide +kernel)), tb 459 (by decide +kernel)⟩, ⟨by decide +kernel, by decide +kernel⟩, by decide +kernel, by decide⟩
theorem kx_L_166 : KSX RL 166 mL_removeJet 3 := ⟨⟨_, _, rfl⟩, ⟨(tb 618 (by decide +kernel)), (tb 619 (by decide +kernel)), (tb 0 (by decide +kernel)), tb 620 (by decide +kernel)⟩, ⟨by decide +kernel, by decide +kernel⟩, by decide +kernel, by decide⟩
theorem kx_L_169 : KSX RL 169 mL_setOpening 4 := ⟨⟨_, _, rfl⟩, ⟨(tb 676 (by decide +kernel)), (tb 677 (by decide +kernel)), (tb 0 (by decide +kernel)), tb 678 (by decide +kernel)⟩, ⟨by decide +kernel, by decide +kernel⟩, by decide +kernel, by decide⟩
theorem kx_L_177 : KSX RL 177 mL_position 3 := ⟨⟨_, _, rfl⟩, ⟨(tb 694 (by decide +kernel)), (tb 695 (by decide +kernel)), (tb 0 (by decide +kernel)), tb 696 (by decide +kernel)⟩, ⟨by decide +kernel, by decide +kernel⟩, by decide +kernel, by decide⟩
theorem kx_L_180 : KSX RL 180 mL_opening 3 := ⟨⟨_, _, rfl⟩, ⟨(tb 701 (by decide +kernel)), (tb 702 (by decide +kernel)), (tb 0 (by decide +kernel)), tb 703 (by decide +kernel)⟩, ⟨by decide +kernel, by decide +kernel⟩, by decide +kernel, by decide⟩
theorem kx_L_183 : KSX RL 183 mL_height 3 := ⟨⟨_, _, rfl⟩, ⟨(tb 708 (by decide +kernel)), (tb 709 (by decide +kernel)), (tb 0 (by decide +kernel)), tb 710 (by decide +kernel)⟩, ⟨by decide +kernel, by decide +kernel⟩, by decide +kernel, by decide⟩
theorem kx_L_186 : KSX RL 186 mL_landing 3 := ⟨⟨_, _, rfl⟩, ⟨(tb 716 (by decide +kernel)), (tb 717 (by decide +kernel)), (tb 0 (by decide +kernel)), tb 718 (by decide +kernel)⟩, ⟨by decide +kernel, by decide +kernel⟩, by decide +kernel, by decide⟩
theorem kx_L_189 : KSX RL 189 mL_isWild 3 := ⟨⟨_, _, rfl⟩, ⟨(tb 724 (by decide +kernel)), (tb 725 (by decide +kernel)), (tb 0 (by decide +kernel)), tb 726 (by decide +kernel)⟩, ⟨by decide +kernel, by decide +kernel⟩, by decide +kernel, by decide⟩
theorem kx_L_196 : KSX RL 196 mL_highestJet 2 := ⟨⟨_, _, rfl⟩, ⟨(tb 732 (by decide +kernel)), (tb 733 (by decide +kernel)), (tb 0 (by decide +kernel)), tb 734 (by decide +kernel)⟩, ⟨by decide +kernel, by decide +kernel⟩, by decide +kernel, by decide⟩
theorem kx_L_200 : KSX RL 200 mL_jetByPosition 3 := ⟨⟨_, _, rfl⟩, ⟨(tb 764 (by decide +kernel)), (tb 765 (by decide +kernel)), (tb 0 (by decide +kernel)), tb 766 (by decide +kernel)⟩, ⟨by decide +kernel, by decide +kernel⟩, by decide +kernel, by decide⟩
theorem kx_L_203 : KSX RL 203 mL_nearestLanding 3 := ⟨⟨_, _, rfl⟩, ⟨(tb 777 (by decide +kernel)), (tb 778 (by decide +kernel)), (tb 0 (by decide +kernel)), tb 779 (by decide +kernel)⟩, ⟨by decide +kernel, by decide +kernel⟩, by decide +kernel, by decide⟩
theorem kx_L_214 : KSX RL 214 mL_setCapacity 3 := ⟨⟨_, _, rfl⟩, ⟨(tb 795 (by decide +kernel)), (tb 796 (by decide +kernel)), (tb 0 (by decide +kernel)), tb 797 (by decide +kernel)⟩, ⟨by decide +kernel, by decide +kernel⟩, by decide +kernel, by decide⟩
theorem kx_L_217 : KSX RL 217 mL_setWind 3 := ⟨⟨_, _, rfl⟩, ⟨(tb 810 (by decide +kernel)), (tb 811 (by decide +kernel)), (tb 0 (by decide +kernel)), tb 812 (by decide +kernel)⟩, ⟨by decide +kernel, by decide +kernel⟩, by decide +kernel, by decide⟩
theorem kx_L_249 : KSX RL 249 mL_addFigure 2 := ⟨⟨_, _, rfl⟩, ⟨(tb 825 (by decide +kernel)), (tb 826 (by decide +kernel)), (tb 0 (by decide +kernel)), tb 827 (by decide +kernel)⟩, ⟨by decide +kernel, by decide +kernel⟩, by decide +kernel, by decide⟩
theorem kx_L_252 : KSX RL 252 mL_removeFigure 3 := ⟨⟨_, _, rfl⟩, ⟨(tb 842 (by decide +kernel)), (tb 843 (by decide +kernel)), (tb 0 (by decide +kernel)), tb 844 (by decide +kernel)⟩, ⟨by decide +kernel, by decide +kernel⟩, by decide +kernel, by decide⟩
theorem kx_L_255 : KSX RL 255 mL_addStep 6 := ⟨⟨_, _, rfl⟩, ⟨(tb 868 (by decide +kernel)), (tb 869 (by decide +kernel)), (tb 0 (by decide +kernel)), tb 870 (by decide +kernel)⟩, ⟨by decide +kernel, by decide +kernel⟩, by decide +kernel, by decide⟩
theorem kx_L_259 : KSX RL 259 mL_removeStep 4 := ⟨⟨_, _, rfl⟩, ⟨(tb 885 (by decide +kernel)), (tb 886 (by decide +kernel)), (tb 0 (by decide +kernel)), tb 887 (by decide +kernel)⟩, ⟨by decide +kernel, by decide +kernel⟩, by decide +kernel, by decide⟩
theorem kx_L_266 : KSX RL 266 mL_stepCount 3 := ⟨⟨_, _, rfl⟩, ⟨(tb 906 (by decide +kernel)), (tb 907 (by decide +kernel)), (tb 0 (by decide +kernel)), tb 908 (by decide +kernel)⟩, ⟨by decide +kernel, by decide +kernel⟩, by decide +kernel, by decide⟩
theorem kx_L_269 : KSX RL 269 mL_stepDelay 4 := ⟨⟨_, _, rfl⟩, ⟨(tb 919 (by decide +kernel)), (tb 920 (by decide +kernel)), (tb 0 (by decide +kernel)), tb 921 (by decide +kernel)⟩, ⟨by decide +kernel, by decide +kernel⟩, by decide +kernel, by decide⟩
theorem kx_L_272 : KSX RL 272 mL_stepJet 4 := ⟨⟨_, _, rfl⟩, ⟨(tb 927 (by decide +kernel)), (tb 928 (by decide +kernel)), (tb 0 (by decide +kernel)), tb 929 (by decide +kernel)⟩, ⟨by decide +kernel, by decide +kernel⟩, by decide +kernel, by decide⟩
theorem kx_L_275 : KSX RL 275 mL_stepOpening 4 := ⟨⟨_, _, rfl⟩, ⟨(tb 934 (by decide +kernel)), (tb 935 (by decide +kernel)), (tb 0 (by decide +kernel)), tb 936 (by decide +kernel)⟩, ⟨by decide +kernel, by decide +kernel⟩, by decide +kernel, by decide⟩
theorem kx_L_278 : KSX RL 278 mL_figureLength 3 := ⟨⟨_, _, rfl⟩, ⟨(tb 941 (by decide +kernel)), (tb 942 (by decide +kernel)), (tb 0 (by decide +kernel)), tb 943 (by decide +kernel)⟩, ⟨by decide +kernel, by decide +kernel⟩, by decide +kernel, by decide⟩
theorem kx_L_281 : KSX RL 281 mL_figuresUsing 3 := ⟨⟨_, _, rfl⟩, ⟨(tb 949 (by decide +kernel)), (tb 950 (by decide +kernel)), (tb 0 (by decide +kernel)), tb 951 (by decide +kernel)⟩, ⟨by decide +kernel, by decide +kernel⟩, by decide +kernel, by decide⟩
theorem kx_L_284 : KSX RL 284 mL_play 4 := ⟨⟨_, _, rfl⟩, ⟨(tb 964 (by decide +kernel)), (tb 965 (by decide +kernel)), (tb 0 (by decide +kernel)), tb 966 (by decide +kernel)⟩, ⟨by decide +kernel, by decide +kernel⟩, by decide +kernel, by decide⟩
theorem kx_L_287 : KSX RL 287 mL_cancel 3 := ⟨⟨_, _, rfl⟩, ⟨(tb 979 (by decide +kernel)), (tb 980 (by decide +kernel)), (tb 0 (by decide +kernel)), tb 981 (by decide +kernel)⟩, ⟨by decide +kernel, by decide +kernel⟩, by decide +kernel, by decide⟩
theorem kx_L_290 : KSX RL 290 mL_pass 3 := ⟨⟨_, _, rfl⟩, ⟨(tb 995 (by decide +kernel)), (tb 996 (by decide +kernel)), (tb 0 (by decide +kernel)), tb 997 (by decide +kernel)⟩, ⟨by decide +kernel, by decide +kernel⟩, by decide +kernel, by decide⟩
theorem kx_L_301 : KSX RL 301 mL_entryFigure 3 := ⟨⟨_, _, rfl⟩, ⟨(tb 1011 (by decide +kernel)), (tb 1012 (by decide +kernel)), (tb 0 (by decide +kernel)), tb 1013 (by decide +kernel)⟩, ⟨by decide +kernel, by decide +kernel⟩, by decide +kernel, by decide⟩
theorem kx_L_304 : KSX RL 304 mL_entryStart 3 := ⟨⟨_, _, rfl⟩, ⟨(tb 1018 (by decide +kernel)), (tb 1019 (by decide +kernel)), (tb 0 (by decide +kernel)), tb 1020 (by decide +kernel)⟩, ⟨by decide +kernel, by decide +kernel⟩, by decide +kernel, by decide⟩
theorem kx_L_311 : KSX RL 311 mL_demandAfter 3 := ⟨⟨_, _, rfl⟩, ⟨(tb 1025 (by decide +kernel)), (tb 1026 (by decide +kernel)), (tb 0 (by decide +kernel)), tb 1027 (by decide +kernel)⟩, ⟨by decide +kernel, by decide +kernel⟩, by decide +kernel, by decide⟩
theorem kx_L_314 : KSX RL 314 mL_demandAfterBySteps 3 := ⟨⟨_, _, rfl⟩, ⟨(tb 1036 (by decide +kernel)), (tb 1037 (by decide +kernel)), (tb 0 (by decide +kernel)), tb 1038 (by decide +kernel)⟩, ⟨by decide +kernel, by decide +kernel⟩, by decide +kernel, by decide⟩
theorem kx_L_317 : KSX RL 317 mL_firstOverload 3 := ⟨⟨_, _, rfl⟩, ⟨(tb 1043 (by decide +kernel)), (tb 1044 (by decide +kernel)), (tb 0 (by decide +kernel)), tb 1045 (by decide +kernel)⟩, ⟨by decide +kernel, by decide +kernel⟩, by decide +kernel, by decide⟩
theorem kx_L_320 : KSX RL 320 mL_meanOpening 2 := ⟨⟨_, _, rfl⟩, ⟨(tb 1051 (by decide +kernel)), (tb 1052 (by decide +kernel)), (tb 0 (by decide +kernel)), tb 1053 (by decide +kernel)⟩, ⟨by decide +kernel, by decide +kernel⟩, by decide +kernel, by decide⟩
theorem kx_L_324 : KSX RL 324 mL_supplyFraction 2 := ⟨⟨_, _, rfl⟩, ⟨(tb 1074 (by decide +kernel)), (tb 1075 (by decide +kernel)), (tb 0 (by decide +kernel)), tb 1076 (by decide +kernel)⟩, ⟨by decide +kernel, by decide +kernel⟩, by decide +kernel, by decide⟩
theorem kx_L_327 : KSX RL 327 mL_writeFigure 3 := ⟨⟨_, _, rfl⟩, ⟨(tb 1082 (by decide +kernel)), (tb 1083 (by decide +kernel)), (tb 0 (by decide +kernel)), tb 1084 (by decide +kernel)⟩, ⟨by decide +kernel, by decide +kernel⟩, by decide +kernel, by decide⟩
theorem kx_L_330 : KSX RL 330 mL_outputCharacter 3 := ⟨⟨_, _, rfl⟩, ⟨(tb 1368 (by decide +kernel)), (tb 1369 (by decide +kernel)), (tb 0 (by decide +kernel)), tb 1370 (by decide +kernel)⟩, ⟨by decide +kernel, by decide +kernel⟩, by decide +kernel, by decide⟩
theorem kx_L_338 : KSX RL 338 mL_feed 3 := ⟨⟨_, _, rfl⟩, ⟨(tb 1386 (by decide +kernel)), (tb 1387 (by decide +kernel)), (tb 0 (by decide +kernel)), tb 1388 (by decide +kernel)⟩, ⟨by decide +kernel, by decide +kernel⟩, by decide +kernel, by decide⟩
theorem kx_L_342 : KSX RL 342 mL_execute 2 := ⟨⟨_, _, rfl⟩, ⟨(tb 1402 (by decide +kernel)), (tb 1403 (by decide +kernel)), (tb 0 (by decide +kernel)), tb 1404 (by decide +kernel)⟩, ⟨by decide +kernel, by decide +kernel⟩, by decide +kernel, by decide⟩
theorem kx_L_345 : KSX RL 345 mL_errorPosition 2 := ⟨⟨_, _, rfl⟩, ⟨(tb 1507 (by decide +kernel)), (tb 1508 (by decide +kernel)), (tb 0 (by decide +kernel)), tb 1509 (by decide +kernel)⟩, ⟨by decide +kernel, by decide +kernel⟩, by decide +kernel, by decide⟩
theorem kx_L_348 : KSX RL 348 mL_failedCommand 2 := ⟨⟨_, _, rfl⟩, ⟨(tb 1515 (by decide +kernel)), (tb 1516 (by decide +kernel)), (tb 0 (by decide +kernel)), tb 1517 (by decide +kernel)⟩, ⟨by decide +kernel, by decide +kernel⟩, by decide +kernel, by decide⟩
theorem kx_L_351 : KSX RL 351 mL_undo 2 := ⟨⟨_, _, rfl⟩, ⟨(tb 1523 (by decide +kernel)), (tb 1524 (by decide +kernel)), (tb 0 (by decide +kernel)), tb 1525 (by decide +kernel)⟩, ⟨by decide +kernel, by decide +kernel⟩, by decide +kernel, by decide⟩
theorem kx_L_362 : KSX RL 362 mL_restore 2 := ⟨⟨_, _, rfl⟩, ⟨(tb 1531 (by decide +kernel)), (tb 1532 (by decide +kernel)), (tb 0 (by decide +kernel)), tb 1533 (by decide +kernel)⟩, ⟨by decide +kernel, by decide +kernel⟩, by decide +kernel, by decide⟩
end
section
theorem dX2_init_0 : decode cX2_init 0 = .ok (.aload_n 0, 1) := by decide +kernel
theorem dX2_init_1 : decode cX2_init 1 = .ok (.invokespecial 3, 3) := by decide +kernel
theorem dX2_init_4 : decode cX2_init 4 = .ok (.aload_n 0, 1) := by decide +kernel
theorem dX2_init_5 : decode cX2_init 5 = .ok (.iconst 5, 1) := by decide +kernel
theorem dX2_init_6 : decode cX2_init 6 = .ok (.newarray .int, 2) := by decide +kernel
theorem dX2_init_8 : decode cX2_init 8 = .ok (.putfield 9, 3) := by decide +kernel
theorem dX2_init_11 : decode cX2_init 11 = .ok (.aload_n 0, 1) := by decide +kernel
theorem dX2_init_12 : decode cX2_init 12 = .ok (.bipush 40, 2) := by decide +kernel
theorem dX2_init_14 : decode cX2_init 14 = .ok (.newarray .int, 2) := by decide +kernel
theorem dX2_init_16 : decode cX2_init 16 = .ok (.putfield 15, 3) := by decide +kernel
theorem dX2_init_19 : decode cX2_init 19 = .ok (.aload_n 0, 1) := by decide +kernel
theorem dX2_init_20 : decode cX2_init 20 = .ok (.bipush 40, 2) := by decide +kernel
theorem dX2_init_22 : decode cX2_init 22 = .ok (.newarray .int, 2) := by decide +kernel
theorem dX2_init_24 : decode cX2_init 24 = .ok (.putfield 18, 3) := by decide +kernel
theorem dX2_init_27 : decode cX2_init 27 = .ok (.aload_n 0, 1) := by decide +kernel
theorem dX2_init_28 : decode cX2_init 28 = .ok (.bipush 40, 2) := by decide +kernel
theorem dX2_init_30 : decode cX2_init 30 = .ok (.newarray .int, 2) := by decide +kernel
theorem dX2_init_32 : decode cX2_init 32 = .ok (.putfield 21, 3) := by decide +kernel
theorem dX2_init_35 : decode cX2_init 35 = .ok (.aload_n 0, 1) := by decide +kernel
theorem dX2_init_36 : decode cX2_init 36 = .ok (.iconst 0, 1) := by decide +kernel
theorem dX2_init_37 : decode cX2_init 37 = .ok (.putfield 24, 3) := by decide +kernel
theorem dX2_init_40 : decode cX2_init 40 = .ok (.return_, 1) := by decide +kernel
theorem dX2_copyFrom_0 : decode cX2_copyFrom 0 = .ok (.aload_n 1, 1) := by decide +kernel
theorem dX2_copyFrom_1 : decode cX2_copyFrom 1 = .ok (.getfield 9, 3) := by decide +kernel
theorem dX2_copyFrom_4 : decode cX2_copyFrom 4 = .ok (.iconst 0, 1) := by decide +kernel
theorem dX2_copyFrom_5 : decode cX2_copyFrom 5 = .ok (.aload_n 0, 1) := by decide +kernel
theorem dX2_copyFrom_6 : decode cX2_copyFrom 6 = .ok (.getfield 9, 3) := by decide +kernel
theorem dX2_copyFrom_9 : decode cX2_copyFrom 9 = .ok (.iconst 0, 1) := by decide +kernel
theorem dX2_copyFrom_10 : decode cX2_copyFrom 10 = .ok (.iconst 5, 1) := by decide +kernel
theorem dX2_copyFrom_11 : decode cX2_copyFrom 11 = .ok (.invokestatic 28, 3) := by decide +kernel
theorem dX2_copyFrom_14 : decode cX2_copyFrom 14 = .ok (.aload_n 1, 1) := by decide +kernel
theorem dX2_copyFrom_15 : decode cX2_copyFrom 15 = .ok (.getfield 15, 3) := by decide +kernel
theorem dX2_copyFrom_18 : decode cX2_copyFrom 18 = .ok (.iconst 0, 1) := by decide +kernel
theorem dX2_copyFrom_19 : decode cX2_copyFrom 19 = .ok (.aload_n 0, 1) := by decide +kernel
theorem dX2_copyFrom_20 : decode cX2_copyFrom 20 = .ok (.getfield 15, 3) := by decide +kernel
theorem dX2_copyFrom_23 : decode cX2_copyFrom 23 = .ok (.iconst 0, 1) := by decide +kernel
theorem dX2_copyFrom_24 : decode cX2_copyFrom 24 = .ok (.bipush 40, 2) := by decide +kernel
theorem dX2_copyFrom_26 : decode cX2_copyFrom 26 = .ok (.invokestatic 28, 3) := by decide +kernel
theorem dX2_copyFrom_29 : decode cX2_copyFrom 29 = .ok (.aload_n 1, 1) := by decide +kernel
theorem dX2_copyFrom_30 : decode cX2_copyFrom 30 = .ok (.getfield 18, 3) := by decide +kernel
theorem dX2_copyFrom_33 : decode cX2_copyFrom 33 = .ok (.iconst 0, 1) := by decide +kernel
theorem dX2_copyFrom_34 : decode cX2_copyFrom 34 = .ok (.aload_n 0, 1) := by decide +kernel
theorem dX2_copyFrom_35 : decode cX2_copyFrom 35 = .ok (.getfield 18, 3) := by decide +kernel
theorem dX2_copyFrom_38 : decode cX2_copyFrom 38 = .ok (.iconst 0, 1) := by decide +kernel
theorem dX2_copyFrom_39 : decode cX2_copyFrom 39 = .ok (.bipush 40, 2) := by decide +kernel
theorem dX2_copyFrom_41 : decode cX2_copyFrom 41 = .ok (.invokestatic 28, 3) := by decide +kernel
theorem dX2_copyFrom_44 : decode cX2_copyFrom 44 = .ok (.aload_n 1, 1) := by decide +kernel
theorem dX2_copyFrom_45 : decode cX2_copyFrom 45 = .ok (.getfield 21, 3) := by decide +kernel
theorem dX2_copyFrom_48 : decode cX2_copyFrom 48 = .ok (.iconst 0, 1) := by decide +kernel
theorem dX2_copyFrom_49 : decode cX2_copyFrom 49 = .ok (.aload_n 0, 1) := by decide +kernel
theorem dX2_copyFrom_50 : decode cX2_copyFrom 50 = .ok (.getfield 21, 3) := by decide +kernel
theorem dX2_copyFrom_53 : decode cX2_copyFrom 53 = .ok (.iconst 0, 1) := by decide +kernel
theorem dX2_copyFrom_54 : decode cX2_copyFrom 54 = .ok (.bipush 40, 2) := by decide +kernel
theorem dX2_copyFrom_56 : decode cX2_copyFrom 56 = .ok (.invokestatic 28, 3) := by decide +kernel
theorem dX2_copyFrom_59 : decode cX2_copyFrom 59 = .ok (.aload_n 0, 1) := by decide +kernel
theorem dX2_copyFrom_60 : decode cX2_copyFrom 60 = .ok (.aload_n 1, 1) := by decide +kernel
theorem dX2_copyFrom_61 : decode cX2_copyFrom 61 = .ok (.getfield 24, 3) := by decide +kernel
theorem dX2_copyFrom_64 : decode cX2_copyFrom 64 = .ok (.putfield 24, 3) := by decide +kernel
theorem dX2_copyFrom_67 : decode cX2_copyFrom 67 = .ok (.return_, 1) := by decide +kernel
theorem dX2_has_0 : decode cX2_has 0 = .ok (.iload_n 1, 1) := by decide +kernel
theorem dX2_has_1 : decode cX2_has 1 = .ok (.ifCond .lt 15, 3) := by decide +kernel
theorem dX2_has_4 : decode cX2_has 4 = .ok (.iload_n 1, 1) := by decide +kernel
theorem dX2_has_5 : decode cX2_has 5 = .ok (.aload_n 0, 1) := by decide +kernel
theorem dX2_has_6 : decode cX2_has 6 = .ok (.getfield 24, 3) := by decide +kernel
theorem dX2_has_9 : decode cX2_has 9 = .ok (.if_icmp .ge 7, 3) := by decide +kernel
theorem dX2_has_12 : decode cX2_has 12 = .ok (.iconst 1, 1) := by decide +kernel
theorem dX2_has_13 : decode cX2_has 13 = .ok (.goto 4, 3) := by decide +kernel
theorem dX2_has_16 : decode cX2_has 16 = .ok (.iconst 0, 1) := by decide +kernel
theorem dX2_has_17 : decode cX2_has 17 = .ok (.ireturn, 1) := by decide +kernel
theorem dX2_hasStep_0 : decode cX2_hasStep 0 = .ok (.aload_n 0, 1) := by decide +kernel
theorem dX2_hasStep_1 : decode cX2_hasStep 1 = .ok (.iload_n 1, 1) := by decide +kernel
theorem dX2_hasStep_2 : decode cX2_hasStep 2 = .ok (.invokevirtual 34, 3) := by decide +kernel
theorem dX2_hasStep_5 : decode cX2_hasStep 5 = .ok (.ifCond .eq 21, 3) := by decide +kernel
theorem dX2_hasStep_8 : decode cX2_hasStep 8 = .ok (.iload_n 2, 1) := by decide +kernel
theorem dX2_hasStep_9 : decode cX2_hasStep 9 = .ok (.ifCond .lt 17, 3) := by decide +kernel
theorem dX2_hasStep_12 : decode cX2_hasStep 12 = .ok (.iload_n 2, 1) := by decide +kernel
theorem dX2_hasStep_13 : decode cX2_hasStep 13 = .ok (.aload_n 0, 1) := by decide +kernel
theorem dX2_hasStep_14 : decode cX2_hasStep 14 = .ok (.getfield 9, 3) := by decide +kernel
theorem dX2_hasStep_17 : decode cX2_hasStep 17 = .ok (.iload_n 1, 1) := by decide +kernel
theorem dX2_hasStep_18 : decode cX2_hasStep 18 = .ok (.iaload, 1) := by decide +kernel
theorem dX2_hasStep_19 : decode cX2_hasStep 19 = .ok (.if_icmp .ge 7, 3) := by decide +kernel
theorem dX2_hasStep_22 : decode cX2_hasStep 22 = .ok (.iconst 1, 1) := by decide +kernel
theorem dX2_hasStep_23 : decode cX2_hasStep 23 = .ok (.goto 4, 3) := by decide +kernel
theorem dX2_hasStep_26 : decode cX2_hasStep 26 = .ok (.iconst 0, 1) := by decide +kernel
theorem dX2_hasStep_27 : decode cX2_hasStep 27 = .ok (.ireturn, 1) := by decide +kernel
theorem dX2_problemOfAdding_0 : decode cX2_problemOfAdding 0 = .ok (.aload_n 0, 1) := by decide +kernel
theorem dX2_problemOfAdding_1 : decode cX2_problemOfAdding 1 = .ok (.getfield 24, 3) := by decide +kernel
theorem dX2_problemOfAdding_4 : decode cX2_problemOfAdding 4 = .ok (.iconst 5, 1) := by decide +kernel
theorem dX2_problemOfAdding_5 : decode cX2_problemOfAdding 5 = .ok (.if_icmp .ge 9, 3) := by decide +kernel
theorem dX2_problemOfAdding_8 : decode cX2_problemOfAdding 8 = .ok (.getstatic 38, 3) := by decide +kernel
theorem dX2_problemOfAdding_11 : decode cX2_problemOfAdding 11 = .ok (.goto 6, 3) := by decide +kernel
theorem dX2_problemOfAdding_14 : decode cX2_problemOfAdding 14 = .ok (.getstatic 44, 3) := by decide +kernel
theorem dX2_problemOfAdding_17 : decode cX2_problemOfAdding 17 = .ok (.areturn, 1) := by decide +kernel
theorem dX2_append_0 : decode cX2_append 0 = .ok (.aload_n 0, 1) := by decide +kernel
theorem dX2_append_1 : decode cX2_append 1 = .ok (.getfield 9, 3) := by decide +kernel
theorem dX2_append_4 : decode cX2_append 4 = .ok (.aload_n 0, 1) := by decide +kernel
theorem dX2_append_5 : decode cX2_append 5 = .ok (.getfield 24, 3) := by decide +kernel
theorem dX2_append_8 : decode cX2_append 8 = .ok (.iconst 0, 1) := by decide +kernel
theorem dX2_append_9 : decode cX2_append 9 = .ok (.iastore, 1) := by decide +kernel
theorem dX2_append_10 : decode cX2_append 10 = .ok (.aload_n 0, 1) := by decide +kernel
theorem dX2_append_11 : decode cX2_append 11 = .ok (.dup, 1) := by decide +kernel
theorem dX2_append_12 : decode cX2_append 12 = .ok (.getfield 24, 3) := by decide +kernel
theorem dX2_append_15 : decode cX2_append 15 = .ok (.iconst 1, 1) := by decide +kernel
theorem dX2_append_16 : decode cX2_append 16 = .ok (.iadd, 1) := by decide +kernel
theorem dX2_append_17 : decode cX2_append 17 = .ok (.putfield 24, 3) := by decide +kernel
theorem dX2_append_20 : decode cX2_append 20 = .ok (.aload_n 0, 1) := by decide +kernel
theorem dX2_append_21 : decode cX2_append 21 = .ok (.getfield 24, 3) := by decide +kernel
theorem dX2_append_24 : decode cX2_append 24 = .ok (.iconst 1, 1) := by decide +kernel
theorem dX2_append_25 : decode cX2_append 25 = .ok (.isub, 1) := by decide +kernel
theorem dX2_append_26 : decode cX2_append 26 = .ok (.ireturn, 1) := by decide +kernel
theorem dX2_drop_0 : decode cX2_drop 0 = .ok (.aload_n 0, 1) := by decide +kernel
theorem dX2_drop_1 : decode cX2_drop 1 = .ok (.getfield 9, 3) := by decide +kernel
theorem dX2_drop_4 : decode cX2_drop 4 = .ok (.iload_n 1, 1) := by decide +kernel
theorem dX2_drop_5 : decode cX2_drop 5 = .ok (.iaload, 1) := by decide +kernel
theorem dX2_drop_6 : decode cX2_drop 6 = .ok (.istore_n 2, 1) := by decide +kernel
theorem dX2_drop_7 : decode cX2_drop 7 = .ok (.aload_n 0, 1) := by decide +kernel
theorem dX2_drop_8 : decode cX2_drop 8 = .ok (.dup, 1) := by decide +kernel
theorem dX2_drop_9 : decode cX2_drop 9 = .ok (.getfield 24, 3) := by decide +kernel
theorem dX2_drop_12 : decode cX2_drop 12 = .ok (.iconst 1, 1) := by decide +kernel
theorem dX2_drop_13 : decode cX2_drop 13 = .ok (.isub, 1) := by decide +kernel
theorem dX2_drop_14 : decode cX2_drop 14 = .ok (.putfield 24, 3) := by decide +kernel
theorem dX2_drop_17 : decode cX2_drop 17 = .ok (.iload_n 1, 1) := by decide +kernel
theorem dX2_drop_18 : decode cX2_drop 18 = .ok (.istore_n 3, 1) := by decide +kernel
theorem dX2_drop_19 : decode cX2_drop 19 = .ok (.iload_n 3, 1) := by decide +kernel
theorem dX2_drop_20 : decode cX2_drop 20 = .ok (.aload_n 0, 1) := by decide +kernel
theorem dX2_drop_21 : decode cX2_drop 21 = .ok (.getfield 24, 3) := by decide +kernel
theorem dX2_drop_24 : decode cX2_drop 24 = .ok (.if_icmp .ge 23, 3) := by decide +kernel
theorem dX2_drop_27 : decode cX2_drop 27 = .ok (.aload_n 0, 1) := by decide +kernel
theorem dX2_drop_28 : decode cX2_drop 28 = .ok (.getfield 9, 3) := by decide +kernel
theorem dX2_drop_31 : decode cX2_drop 31 = .ok (.iload_n 3, 1) := by decide +kernel
theorem dX2_drop_32 : decode cX2_drop 32 = .ok (.aload_n 0, 1) := by decide +kernel
theorem dX2_drop_33 : decode cX2_drop 33 = .ok (.getfield 9, 3) := by decide +kernel
theorem dX2_drop_36 : decode cX2_drop 36 = .ok (.iload_n 3, 1) := by decide +kernel
theorem dX2_drop_37 : decode cX2_drop 37 = .ok (.iconst 1, 1) := by decide +kernel
theorem dX2_drop_38 : decode cX2_drop 38 = .ok (.iadd, 1) := by decide +kernel
theorem dX2_drop_39 : decode cX2_drop 39 = .ok (.iaload, 1) := by decide +kernel
theorem dX2_drop_40 : decode cX2_drop 40 = .ok (.iastore, 1) := by decide +kernel
theorem dX2_drop_41 : decode cX2_drop 41 = .ok (.iinc 3 1, 3) := by decide +kernel
theorem dX2_drop_44 : decode cX2_drop 44 = .ok (.goto (-25), 3) := by decide +kernel
theorem dX2_drop_47 : decode cX2_drop 47 = .ok (.iload_n 1, 1) := by decide +kernel
theorem dX2_drop_48 : decode cX2_drop 48 = .ok (.iconst 0, 1) := by decide +kernel
theorem dX2_drop_49 : decode cX2_drop 49 = .ok (.invokestatic 47, 3) := by decide +kernel
theorem dX2_drop_52 : decode cX2_drop 52 = .ok (.istore_n 3, 1) := by decide +kernel
theorem dX2_drop_53 : decode cX2_drop 53 = .ok (.iload_n 3, 1) := by decide +kernel
theorem dX2_drop_54 : decode cX2_drop 54 = .ok (.aload_n 0, 1) := by decide +kernel
theorem dX2_drop_55 : decode cX2_drop 55 = .ok (.getfield 24, 3) := by decide +kernel
theorem dX2_drop_58 : decode cX2_drop 58 = .ok (.iconst 0, 1) := by decide +kernel
theorem dX2_drop_59 : decode cX2_drop 59 = .ok (.invokestatic 47, 3) := by decide +kernel
theorem dX2_drop_62 : decode cX2_drop 62 = .ok (.if_icmp .ge 18, 3) := by decide +kernel
theorem dX2_drop_65 : decode cX2_drop 65 = .ok (.aload_n 0, 1) := by decide +kernel
theorem dX2_drop_66 : decode cX2_drop 66 = .ok (.iload_n 3, 1) := by decide +kernel
theorem dX2_drop_67 : decode cX2_drop 67 = .ok (.bipush 8, 2) := by decide +kernel
theorem dX2_drop_69 : decode cX2_drop 69 = .ok (.iadd, 1) := by decide +kernel
theorem dX2_drop_70 : decode cX2_drop 70 = .ok (.iload_n 3, 1) := by decide +kernel
theorem dX2_drop_71 : decode cX2_drop 71 = .ok (.invokevirtual 51, 3) := by decide +kernel
theorem dX2_drop_74 : decode cX2_drop 74 = .ok (.iinc 3 1, 3) := by decide +kernel
theorem dX2_drop_77 : decode cX2_drop 77 = .ok (.goto (-24), 3) := by decide +kernel
theorem dX2_drop_80 : decode cX2_drop 80 = .ok (.iload_n 2, 1) := by decide +kernel
theorem dX2_drop_81 : decode cX2_drop 81 = .ok (.ireturn, 1) := by decide +kernel
theorem dX2_moveStep_0 : decode cX2_moveStep 0 = .ok (.aload_n 0, 1) := by decide +kernel
theorem dX2_moveStep_1 : decode cX2_moveStep 1 = .ok (.getfield 15, 3) := by decide +kernel
theorem dX2_moveStep_4 : decode cX2_moveStep 4 = .ok (.iload_n 2, 1) := by decide +kernel
theorem dX2_moveStep_5 : decode cX2_moveStep 5 = .ok (.aload_n 0, 1) := by decide +kernel
theorem dX2_moveStep_6 : decode cX2_moveStep 6 = .ok (.getfield 15, 3) := by decide +kernel
theorem dX2_moveStep_9 : decode cX2_moveStep 9 = .ok (.iload_n 1, 1) := by decide +kernel
theorem dX2_moveStep_10 : decode cX2_moveStep 10 = .ok (.iaload, 1) := by decide +kernel
theorem dX2_moveStep_11 : decode cX2_moveStep 11 = .ok (.iastore, 1) := by decide +kernel
theorem dX2_moveStep_12 : decode cX2_moveStep 12 = .ok (.aload_n 0, 1) := by decide +kernel
theorem dX2_moveStep_13 : decode cX2_moveStep 13 = .ok (.getfield 18, 3) := by decide +kernel
theorem dX2_moveStep_16 : decode cX2_moveStep 16 = .ok (.iload_n 2, 1) := by decide +kernel
theorem dX2_moveStep_17 : decode cX2_moveStep 17 = .ok (.aload_n 0, 1) := by decide +kernel
theorem dX2_moveStep_18 : decode cX2_moveStep 18 = .ok (.getfield 18, 3) := by decide +kernel
theorem dX2_moveStep_21 : decode cX2_moveStep 21 = .ok (.iload_n 1, 1) := by decide +kernel
theorem dX2_moveStep_22 : decode cX2_moveStep 22 = .ok (.iaload, 1) := by decide +kernel
theorem dX2_moveStep_23 : decode cX2_moveStep 23 = .ok (.iastore, 1) := by decide +kernel
theorem dX2_moveStep_24 : decode cX2_moveStep 24 = .ok (.aload_n 0, 1) := by decide +kernel
theorem dX2_moveStep_25 : decode cX2_moveStep 25 = .ok (.getfield 21, 3) := by decide +kernel
theorem dX2_moveStep_28 : decode cX2_moveStep 28 = .ok (.iload_n 2, 1) := by decide +kernel
theorem dX2_moveStep_29 : decode cX2_moveStep 29 = .ok (.aload_n 0, 1) := by decide +kernel
theorem dX2_moveStep_30 : decode cX2_moveStep 30 = .ok (.getfield 21, 3) := by decide +kernel
theorem dX2_moveStep_33 : decode cX2_moveStep 33 = .ok (.iload_n 1, 1) := by decide +kernel
theorem dX2_moveStep_34 : decode cX2_moveStep 34 = .ok (.iaload, 1) := by decide +kernel
theorem dX2_moveStep_35 : decode cX2_moveStep 35 = .ok (.iastore, 1) := by decide +kernel
theorem dX2_moveStep_36 : decode cX2_moveStep 36 = .ok (.return_, 1) := by decide +kernel
theorem dX2_appendStep_0 : decode cX2_appendStep 0 = .ok (.iload_n 1, 1) := by decide +kernel
theorem dX2_appendStep_1 : decode cX2_appendStep 1 = .ok (.aload_n 0, 1) := by decide +kernel
theorem dX2_appendStep_2 : decode cX2_appendStep 2 = .ok (.getfield 9, 3) := by decide +kernel
theorem dX2_appendStep_5 : decode cX2_appendStep 5 = .ok (.iload_n 1, 1) := by decide +kernel
theorem dX2_appendStep_6 : decode cX2_appendStep 6 = .ok (.iaload, 1) := by decide +kernel
theorem dX2_appendStep_7 : decode cX2_appendStep 7 = .ok (.invokestatic 47, 3) := by decide +kernel
theorem dX2_appendStep_10 : decode cX2_appendStep 10 = .ok (.istore 5, 2) := by decide +kernel
theorem dX2_appendStep_12 : decode cX2_appendStep 12 = .ok (.aload_n 0, 1) := by decide +kernel
theorem dX2_appendStep_13 : decode cX2_appendStep 13 = .ok (.getfield 15, 3) := by decide +kernel
theorem dX2_appendStep_16 : decode cX2_appendStep 16 = .ok (.iload 5, 2) := by decide +kernel
theorem dX2_appendStep_18 : decode cX2_appendStep 18 = .ok (.iload_n 2, 1) := by decide +kernel
theorem dX2_appendStep_19 : decode cX2_appendStep 19 = .ok (.iastore, 1) := by decide +kernel
theorem dX2_appendStep_20 : decode cX2_appendStep 20 = .ok (.aload_n 0, 1) := by decide +kernel
theorem dX2_appendStep_21 : decode cX2_appendStep 21 = .ok (.getfield 18, 3) := by decide +kernel
theorem dX2_appendStep_24 : decode cX2_appendStep 24 = .ok (.iload 5, 2) := by decide +kernel
theorem dX2_appendStep_26 : decode cX2_appendStep 26 = .ok (.iload_n 3, 1) := by decide +kernel
theorem dX2_appendStep_27 : decode cX2_appendStep 27 = .ok (.iastore, 1) := by decide +kernel
theorem dX2_appendStep_28 : decode cX2_appendStep 28 = .ok (.aload_n 0, 1) := by decide +kernel
theorem dX2_appendStep_29 : decode cX2_appendStep 29 = .ok (.getfield 21, 3) := by decide +kernel
theorem dX2_appendStep_32 : decode cX2_appendStep 32 = .ok (.iload 5, 2) := by decide +kernel
theorem dX2_appendStep_34 : decode cX2_appendStep 34 = .ok (.iload 4, 2) := by decide +kernel
theorem dX2_appendStep_36 : decode cX2_appendStep 36 = .ok (.iastore, 1) := by decide +kernel
theorem dX2_appendStep_37 : decode cX2_appendStep 37 = .ok (.aload_n 0, 1) := by decide +kernel
theorem dX2_appendStep_38 : decode cX2_appendStep 38 = .ok (.getfield 9, 3) := by decide +kernel
theorem dX2_appendStep_41 : decode cX2_appendStep 41 = .ok (.iload_n 1, 1) := by decide +kernel
theorem dX2_appendStep_42 : decode cX2_appendStep 42 = .ok (.dup2, 1) := by decide +kernel
theorem dX2_appendStep_43 : decode cX2_appendStep 43 = .ok (.iaload, 1) := by decide +kernel
theorem dX2_appendStep_44 : decode cX2_appendStep 44 = .ok (.iconst 1, 1) := by decide +kernel
theorem dX2_appendStep_45 : decode cX2_appendStep 45 = .ok (.iadd, 1) := by decide +kernel
theorem dX2_appendStep_46 : decode cX2_appendStep 46 = .ok (.iastore, 1) := by decide +kernel
theorem dX2_appendStep_47 : decode cX2_appendStep 47 = .ok (.aload_n 0, 1) := by decide +kernel
theorem dX2_appendStep_48 : decode cX2_appendStep 48 = .ok (.getfield 9, 3) := by decide +kernel
theorem dX2_appendStep_51 : decode cX2_appendStep 51 = .ok (.iload_n 1, 1) := by decide +kernel
theorem dX2_appendStep_52 : decode cX2_appendStep 52 = .ok (.iaload, 1) := by decide +kernel
theorem dX2_appendStep_53 : decode cX2_appendStep 53 = .ok (.ireturn, 1) := by decide +kernel
theorem dX2_dropStep_0 : decode cX2_dropStep 0 = .ok (.aload_n 0, 1) := by decide +kernel
theorem dX2_dropStep_1 : decode cX2_dropStep 1 = .ok (.getfield 9, 3) := by decide +kernel
theorem dX2_dropStep_4 : decode cX2_dropStep 4 = .ok (.iload_n 1, 1) := by decide +kernel
theorem dX2_dropStep_5 : decode cX2_dropStep 5 = .ok (.dup2, 1) := by decide +kernel
theorem dX2_dropStep_6 : decode cX2_dropStep 6 = .ok (.iaload, 1) := by decide +kernel
theorem dX2_dropStep_7 : decode cX2_dropStep 7 = .ok (.iconst 1, 1) := by decide +kernel
theorem dX2_dropStep_8 : decode cX2_dropStep 8 = .ok (.isub, 1) := by decide +kernel
theorem dX2_dropStep_9 : decode cX2_dropStep 9 = .ok (.iastore, 1) := by decide +kernel
theorem dX2_dropStep_10 : decode cX2_dropStep 10 = .ok (.iload_n 2, 1) := by decide +kernel
theorem dX2_dropStep_11 : decode cX2_dropStep 11 = .ok (.istore_n 3, 1) := by decide +kernel
theorem dX2_dropStep_12 : decode cX2_dropStep 12 = .ok (.iload_n 3, 1) := by decide +kernel
theorem dX2_dropStep_13 : decode cX2_dropStep 13 = .ok (.aload_n 0, 1) := by decide +kernel
theorem dX2_dropStep_14 : decode cX2_dropStep 14 = .ok (.getfield 9, 3) := by decide +kernel
theorem dX2_dropStep_17 : decode cX2_dropStep 17 = .ok (.iload_n 1, 1) := by decide +kernel
theorem dX2_dropStep_18 : decode cX2_dropStep 18 = .ok (.iaload, 1) := by decide +kernel
theorem dX2_dropStep_19 : decode cX2_dropStep 19 = .ok (.if_icmp .ge 25, 3) := by decide +kernel
theorem dX2_dropStep_22 : decode cX2_dropStep 22 = .ok (.aload_n 0, 1) := by decide +kernel
theorem dX2_dropStep_23 : decode cX2_dropStep 23 = .ok (.iload_n 1, 1) := by decide +kernel
theorem dX2_dropStep_24 : decode cX2_dropStep 24 = .ok (.iload_n 3, 1) := by decide +kernel
theorem dX2_dropStep_25 : decode cX2_dropStep 25 = .ok (.iconst 1, 1) := by decide +kernel
theorem dX2_dropStep_26 : decode cX2_dropStep 26 = .ok (.iadd, 1) := by decide +kernel
theorem dX2_dropStep_27 : decode cX2_dropStep 27 = .ok (.invokestatic 47, 3) := by decide +kernel
theorem dX2_dropStep_30 : decode cX2_dropStep 30 = .ok (.iload_n 1, 1) := by decide +kernel
theorem dX2_dropStep_31 : decode cX2_dropStep 31 = .ok (.iload_n 3, 1) := by decide +kernel
theorem dX2_dropStep_32 : decode cX2_dropStep 32 = .ok (.invokestatic 47, 3) := by decide +kernel
theorem dX2_dropStep_35 : decode cX2_dropStep 35 = .ok (.invokevirtual 51, 3) := by decide +kernel
theorem dX2_dropStep_38 : decode cX2_dropStep 38 = .ok (.iinc 3 1, 3) := by decide +kernel
theorem dX2_dropStep_41 : decode cX2_dropStep 41 = .ok (.goto (-29), 3) := by decide +kernel
theorem dX2_dropStep_44 : decode cX2_dropStep 44 = .ok (.aload_n 0, 1) := by decide +kernel
theorem dX2_dropStep_45 : decode cX2_dropStep 45 = .ok (.getfield 9, 3) := by decide +kernel
theorem dX2_dropStep_48 : decode cX2_dropStep 48 = .ok (.iload_n 1, 1) := by decide +kernel
theorem dX2_dropStep_49 : decode cX2_dropStep 49 = .ok (.iaload, 1) := by decide +kernel
theorem dX2_dropStep_50 : decode cX2_dropStep 50 = .ok (.ireturn, 1) := by decide +kernel
theorem dX2_lengthOf_0 : decode cX2_lengthOf 0 = .ok (.iconst 0, 1) := by decide +kernel
theorem dX2_lengthOf_1 : decode cX2_lengthOf 1 = .ok (.istore_n 2, 1) := by decide +kernel
theorem dX2_lengthOf_2 : decode cX2_lengthOf 2 = .ok (.iconst 0, 1) := by decide +kernel
theorem dX2_lengthOf_3 : decode cX2_lengthOf 3 = .ok (.istore_n 3, 1) := by decide +kernel
theorem dX2_lengthOf_4 : decode cX2_lengthOf 4 = .ok (.iload_n 3, 1) := by decide +kernel
theorem dX2_lengthOf_5 : decode cX2_lengthOf 5 = .ok (.aload_n 0, 1) := by decide +kernel
theorem dX2_lengthOf_6 : decode cX2_lengthOf 6 = .ok (.getfield 9, 3) := by decide +kernel
theorem dX2_lengthOf_9 : decode cX2_lengthOf 9 = .ok (.iload_n 1, 1) := by decide +kernel
theorem dX2_lengthOf_10 : decode cX2_lengthOf 10 = .ok (.iaload, 1) := by decide +kernel
theorem dX2_lengthOf_11 : decode cX2_lengthOf 11 = .ok (.if_icmp .ge 35, 3) := by decide +kernel
theorem dX2_lengthOf_14 : decode cX2_lengthOf 14 = .ok (.aload_n 0, 1) := by decide +kernel
theorem dX2_lengthOf_15 : decode cX2_lengthOf 15 = .ok (.getfield 15, 3) := by decide +kernel
theorem dX2_lengthOf_18 : decode cX2_lengthOf 18 = .ok (.iload_n 1, 1) := by decide +kernel
theorem dX2_lengthOf_19 : decode cX2_lengthOf 19 = .ok (.bipush 8, 2) := by decide +kernel
theorem dX2_lengthOf_21 : decode cX2_lengthOf 21 = .ok (.imul, 1) := by decide +kernel
theorem dX2_lengthOf_22 : decode cX2_lengthOf 22 = .ok (.iload_n 3, 1) := by decide +kernel
theorem dX2_lengthOf_23 : decode cX2_lengthOf 23 = .ok (.iadd, 1) := by decide +kernel
theorem dX2_lengthOf_24 : decode cX2_lengthOf 24 = .ok (.iaload, 1) := by decide +kernel
theorem dX2_lengthOf_25 : decode cX2_lengthOf 25 = .ok (.istore 4, 2) := by decide +kernel
theorem dX2_lengthOf_27 : decode cX2_lengthOf 27 = .ok (.iload 4, 2) := by decide +kernel
theorem dX2_lengthOf_29 : decode cX2_lengthOf 29 = .ok (.iload_n 2, 1) := by decide +kernel
theorem dX2_lengthOf_30 : decode cX2_lengthOf 30 = .ok (.if_icmp .le 8, 3) := by decide +kernel
theorem dX2_lengthOf_33 : decode cX2_lengthOf 33 = .ok (.iload 4, 2) := by decide +kernel
theorem dX2_lengthOf_35 : decode cX2_lengthOf 35 = .ok (.goto 4, 3) := by decide +kernel
theorem dX2_lengthOf_38 : decode cX2_lengthOf 38 = .ok (.iload_n 2, 1) := by decide +kernel
theorem dX2_lengthOf_39 : decode cX2_lengthOf 39 = .ok (.istore_n 2, 1) := by decide +kernel
theorem dX2_lengthOf_40 : decode cX2_lengthOf 40 = .ok (.iinc 3 1, 3) := by decide +kernel
theorem dX2_lengthOf_43 : decode cX2_lengthOf 43 = .ok (.goto (-39), 3) := by decide +kernel
theorem dX2_lengthOf_46 : decode cX2_lengthOf 46 = .ok (.iload_n 2, 1) := by decide +kernel
theorem dX2_lengthOf_47 : decode cX2_lengthOf 47 = .ok (.ireturn, 1) := by decide +kernel
theorem dX2_countUsing_0 : decode cX2_countUsing 0 = .ok (.iconst 0, 1) := by decide +kernel
theorem dX2_countUsing_1 : decode cX2_countUsing 1 = .ok (.istore_n 2, 1) := by decide +kernel
theorem dX2_countUsing_2 : decode cX2_countUsing 2 = .ok (.iconst 0, 1) := by decide +kernel
theorem dX2_countUsing_3 : decode cX2_countUsing 3 = .ok (.istore_n 3, 1) := by decide +kernel
theorem dX2_countUsing_4 : decode cX2_countUsing 4 = .ok (.iload_n 3, 1) := by decide +kernel
theorem dX2_countUsing_5 : decode cX2_countUsing 5 = .ok (.aload_n 0, 1) := by decide +kernel
theorem dX2_countUsing_6 : decode cX2_countUsing 6 = .ok (.getfield 24, 3) := by decide +kernel
theorem dX2_countUsing_9 : decode cX2_countUsing 9 = .ok (.if_icmp .ge 21, 3) := by decide +kernel
theorem dX2_countUsing_12 : decode cX2_countUsing 12 = .ok (.aload_n 0, 1) := by decide +kernel
theorem dX2_countUsing_13 : decode cX2_countUsing 13 = .ok (.iload_n 3, 1) := by decide +kernel
theorem dX2_countUsing_14 : decode cX2_countUsing 14 = .ok (.iload_n 1, 1) := by decide +kernel
theorem dX2_countUsing_15 : decode cX2_countUsing 15 = .ok (.invokevirtual 55, 3) := by decide +kernel
theorem dX2_countUsing_18 : decode cX2_countUsing 18 = .ok (.ifCond .eq 6, 3) := by decide +kernel
theorem dX2_countUsing_21 : decode cX2_countUsing 21 = .ok (.iinc 2 1, 3) := by decide +kernel
theorem dX2_countUsing_24 : decode cX2_countUsing 24 = .ok (.iinc 3 1, 3) := by decide +kernel
theorem dX2_countUsing_27 : decode cX2_countUsing 27 = .ok (.goto (-23), 3) := by decide +kernel
theorem dX2_countUsing_30 : decode cX2_countUsing 30 = .ok (.iload_n 2, 1) := by decide +kernel
theorem dX2_countUsing_31 : decode cX2_countUsing 31 = .ok (.ireturn, 1) := by decide +kernel
theorem dX2_uses_0 : decode cX2_uses 0 = .ok (.iconst 0, 1) := by decide +kernel
theorem dX2_uses_1 : decode cX2_uses 1 = .ok (.istore_n 3, 1) := by decide +kernel
theorem dX2_uses_2 : decode cX2_uses 2 = .ok (.iload_n 3, 1) := by decide +kernel
theorem dX2_uses_3 : decode cX2_uses 3 = .ok (.aload_n 0, 1) := by decide +kernel
theorem dX2_uses_4 : decode cX2_uses 4 = .ok (.getfield 9, 3) := by decide +kernel
theorem dX2_uses_7 : decode cX2_uses 7 = .ok (.iload_n 1, 1) := by decide +kernel
theorem dX2_uses_8 : decode cX2_uses 8 = .ok (.iaload, 1) := by decide +kernel
theorem dX2_uses_9 : decode cX2_uses 9 = .ok (.if_icmp .ge 25, 3) := by decide +kernel
theorem dX2_uses_12 : decode cX2_uses 12 = .ok (.aload_n 0, 1) := by decide +kernel
theorem dX2_uses_13 : decode cX2_uses 13 = .ok (.getfield 18, 3) := by decide +kernel
theorem dX2_uses_16 : decode cX2_uses 16 = .ok (.iload_n 1, 1) := by decide +kernel
theorem dX2_uses_17 : decode cX2_uses 17 = .ok (.iload_n 3, 1) := by decide +kernel
theorem dX2_uses_18 : decode cX2_uses 18 = .ok (.invokestatic 47, 3) := by decide +kernel
theorem dX2_uses_21 : decode cX2_uses 21 = .ok (.iaload, 1) := by decide +kernel
theorem dX2_uses_22 : decode cX2_uses 22 = .ok (.iload_n 2, 1) := by decide +kernel
theorem dX2_uses_23 : decode cX2_uses 23 = .ok (.if_icmp .ne 5, 3) := by decide +kernel
theorem dX2_uses_26 : decode cX2_uses 26 = .ok (.iconst 1, 1) := by decide +kernel
theorem dX2_uses_27 : decode cX2_uses 27 = .ok (.ireturn, 1) := by decide +kernel
theorem dX2_uses_28 : decode cX2_uses 28 = .ok (.iinc 3 1, 3) := by decide +kernel
theorem dX2_uses_31 : decode cX2_uses 31 = .ok (.goto (-29), 3) := by decide +kernel
theorem dX2_uses_34 : decode cX2_uses 34 = .ok (.iconst 0, 1) := by decide +kernel
theorem dX2_uses_35 : decode cX2_uses 35 = .ok (.ireturn, 1) := by decide +kernel
theorem dX2_forgetJet_0 : decode cX2_forgetJet 0 = .ok (.iconst 0, 1) := by decide +kernel
theorem dX2_forgetJet_1 : decode cX2_forgetJet 1 = .ok (.istore_n 2, 1) := by decide +kernel
theorem dX2_forgetJet_2 : decode cX2_forgetJet 2 = .ok (.iconst 0, 1) := by decide +kernel
theorem dX2_forgetJet_3 : decode cX2_forgetJet 3 = .ok (.istore_n 3, 1) := by decide +kernel
theorem dX2_forgetJet_4 : decode cX2_forgetJet 4 = .ok (.iload_n 3, 1) := by decide +kernel
theorem dX2_forgetJet_5 : decode cX2_forgetJet 5 = .ok (.aload_n 0, 1) := by decide +kernel
theorem dX2_forgetJet_6 : decode cX2_forgetJet 6 = .ok (.getfield 24, 3) := by decide +kernel
theorem dX2_forgetJet_9 : decode cX2_forgetJet 9 = .ok (.if_icmp .ge 18, 3) := by decide +kernel
theorem dX2_forgetJet_12 : decode cX2_forgetJet 12 = .ok (.iload_n 2, 1) := by decide +kernel
theorem dX2_forgetJet_13 : decode cX2_forgetJet 13 = .ok (.aload_n 0, 1) := by decide +kernel
theorem dX2_forgetJet_14 : decode cX2_forgetJet 14 = .ok (.iload_n 3, 1) := by decide +kernel
theorem dX2_forgetJet_15 : decode cX2_forgetJet 15 = .ok (.iload_n 1, 1) := by decide +kernel
theorem dX2_forgetJet_16 : decode cX2_forgetJet 16 = .ok (.invokevirtual 59, 3) := by decide +kernel
theorem dX2_forgetJet_19 : decode cX2_forgetJet 19 = .ok (.iadd, 1) := by decide +kernel
theorem dX2_forgetJet_20 : decode cX2_forgetJet 20 = .ok (.istore_n 2, 1) := by decide +kernel
theorem dX2_forgetJet_21 : decode cX2_forgetJet 21 = .ok (.iinc 3 1, 3) := by decide +kernel
theorem dX2_forgetJet_24 : decode cX2_forgetJet 24 = .ok (.goto (-20), 3) := by decide +kernel
theorem dX2_forgetJet_27 : decode cX2_forgetJet 27 = .ok (.iload_n 2, 1) := by decide +kernel
theorem dX2_forgetJet_28 : decode cX2_forgetJet 28 = .ok (.ireturn, 1) := by decide +kernel
theorem dX2_forgetJetIn_0 : decode cX2_forgetJetIn 0 = .ok (.aload_n 0, 1) := by decide +kernel
theorem dX2_forgetJetIn_1 : decode cX2_forgetJetIn 1 = .ok (.getfield 9, 3) := by decide +kernel
theorem dX2_forgetJetIn_4 : decode cX2_forgetJetIn 4 = .ok (.iload_n 1, 1) := by decide +kernel
theorem dX2_forgetJetIn_5 : decode cX2_forgetJetIn 5 = .ok (.iaload, 1) := by decide +kernel
theorem dX2_forgetJetIn_6 : decode cX2_forgetJetIn 6 = .ok (.istore_n 3, 1) := by decide +kernel
theorem dX2_forgetJetIn_7 : decode cX2_forgetJetIn 7 = .ok (.iconst 0, 1) := by decide +kernel
theorem dX2_forgetJetIn_8 : decode cX2_forgetJetIn 8 = .ok (.istore 4, 2) := by decide +kernel
theorem dX2_forgetJetIn_10 : decode cX2_forgetJetIn 10 = .ok (.iconst 0, 1) := by decide +kernel
theorem dX2_forgetJetIn_11 : decode cX2_forgetJetIn 11 = .ok (.istore 5, 2) := by decide +kernel
theorem dX2_forgetJetIn_13 : decode cX2_forgetJetIn 13 = .ok (.iload 5, 2) := by decide +kernel
theorem dX2_forgetJetIn_15 : decode cX2_forgetJetIn 15 = .ok (.iload_n 3, 1) := by decide +kernel
theorem dX2_forgetJetIn_16 : decode cX2_forgetJetIn 16 = .ok (.if_icmp .ge 84, 3) := by decide +kernel
theorem dX2_forgetJetIn_19 : decode cX2_forgetJetIn 19 = .ok (.iload_n 1, 1) := by decide +kernel
theorem dX2_forgetJetIn_20 : decode cX2_forgetJetIn 20 = .ok (.iload 5, 2) := by decide +kernel
theorem dX2_forgetJetIn_22 : decode cX2_forgetJetIn 22 = .ok (.invokestatic 47, 3) := by decide +kernel
theorem dX2_forgetJetIn_25 : decode cX2_forgetJetIn 25 = .ok (.istore 6, 2) := by decide +kernel
theorem dX2_forgetJetIn_27 : decode cX2_forgetJetIn 27 = .ok (.aload_n 0, 1) := by decide +kernel
theorem dX2_forgetJetIn_28 : decode cX2_forgetJetIn 28 = .ok (.getfield 18, 3) := by decide +kernel
theorem dX2_forgetJetIn_31 : decode cX2_forgetJetIn 31 = .ok (.iload 6, 2) := by decide +kernel
theorem dX2_forgetJetIn_33 : decode cX2_forgetJetIn 33 = .ok (.iaload, 1) := by decide +kernel
theorem dX2_forgetJetIn_34 : decode cX2_forgetJetIn 34 = .ok (.iload_n 2, 1) := by decide +kernel
theorem dX2_forgetJetIn_35 : decode cX2_forgetJetIn 35 = .ok (.if_icmp .eq 59, 3) := by decide +kernel
theorem dX2_forgetJetIn_38 : decode cX2_forgetJetIn 38 = .ok (.iload_n 1, 1) := by decide +kernel
theorem dX2_forgetJetIn_39 : decode cX2_forgetJetIn 39 = .ok (.iload 4, 2) := by decide +kernel
theorem dX2_forgetJetIn_41 : decode cX2_forgetJetIn 41 = .ok (.invokestatic 47, 3) := by decide +kernel
theorem dX2_forgetJetIn_44 : decode cX2_forgetJetIn 44 = .ok (.istore 7, 2) := by decide +kernel
theorem dX2_forgetJetIn_46 : decode cX2_forgetJetIn 46 = .ok (.aload_n 0, 1) := by decide +kernel
theorem dX2_forgetJetIn_47 : decode cX2_forgetJetIn 47 = .ok (.iload 6, 2) := by decide +kernel
theorem dX2_forgetJetIn_49 : decode cX2_forgetJetIn 49 = .ok (.iload 7, 2) := by decide +kernel
theorem dX2_forgetJetIn_51 : decode cX2_forgetJetIn 51 = .ok (.invokevirtual 51, 3) := by decide +kernel
theorem dX2_forgetJetIn_54 : decode cX2_forgetJetIn 54 = .ok (.aload_n 0, 1) := by decide +kernel
theorem dX2_forgetJetIn_55 : decode cX2_forgetJetIn 55 = .ok (.getfield 18, 3) := by decide +kernel
theorem dX2_forgetJetIn_58 : decode cX2_forgetJetIn 58 = .ok (.iload 7, 2) := by decide +kernel
theorem dX2_forgetJetIn_60 : decode cX2_forgetJetIn 60 = .ok (.aload_n 0, 1) := by decide +kernel
theorem dX2_forgetJetIn_61 : decode cX2_forgetJetIn 61 = .ok (.getfield 18, 3) := by decide +kernel
theorem dX2_forgetJetIn_64 : decode cX2_forgetJetIn 64 = .ok (.iload 7, 2) := by decide +kernel
theorem dX2_forgetJetIn_66 : decode cX2_forgetJetIn 66 = .ok (.iaload, 1) := by decide +kernel
theorem dX2_forgetJetIn_67 : decode cX2_forgetJetIn 67 = .ok (.iload_n 2, 1) := by decide +kernel
theorem dX2_forgetJetIn_68 : decode cX2_forgetJetIn 68 = .ok (.if_icmp .le 15, 3) := by decide +kernel
theorem dX2_forgetJetIn_71 : decode cX2_forgetJetIn 71 = .ok (.aload_n 0, 1) := by decide +kernel
theorem dX2_forgetJetIn_72 : decode cX2_forgetJetIn 72 = .ok (.getfield 18, 3) := by decide +kernel
theorem dX2_forgetJetIn_75 : decode cX2_forgetJetIn 75 = .ok (.iload 7, 2) := by decide +kernel
theorem dX2_forgetJetIn_77 : decode cX2_forgetJetIn 77 = .ok (.iaload, 1) := by decide +kernel
theorem dX2_forgetJetIn_78 : decode cX2_forgetJetIn 78 = .ok (.iconst 1, 1) := by decide +kernel
theorem dX2_forgetJetIn_79 : decode cX2_forgetJetIn 79 = .ok (.isub, 1) := by decide +kernel
theorem dX2_forgetJetIn_80 : decode cX2_forgetJetIn 80 = .ok (.goto 10, 3) := by decide +kernel
theorem dX2_forgetJetIn_83 : decode cX2_forgetJetIn 83 = .ok (.aload_n 0, 1) := by decide +kernel
theorem dX2_forgetJetIn_84 : decode cX2_forgetJetIn 84 = .ok (.getfield 18, 3) := by decide +kernel
theorem dX2_forgetJetIn_87 : decode cX2_forgetJetIn 87 = .ok (.iload 7, 2) := by decide +kernel
theorem dX2_forgetJetIn_89 : decode cX2_forgetJetIn 89 = .ok (.iaload, 1) := by decide +kernel
theorem dX2_forgetJetIn_90 : decode cX2_forgetJetIn 90 = .ok (.iastore, 1) := by decide +kernel
theorem dX2_forgetJetIn_91 : decode cX2_forgetJetIn 91 = .ok (.iinc 4 1, 3) := by decide +kernel
theorem dX2_forgetJetIn_94 : decode cX2_forgetJetIn 94 = .ok (.iinc 5 1, 3) := by decide +kernel
theorem dX2_forgetJetIn_97 : decode cX2_forgetJetIn 97 = .ok (.goto (-84), 3) := by decide +kernel
theorem dX2_forgetJetIn_100 : decode cX2_forgetJetIn 100 = .ok (.aload_n 0, 1) := by decide +kernel
theorem dX2_forgetJetIn_101 : decode cX2_forgetJetIn 101 = .ok (.getfield 9, 3) := by decide +kernel
theorem dX2_forgetJetIn_104 : decode cX2_forgetJetIn 104 = .ok (.iload_n 1, 1) := by decide +kernel
theorem dX2_forgetJetIn_105 : decode cX2_forgetJetIn 105 = .ok (.iload 4, 2) := by decide +kernel
theorem dX2_forgetJetIn_107 : decode cX2_forgetJetIn 107 = .ok (.iastore, 1) := by decide +kernel
theorem dX2_forgetJetIn_108 : decode cX2_forgetJetIn 108 = .ok (.iload_n 3, 1) := by decide +kernel
theorem dX2_forgetJetIn_109 : decode cX2_forgetJetIn 109 = .ok (.iload 4, 2) := by decide +kernel
theorem dX2_forgetJetIn_111 : decode cX2_forgetJetIn 111 = .ok (.isub, 1) := by decide +kernel
theorem dX2_forgetJetIn_112 : decode cX2_forgetJetIn 112 = .ok (.ireturn, 1) := by decide +kernel
end
section
theorem dX3_init_0 : decode cX3_init 0 = .ok (.aload_n 0, 1) := by decide +kernel
theorem dX3_init_1 : decode cX3_init 1 = .ok (.invokespecial 3, 3) := by decide +kernel
theorem dX3_init_4 : decode cX3_init 4 = .ok (.aload_n 0, 1) := by decide +kernel
theorem dX3_init_5 : decode cX3_init 5 = .ok (.bipush 10, 2) := by decide +kernel
theorem dX3_init_7 : decode cX3_init 7 = .ok (.newarray .int, 2) := by decide +kernel
theorem dX3_init_9 : decode cX3_init 9 = .ok (.putfield 9, 3) := by decide +kernel
theorem dX3_init_12 : decode cX3_init 12 = .ok (.aload_n 0, 1) := by decide +kernel
theorem dX3_init_13 : decode cX3_init 13 = .ok (.bipush 10, 2) := by decide +kernel
theorem dX3_init_15 : decode cX3_init 15 = .ok (.newarray .int, 2) := by decide +kernel
theorem dX3_init_17 : decode cX3_init 17 = .ok (.putfield 15, 3) := by decide +kernel
theorem dX3_init_20 : decode cX3_init 20 = .ok (.aload_n 0, 1) := by decide +kernel
theorem dX3_init_21 : decode cX3_init 21 = .ok (.iconst 0, 1) := by decide +kernel
theorem dX3_init_22 : decode cX3_init 22 = .ok (.putfield 18, 3) := by decide +kernel
theorem dX3_init_25 : decode cX3_init 25 = .ok (.aload_n 0, 1) := by decide +kernel
theorem dX3_init_26 : decode cX3_init 26 = .ok (.bipush 40, 2) := by decide +kernel
theorem dX3_init_28 : decode cX3_init 28 = .ok (.putfield 22, 3) := by decide +kernel
theorem dX3_init_31 : decode cX3_init 31 = .ok (.aload_n 0, 1) := by decide +kernel
theorem dX3_init_32 : decode cX3_init 32 = .ok (.iconst 0, 1) := by decide +kernel
theorem dX3_init_33 : decode cX3_init 33 = .ok (.putfield 25, 3) := by decide +kernel
theorem dX3_init_36 : decode cX3_init 36 = .ok (.return_, 1) := by decide +kernel
theorem dX3_copyFrom_0 : decode cX3_copyFrom 0 = .ok (.aload_n 1, 1) := by decide +kernel
theorem dX3_copyFrom_1 : decode cX3_copyFrom 1 = .ok (.getfield 9, 3) := by decide +kernel
theorem dX3_copyFrom_4 : decode cX3_copyFrom 4 = .ok (.iconst 0, 1) := by decide +kernel
theorem dX3_copyFrom_5 : decode cX3_copyFrom 5 = .ok (.aload_n 0, 1) := by decide +kernel
theorem dX3_copyFrom_6 : decode cX3_copyFrom 6 = .ok (.getfield 9, 3) := by decide +kernel
theorem dX3_copyFrom_9 : decode cX3_copyFrom 9 = .ok (.iconst 0, 1) := by decide +kernel
theorem dX3_copyFrom_10 : decode cX3_copyFrom 10 = .ok (.bipush 10, 2) := by decide +kernel
theorem dX3_copyFrom_12 : decode cX3_copyFrom 12 = .ok (.invokestatic 28, 3) := by decide +kernel
theorem dX3_copyFrom_15 : decode cX3_copyFrom 15 = .ok (.aload_n 1, 1) := by decide +kernel
theorem dX3_copyFrom_16 : decode cX3_copyFrom 16 = .ok (.getfield 15, 3) := by decide +kernel
theorem dX3_copyFrom_19 : decode cX3_copyFrom 19 = .ok (.iconst 0, 1) := by decide +kernel
theorem dX3_copyFrom_20 : decode cX3_copyFrom 20 = .ok (.aload_n 0, 1) := by decide +kernel
theorem dX3_copyFrom_21 : decode cX3_copyFrom 21 = .ok (.getfield 15, 3) := by decide +kernel
theorem dX3_copyFrom_24 : decode cX3_copyFrom 24 = .ok (.iconst 0, 1) := by decide +kernel
theorem dX3_copyFrom_25 : decode cX3_copyFrom 25 = .ok (.bipush 10, 2) := by decide +kernel
theorem dX3_copyFrom_27 : decode cX3_copyFrom 27 = .ok (.invokestatic 28, 3) := by decide +kernel
theorem dX3_copyFrom_30 : decode cX3_copyFrom 30 = .ok (.aload_n 0, 1) := by decide +kernel
theorem dX3_copyFrom_31 : decode cX3_copyFrom 31 = .ok (.aload_n 1, 1) := by decide +kernel
theorem dX3_copyFrom_32 : decode cX3_copyFrom 32 = .ok (.getfield 18, 3) := by decide +kernel
theorem dX3_copyFrom_35 : decode cX3_copyFrom 35 = .ok (.putfield 18, 3) := by decide +kernel
theorem dX3_copyFrom_38 : decode cX3_copyFrom 38 = .ok (.aload_n 0, 1) := by decide +kernel
theorem dX3_copyFrom_39 : decode cX3_copyFrom 39 = .ok (.aload_n 1, 1) := by decide +kernel
theorem dX3_copyFrom_40 : decode cX3_copyFrom 40 = .ok (.getfield 22, 3) := by decide +kernel
theorem dX3_copyFrom_43 : decode cX3_copyFrom 43 = .ok (.putfield 22, 3) := by decide +kernel
theorem dX3_copyFrom_46 : decode cX3_copyFrom 46 = .ok (.aload_n 0, 1) := by decide +kernel
theorem dX3_copyFrom_47 : decode cX3_copyFrom 47 = .ok (.aload_n 1, 1) := by decide +kernel
theorem dX3_copyFrom_48 : decode cX3_copyFrom 48 = .ok (.getfield 25, 3) := by decide +kernel
theorem dX3_copyFrom_51 : decode cX3_copyFrom 51 = .ok (.putfield 25, 3) := by decide +kernel
theorem dX3_copyFrom_54 : decode cX3_copyFrom 54 = .ok (.return_, 1) := by decide +kernel
theorem dX3_has_0 : decode cX3_has 0 = .ok (.iload_n 1, 1) := by decide +kernel
theorem dX3_has_1 : decode cX3_has 1 = .ok (.ifCond .lt 15, 3) := by decide +kernel
theorem dX3_has_4 : decode cX3_has 4 = .ok (.iload_n 1, 1) := by decide +kernel
theorem dX3_has_5 : decode cX3_has 5 = .ok (.aload_n 0, 1) := by decide +kernel
theorem dX3_has_6 : decode cX3_has 6 = .ok (.getfield 18, 3) := by decide +kernel
theorem dX3_has_9 : decode cX3_has 9 = .ok (.if_icmp .ge 7, 3) := by decide +kernel
theorem dX3_has_12 : decode cX3_has 12 = .ok (.iconst 1, 1) := by decide +kernel
theorem dX3_has_13 : decode cX3_has 13 = .ok (.goto 4, 3) := by decide +kernel
theorem dX3_has_16 : decode cX3_has 16 = .ok (.iconst 0, 1) := by decide +kernel
theorem dX3_has_17 : decode cX3_has 17 = .ok (.ireturn, 1) := by decide +kernel
theorem dX3_problemOfAdding_0 : decode cX3_problemOfAdding 0 = .ok (.iload_n 1, 1) := by decide +kernel
theorem dX3_problemOfAdding_1 : decode cX3_problemOfAdding 1 = .ok (.ifCond .lt 9, 3) := by decide +kernel
theorem dX3_problemOfAdding_4 : decode cX3_problemOfAdding 4 = .ok (.iload_n 1, 1) := by decide +kernel
theorem dX3_problemOfAdding_5 : decode cX3_problemOfAdding 5 = .ok (.bipush 99, 2) := by decide +kernel
theorem dX3_problemOfAdding_7 : decode cX3_problemOfAdding 7 = .ok (.if_icmp .le 7, 3) := by decide +kernel
theorem dX3_problemOfAdding_10 : decode cX3_problemOfAdding 10 = .ok (.getstatic 34, 3) := by decide +kernel
theorem dX3_problemOfAdding_13 : decode cX3_problemOfAdding 13 = .ok (.areturn, 1) := by decide +kernel
theorem dX3_problemOfAdding_14 : decode cX3_problemOfAdding 14 = .ok (.aload_n 0, 1) := by decide +kernel
theorem dX3_problemOfAdding_15 : decode cX3_problemOfAdding 15 = .ok (.iload_n 1, 1) := by decide +kernel
theorem dX3_problemOfAdding_16 : decode cX3_problemOfAdding 16 = .ok (.invokevirtual 40, 3) := by decide +kernel
theorem dX3_problemOfAdding_19 : decode cX3_problemOfAdding 19 = .ok (.ifCond .eq 7, 3) := by decide +kernel
theorem dX3_problemOfAdding_22 : decode cX3_problemOfAdding 22 = .ok (.getstatic 44, 3) := by decide +kernel
theorem dX3_problemOfAdding_25 : decode cX3_problemOfAdding 25 = .ok (.areturn, 1) := by decide +kernel
theorem dX3_problemOfAdding_26 : decode cX3_problemOfAdding 26 = .ok (.aload_n 0, 1) := by decide +kernel
theorem dX3_problemOfAdding_27 : decode cX3_problemOfAdding 27 = .ok (.getfield 18, 3) := by decide +kernel
theorem dX3_problemOfAdding_30 : decode cX3_problemOfAdding 30 = .ok (.bipush 10, 2) := by decide +kernel
theorem dX3_problemOfAdding_32 : decode cX3_problemOfAdding 32 = .ok (.if_icmp .ge 9, 3) := by decide +kernel
theorem dX3_problemOfAdding_35 : decode cX3_problemOfAdding 35 = .ok (.getstatic 47, 3) := by decide +kernel
theorem dX3_problemOfAdding_38 : decode cX3_problemOfAdding 38 = .ok (.goto 6, 3) := by decide +kernel
theorem dX3_problemOfAdding_41 : decode cX3_problemOfAdding 41 = .ok (.getstatic 50, 3) := by decide +kernel
theorem dX3_problemOfAdding_44 : decode cX3_problemOfAdding 44 = .ok (.areturn, 1) := by decide +kernel
theorem dX3_isTaken_0 : decode cX3_isTaken 0 = .ok (.iconst 0, 1) := by decide +kernel
theorem dX3_isTaken_1 : decode cX3_isTaken 1 = .ok (.istore_n 2, 1) := by decide +kernel
theorem dX3_isTaken_2 : decode cX3_isTaken 2 = .ok (.iload_n 2, 1) := by decide +kernel
theorem dX3_isTaken_3 : decode cX3_isTaken 3 = .ok (.aload_n 0, 1) := by decide +kernel
theorem dX3_isTaken_4 : decode cX3_isTaken 4 = .ok (.getfield 18, 3) := by decide +kernel
theorem dX3_isTaken_7 : decode cX3_isTaken 7 = .ok (.if_icmp .ge 21, 3) := by decide +kernel
theorem dX3_isTaken_10 : decode cX3_isTaken 10 = .ok (.aload_n 0, 1) := by decide +kernel
theorem dX3_isTaken_11 : decode cX3_isTaken 11 = .ok (.getfield 9, 3) := by decide +kernel
theorem dX3_isTaken_14 : decode cX3_isTaken 14 = .ok (.iload_n 2, 1) := by decide +kernel
theorem dX3_isTaken_15 : decode cX3_isTaken 15 = .ok (.iaload, 1) := by decide +kernel
theorem dX3_isTaken_16 : decode cX3_isTaken 16 = .ok (.iload_n 1, 1) := by decide +kernel
theorem dX3_isTaken_17 : decode cX3_isTaken 17 = .ok (.if_icmp .ne 5, 3) := by decide +kernel
theorem dX3_isTaken_20 : decode cX3_isTaken 20 = .ok (.iconst 1, 1) := by decide +kernel
theorem dX3_isTaken_21 : decode cX3_isTaken 21 = .ok (.ireturn, 1) := by decide +kernel
theorem dX3_isTaken_22 : decode cX3_isTaken 22 = .ok (.iinc 2 1, 3) := by decide +kernel
theorem dX3_isTaken_25 : decode cX3_isTaken 25 = .ok (.goto (-23), 3) := by decide +kernel
theorem dX3_isTaken_28 : decode cX3_isTaken 28 = .ok (.iconst 0, 1) := by decide +kernel
theorem dX3_isTaken_29 : decode cX3_isTaken 29 = .ok (.ireturn, 1) := by decide +kernel
theorem dX3_append_0 : decode cX3_append 0 = .ok (.aload_n 0, 1) := by decide +kernel
theorem dX3_append_1 : decode cX3_append 1 = .ok (.getfield 9, 3) := by decide +kernel
theorem dX3_append_4 : decode cX3_append 4 = .ok (.aload_n 0, 1) := by decide +kernel
theorem dX3_append_5 : decode cX3_append 5 = .ok (.getfield 18, 3) := by decide +kernel
theorem dX3_append_8 : decode cX3_append 8 = .ok (.iload_n 1, 1) := by decide +kernel
theorem dX3_append_9 : decode cX3_append 9 = .ok (.iastore, 1) := by decide +kernel
theorem dX3_append_10 : decode cX3_append 10 = .ok (.aload_n 0, 1) := by decide +kernel
theorem dX3_append_11 : decode cX3_append 11 = .ok (.getfield 15, 3) := by decide +kernel
theorem dX3_append_14 : decode cX3_append 14 = .ok (.aload_n 0, 1) := by decide +kernel
theorem dX3_append_15 : decode cX3_append 15 = .ok (.getfield 18, 3) := by decide +kernel
theorem dX3_append_18 : decode cX3_append 18 = .ok (.iconst 0, 1) := by decide +kernel
theorem dX3_append_19 : decode cX3_append 19 = .ok (.iastore, 1) := by decide +kernel
theorem dX3_append_20 : decode cX3_append 20 = .ok (.aload_n 0, 1) := by decide +kernel
theorem dX3_append_21 : decode cX3_append 21 = .ok (.dup, 1) := by decide +kernel
theorem dX3_append_22 : decode cX3_append 22 = .ok (.getfield 18, 3) := by decide +kernel
theorem dX3_append_25 : decode cX3_append 25 = .ok (.iconst 1, 1) := by decide +kernel
theorem dX3_append_26 : decode cX3_append 26 = .ok (.iadd, 1) := by decide +kernel
theorem dX3_append_27 : decode cX3_append 27 = .ok (.putfield 18, 3) := by decide +kernel
theorem dX3_append_30 : decode cX3_append 30 = .ok (.aload_n 0, 1) := by decide +kernel
theorem dX3_append_31 : decode cX3_append 31 = .ok (.getfield 18, 3) := by decide +kernel
theorem dX3_append_34 : decode cX3_append 34 = .ok (.iconst 1, 1) := by decide +kernel
theorem dX3_append_35 : decode cX3_append 35 = .ok (.isub, 1) := by decide +kernel
theorem dX3_append_36 : decode cX3_append 36 = .ok (.ireturn, 1) := by decide +kernel
theorem dX3_drop_0 : decode cX3_drop 0 = .ok (.aload_n 0, 1) := by decide +kernel
theorem dX3_drop_1 : decode cX3_drop 1 = .ok (.dup, 1) := by decide +kernel
theorem dX3_drop_2 : decode cX3_drop 2 = .ok (.getfield 18, 3) := by decide +kernel
theorem dX3_drop_5 : decode cX3_drop 5 = .ok (.iconst 1, 1) := by decide +kernel
theorem dX3_drop_6 : decode cX3_drop 6 = .ok (.isub, 1) := by decide +kernel
theorem dX3_drop_7 : decode cX3_drop 7 = .ok (.putfield 18, 3) := by decide +kernel
theorem dX3_drop_10 : decode cX3_drop 10 = .ok (.iload_n 1, 1) := by decide +kernel
theorem dX3_drop_11 : decode cX3_drop 11 = .ok (.istore_n 2, 1) := by decide +kernel
theorem dX3_drop_12 : decode cX3_drop 12 = .ok (.iload_n 2, 1) := by decide +kernel
theorem dX3_drop_13 : decode cX3_drop 13 = .ok (.aload_n 0, 1) := by decide +kernel
theorem dX3_drop_14 : decode cX3_drop 14 = .ok (.getfield 18, 3) := by decide +kernel
theorem dX3_drop_17 : decode cX3_drop 17 = .ok (.if_icmp .ge 37, 3) := by decide +kernel
theorem dX3_drop_20 : decode cX3_drop 20 = .ok (.aload_n 0, 1) := by decide +kernel
theorem dX3_drop_21 : decode cX3_drop 21 = .ok (.getfield 9, 3) := by decide +kernel
theorem dX3_drop_24 : decode cX3_drop 24 = .ok (.iload_n 2, 1) := by decide +kernel
theorem dX3_drop_25 : decode cX3_drop 25 = .ok (.aload_n 0, 1) := by decide +kernel
theorem dX3_drop_26 : decode cX3_drop 26 = .ok (.getfield 9, 3) := by decide +kernel
theorem dX3_drop_29 : decode cX3_drop 29 = .ok (.iload_n 2, 1) := by decide +kernel
theorem dX3_drop_30 : decode cX3_drop 30 = .ok (.iconst 1, 1) := by decide +kernel
theorem dX3_drop_31 : decode cX3_drop 31 = .ok (.iadd, 1) := by decide +kernel
theorem dX3_drop_32 : decode cX3_drop 32 = .ok (.iaload, 1) := by decide +kernel
theorem dX3_drop_33 : decode cX3_drop 33 = .ok (.iastore, 1) := by decide +kernel
theorem dX3_drop_34 : decode cX3_drop 34 = .ok (.aload_n 0, 1) := by decide +kernel
theorem dX3_drop_35 : decode cX3_drop 35 = .ok (.getfield 15, 3) := by decide +kernel
theorem dX3_drop_38 : decode cX3_drop 38 = .ok (.iload_n 2, 1) := by decide +kernel
theorem dX3_drop_39 : decode cX3_drop 39 = .ok (.aload_n 0, 1) := by decide +kernel
theorem dX3_drop_40 : decode cX3_drop 40 = .ok (.getfield 15, 3) := by decide +kernel
theorem dX3_drop_43 : decode cX3_drop 43 = .ok (.iload_n 2, 1) := by decide +kernel
theorem dX3_drop_44 : decode cX3_drop 44 = .ok (.iconst 1, 1) := by decide +kernel
theorem dX3_drop_45 : decode cX3_drop 45 = .ok (.iadd, 1) := by decide +kernel
theorem dX3_drop_46 : decode cX3_drop 46 = .ok (.iaload, 1) := by decide +kernel
theorem dX3_drop_47 : decode cX3_drop 47 = .ok (.iastore, 1) := by decide +kernel
theorem dX3_drop_48 : decode cX3_drop 48 = .ok (.iinc 2 1, 3) := by decide +kernel
theorem dX3_drop_51 : decode cX3_drop 51 = .ok (.goto (-39), 3) := by decide +kernel
theorem dX3_drop_54 : decode cX3_drop 54 = .ok (.return_, 1) := by decide +kernel
theorem dX3_problemOfOpening_0 : decode cX3_problemOfOpening 0 = .ok (.aload_n 0, 1) := by decide +kernel
theorem dX3_problemOfOpening_1 : decode cX3_problemOfOpening 1 = .ok (.iload_n 1, 1) := by decide +kernel
theorem dX3_problemOfOpening_2 : decode cX3_problemOfOpening 2 = .ok (.invokevirtual 53, 3) := by decide +kernel
theorem dX3_problemOfOpening_5 : decode cX3_problemOfOpening 5 = .ok (.ifCond .ne 7, 3) := by decide +kernel
theorem dX3_problemOfOpening_8 : decode cX3_problemOfOpening 8 = .ok (.getstatic 56, 3) := by decide +kernel
theorem dX3_problemOfOpening_11 : decode cX3_problemOfOpening 11 = .ok (.areturn, 1) := by decide +kernel
theorem dX3_problemOfOpening_12 : decode cX3_problemOfOpening 12 = .ok (.iload_n 2, 1) := by decide +kernel
theorem dX3_problemOfOpening_13 : decode cX3_problemOfOpening 13 = .ok (.ifCond .lt 9, 3) := by decide +kernel
theorem dX3_problemOfOpening_16 : decode cX3_problemOfOpening 16 = .ok (.iload_n 2, 1) := by decide +kernel
theorem dX3_problemOfOpening_17 : decode cX3_problemOfOpening 17 = .ok (.bipush 10, 2) := by decide +kernel
theorem dX3_problemOfOpening_19 : decode cX3_problemOfOpening 19 = .ok (.if_icmp .le 9, 3) := by decide +kernel
theorem dX3_problemOfOpening_22 : decode cX3_problemOfOpening 22 = .ok (.getstatic 34, 3) := by decide +kernel
theorem dX3_problemOfOpening_25 : decode cX3_problemOfOpening 25 = .ok (.goto 6, 3) := by decide +kernel
theorem dX3_problemOfOpening_28 : decode cX3_problemOfOpening 28 = .ok (.getstatic 47, 3) := by decide +kernel
theorem dX3_problemOfOpening_31 : decode cX3_problemOfOpening 31 = .ok (.areturn, 1) := by decide +kernel
theorem dX3_changeOpening_0 : decode cX3_changeOpening 0 = .ok (.aload_n 0, 1) := by decide +kernel
theorem dX3_changeOpening_1 : decode cX3_changeOpening 1 = .ok (.getfield 15, 3) := by decide +kernel
theorem dX3_changeOpening_4 : decode cX3_changeOpening 4 = .ok (.iload_n 1, 1) := by decide +kernel
theorem dX3_changeOpening_5 : decode cX3_changeOpening 5 = .ok (.iaload, 1) := by decide +kernel
theorem dX3_changeOpening_6 : decode cX3_changeOpening 6 = .ok (.istore_n 3, 1) := by decide +kernel
theorem dX3_changeOpening_7 : decode cX3_changeOpening 7 = .ok (.aload_n 0, 1) := by decide +kernel
theorem dX3_changeOpening_8 : decode cX3_changeOpening 8 = .ok (.getfield 15, 3) := by decide +kernel
theorem dX3_changeOpening_11 : decode cX3_changeOpening 11 = .ok (.iload_n 1, 1) := by decide +kernel
theorem dX3_changeOpening_12 : decode cX3_changeOpening 12 = .ok (.iload_n 2, 1) := by decide +kernel
theorem dX3_changeOpening_13 : decode cX3_changeOpening 13 = .ok (.iastore, 1) := by decide +kernel
theorem dX3_changeOpening_14 : decode cX3_changeOpening 14 = .ok (.iload_n 3, 1) := by decide +kernel
theorem dX3_changeOpening_15 : decode cX3_changeOpening 15 = .ok (.ireturn, 1) := by decide +kernel
theorem dX3_problemOfCapacity_0 : decode cX3_problemOfCapacity 0 = .ok (.iload_n 1, 1) := by decide +kernel
theorem dX3_problemOfCapacity_1 : decode cX3_problemOfCapacity 1 = .ok (.ifCond .lt 9, 3) := by decide +kernel
theorem dX3_problemOfCapacity_4 : decode cX3_problemOfCapacity 4 = .ok (.iload_n 1, 1) := by decide +kernel
theorem dX3_problemOfCapacity_5 : decode cX3_problemOfCapacity 5 = .ok (.bipush 100, 2) := by decide +kernel
theorem dX3_problemOfCapacity_7 : decode cX3_problemOfCapacity 7 = .ok (.if_icmp .le 9, 3) := by decide +kernel
theorem dX3_problemOfCapacity_10 : decode cX3_problemOfCapacity 10 = .ok (.getstatic 34, 3) := by decide +kernel
theorem dX3_problemOfCapacity_13 : decode cX3_problemOfCapacity 13 = .ok (.goto 6, 3) := by decide +kernel
theorem dX3_problemOfCapacity_16 : decode cX3_problemOfCapacity 16 = .ok (.getstatic 47, 3) := by decide +kernel
theorem dX3_problemOfCapacity_19 : decode cX3_problemOfCapacity 19 = .ok (.areturn, 1) := by decide +kernel
theorem dX3_changeCapacity_0 : decode cX3_changeCapacity 0 = .ok (.aload_n 0, 1) := by decide +kernel
theorem dX3_changeCapacity_1 : decode cX3_changeCapacity 1 = .ok (.getfield 22, 3) := by decide +kernel
theorem dX3_changeCapacity_4 : decode cX3_changeCapacity 4 = .ok (.istore_n 2, 1) := by decide +kernel
theorem dX3_changeCapacity_5 : decode cX3_changeCapacity 5 = .ok (.aload_n 0, 1) := by decide +kernel
theorem dX3_changeCapacity_6 : decode cX3_changeCapacity 6 = .ok (.iload_n 1, 1) := by decide +kernel
theorem dX3_changeCapacity_7 : decode cX3_changeCapacity 7 = .ok (.putfield 22, 3) := by decide +kernel
theorem dX3_changeCapacity_10 : decode cX3_changeCapacity 10 = .ok (.iload_n 2, 1) := by decide +kernel
theorem dX3_changeCapacity_11 : decode cX3_changeCapacity 11 = .ok (.ireturn, 1) := by decide +kernel
theorem dX3_problemOfWind_0 : decode cX3_problemOfWind 0 = .ok (.iload_n 1, 1) := by decide +kernel
theorem dX3_problemOfWind_1 : decode cX3_problemOfWind 1 = .ok (.bipush (-9), 2) := by decide +kernel
theorem dX3_problemOfWind_3 : decode cX3_problemOfWind 3 = .ok (.if_icmp .lt 9, 3) := by decide +kernel
theorem dX3_problemOfWind_6 : decode cX3_problemOfWind 6 = .ok (.iload_n 1, 1) := by decide +kernel
theorem dX3_problemOfWind_7 : decode cX3_problemOfWind 7 = .ok (.bipush 9, 2) := by decide +kernel
theorem dX3_problemOfWind_9 : decode cX3_problemOfWind 9 = .ok (.if_icmp .le 9, 3) := by decide +kernel
theorem dX3_problemOfWind_12 : decode cX3_problemOfWind 12 = .ok (.getstatic 34, 3) := by decide +kernel
theorem dX3_problemOfWind_15 : decode cX3_problemOfWind 15 = .ok (.goto 6, 3) := by decide +kernel
theorem dX3_problemOfWind_18 : decode cX3_problemOfWind 18 = .ok (.getstatic 47, 3) := by decide +kernel
theorem dX3_problemOfWind_21 : decode cX3_problemOfWind 21 = .ok (.areturn, 1) := by decide +kernel
theorem dX3_changeWind_0 : decode cX3_changeWind 0 = .ok (.aload_n 0, 1) := by decide +kernel
theorem dX3_changeWind_1 : decode cX3_changeWind 1 = .ok (.getfield 25, 3) := by decide +kernel
theorem dX3_changeWind_4 : decode cX3_changeWind 4 = .ok (.istore_n 2, 1) := by decide +kernel
theorem dX3_changeWind_5 : decode cX3_changeWind 5 = .ok (.aload_n 0, 1) := by decide +kernel
theorem dX3_changeWind_6 : decode cX3_changeWind 6 = .ok (.iload_n 1, 1) := by decide +kernel
theorem dX3_changeWind_7 : decode cX3_changeWind 7 = .ok (.putfield 25, 3) := by decide +kernel
theorem dX3_changeWind_10 : decode cX3_changeWind 10 = .ok (.iload_n 2, 1) := by decide +kernel
theorem dX3_changeWind_11 : decode cX3_changeWind 11 = .ok (.ireturn, 1) := by decide +kernel
theorem dX3_sumOfOpenings_0 : decode cX3_sumOfOpenings 0 = .ok (.iconst 0, 1) := by decide +kernel
theorem dX3_sumOfOpenings_1 : decode cX3_sumOfOpenings 1 = .ok (.istore_n 1, 1) := by decide +kernel
theorem dX3_sumOfOpenings_2 : decode cX3_sumOfOpenings 2 = .ok (.iconst 0, 1) := by decide +kernel
theorem dX3_sumOfOpenings_3 : decode cX3_sumOfOpenings 3 = .ok (.istore_n 2, 1) := by decide +kernel
theorem dX3_sumOfOpenings_4 : decode cX3_sumOfOpenings 4 = .ok (.iload_n 2, 1) := by decide +kernel
theorem dX3_sumOfOpenings_5 : decode cX3_sumOfOpenings 5 = .ok (.aload_n 0, 1) := by decide +kernel
theorem dX3_sumOfOpenings_6 : decode cX3_sumOfOpenings 6 = .ok (.getfield 18, 3) := by decide +kernel
theorem dX3_sumOfOpenings_9 : decode cX3_sumOfOpenings 9 = .ok (.if_icmp .ge 18, 3) := by decide +kernel
theorem dX3_sumOfOpenings_12 : decode cX3_sumOfOpenings 12 = .ok (.iload_n 1, 1) := by decide +kernel
theorem dX3_sumOfOpenings_13 : decode cX3_sumOfOpenings 13 = .ok (.aload_n 0, 1) := by decide +kernel
theorem dX3_sumOfOpenings_14 : decode cX3_sumOfOpenings 14 = .ok (.getfield 15, 3) := by decide +kernel
theorem dX3_sumOfOpenings_17 : decode cX3_sumOfOpenings 17 = .ok (.iload_n 2, 1) := by decide +kernel
theorem dX3_sumOfOpenings_18 : decode cX3_sumOfOpenings 18 = .ok (.iaload, 1) := by decide +kernel
theorem dX3_sumOfOpenings_19 : decode cX3_sumOfOpenings 19 = .ok (.iadd, 1) := by decide +kernel
theorem dX3_sumOfOpenings_20 : decode cX3_sumOfOpenings 20 = .ok (.istore_n 1, 1) := by decide +kernel
theorem dX3_sumOfOpenings_21 : decode cX3_sumOfOpenings 21 = .ok (.iinc 2 1, 3) := by decide +kernel
theorem dX3_sumOfOpenings_24 : decode cX3_sumOfOpenings 24 = .ok (.goto (-20), 3) := by decide +kernel
theorem dX3_sumOfOpenings_27 : decode cX3_sumOfOpenings 27 = .ok (.iload_n 1, 1) := by decide +kernel
theorem dX3_sumOfOpenings_28 : decode cX3_sumOfOpenings 28 = .ok (.ireturn, 1) := by decide +kernel
theorem dX3_supplyFor_0 : decode cX3_supplyFor 0 = .ok (.iload_n 1, 1) := by decide +kernel
theorem dX3_supplyFor_1 : decode cX3_supplyFor 1 = .ok (.aload_n 0, 1) := by decide +kernel
theorem dX3_supplyFor_2 : decode cX3_supplyFor 2 = .ok (.getfield 22, 3) := by decide +kernel
theorem dX3_supplyFor_5 : decode cX3_supplyFor 5 = .ok (.invokestatic 59, 3) := by decide +kernel
theorem dX3_supplyFor_8 : decode cX3_supplyFor 8 = .ok (.ireturn, 1) := by decide +kernel
theorem dX3_heightOf_0 : decode cX3_heightOf 0 = .ok (.bipush 10, 2) := by decide +kernel
theorem dX3_heightOf_2 : decode cX3_heightOf 2 = .ok (.aload_n 0, 1) := by decide +kernel
theorem dX3_heightOf_3 : decode cX3_heightOf 3 = .ok (.getfield 15, 3) := by decide +kernel
theorem dX3_heightOf_6 : decode cX3_heightOf 6 = .ok (.iload_n 1, 1) := by decide +kernel
theorem dX3_heightOf_7 : decode cX3_heightOf 7 = .ok (.iaload, 1) := by decide +kernel
theorem dX3_heightOf_8 : decode cX3_heightOf 8 = .ok (.imul, 1) := by decide +kernel
theorem dX3_heightOf_9 : decode cX3_heightOf 9 = .ok (.istore_n 3, 1) := by decide +kernel
theorem dX3_heightOf_10 : decode cX3_heightOf 10 = .ok (.iload_n 2, 1) := by decide +kernel
theorem dX3_heightOf_11 : decode cX3_heightOf 11 = .ok (.ifCond .le 22, 3) := by decide +kernel
theorem dX3_heightOf_14 : decode cX3_heightOf 14 = .ok (.iload_n 2, 1) := by decide +kernel
theorem dX3_heightOf_15 : decode cX3_heightOf 15 = .ok (.aload_n 0, 1) := by decide +kernel
theorem dX3_heightOf_16 : decode cX3_heightOf 16 = .ok (.getfield 22, 3) := by decide +kernel
theorem dX3_heightOf_19 : decode cX3_heightOf 19 = .ok (.if_icmp .le 14, 3) := by decide +kernel
theorem dX3_heightOf_22 : decode cX3_heightOf 22 = .ok (.iload_n 3, 1) := by decide +kernel
theorem dX3_heightOf_23 : decode cX3_heightOf 23 = .ok (.aload_n 0, 1) := by decide +kernel
theorem dX3_heightOf_24 : decode cX3_heightOf 24 = .ok (.getfield 22, 3) := by decide +kernel
theorem dX3_heightOf_27 : decode cX3_heightOf 27 = .ok (.imul, 1) := by decide +kernel
theorem dX3_heightOf_28 : decode cX3_heightOf 28 = .ok (.iload_n 2, 1) := by decide +kernel
theorem dX3_heightOf_29 : decode cX3_heightOf 29 = .ok (.idiv, 1) := by decide +kernel
theorem dX3_heightOf_30 : decode cX3_heightOf 30 = .ok (.goto 4, 3) := by decide +kernel
theorem dX3_heightOf_33 : decode cX3_heightOf 33 = .ok (.iload_n 3, 1) := by decide +kernel
theorem dX3_heightOf_34 : decode cX3_heightOf 34 = .ok (.ireturn, 1) := by decide +kernel
theorem dX3_landingOf_0 : decode cX3_landingOf 0 = .ok (.aload_n 0, 1) := by decide +kernel
theorem dX3_landingOf_1 : decode cX3_landingOf 1 = .ok (.getfield 9, 3) := by decide +kernel
theorem dX3_landingOf_4 : decode cX3_landingOf 4 = .ok (.iload_n 1, 1) := by decide +kernel
theorem dX3_landingOf_5 : decode cX3_landingOf 5 = .ok (.iaload, 1) := by decide +kernel
theorem dX3_landingOf_6 : decode cX3_landingOf 6 = .ok (.aload_n 0, 1) := by decide +kernel
theorem dX3_landingOf_7 : decode cX3_landingOf 7 = .ok (.iload_n 1, 1) := by decide +kernel
theorem dX3_landingOf_8 : decode cX3_landingOf 8 = .ok (.iload_n 2, 1) := by decide +kernel
theorem dX3_landingOf_9 : decode cX3_landingOf 9 = .ok (.invokevirtual 65, 3) := by decide +kernel
theorem dX3_landingOf_12 : decode cX3_landingOf 12 = .ok (.aload_n 0, 1) := by decide +kernel
theorem dX3_landingOf_13 : decode cX3_landingOf 13 = .ok (.getfield 25, 3) := by decide +kernel
theorem dX3_landingOf_16 : decode cX3_landingOf 16 = .ok (.imul, 1) := by decide +kernel
theorem dX3_landingOf_17 : decode cX3_landingOf 17 = .ok (.bipush 20, 2) := by decide +kernel
theorem dX3_landingOf_19 : decode cX3_landingOf 19 = .ok (.idiv, 1) := by decide +kernel
theorem dX3_landingOf_20 : decode cX3_landingOf 20 = .ok (.iadd, 1) := by decide +kernel
theorem dX3_landingOf_21 : decode cX3_landingOf 21 = .ok (.ireturn, 1) := by decide +kernel
theorem dX3_isOutside_0 : decode cX3_isOutside 0 = .ok (.iload_n 0, 1) := by decide +kernel
theorem dX3_isOutside_1 : decode cX3_isOutside 1 = .ok (.ifCond .lt 9, 3) := by decide +kernel
theorem dX3_isOutside_4 : decode cX3_isOutside 4 = .ok (.iload_n 0, 1) := by decide +kernel
theorem dX3_isOutside_5 : decode cX3_isOutside 5 = .ok (.bipush 99, 2) := by decide +kernel
theorem dX3_isOutside_7 : decode cX3_isOutside 7 = .ok (.if_icmp .le 7, 3) := by decide +kernel
theorem dX3_isOutside_10 : decode cX3_isOutside 10 = .ok (.iconst 1, 1) := by decide +kernel
theorem dX3_isOutside_11 : decode cX3_isOutside 11 = .ok (.goto 4, 3) := by decide +kernel
theorem dX3_isOutside_14 : decode cX3_isOutside 14 = .ok (.iconst 0, 1) := by decide +kernel
theorem dX3_isOutside_15 : decode cX3_isOutside 15 = .ok (.ireturn, 1) := by decide +kernel
theorem dX3_countWild_0 : decode cX3_countWild 0 = .ok (.aload_n 0, 1) := by decide +kernel
theorem dX3_countWild_1 : decode cX3_countWild 1 = .ok (.invokevirtual 68, 3) := by decide +kernel
theorem dX3_countWild_4 : decode cX3_countWild 4 = .ok (.istore_n 1, 1) := by decide +kernel
theorem dX3_countWild_5 : decode cX3_countWild 5 = .ok (.iconst 0, 1) := by decide +kernel
theorem dX3_countWild_6 : decode cX3_countWild 6 = .ok (.istore_n 2, 1) := by decide +kernel
theorem dX3_countWild_7 : decode cX3_countWild 7 = .ok (.iconst 0, 1) := by decide +kernel
theorem dX3_countWild_8 : decode cX3_countWild 8 = .ok (.istore_n 3, 1) := by decide +kernel
theorem dX3_countWild_9 : decode cX3_countWild 9 = .ok (.iload_n 3, 1) := by decide +kernel
theorem dX3_countWild_10 : decode cX3_countWild 10 = .ok (.aload_n 0, 1) := by decide +kernel
theorem dX3_countWild_11 : decode cX3_countWild 11 = .ok (.getfield 18, 3) := by decide +kernel
theorem dX3_countWild_14 : decode cX3_countWild 14 = .ok (.if_icmp .ge 24, 3) := by decide +kernel
theorem dX3_countWild_17 : decode cX3_countWild 17 = .ok (.aload_n 0, 1) := by decide +kernel
theorem dX3_countWild_18 : decode cX3_countWild 18 = .ok (.iload_n 3, 1) := by decide +kernel
theorem dX3_countWild_19 : decode cX3_countWild 19 = .ok (.iload_n 1, 1) := by decide +kernel
theorem dX3_countWild_20 : decode cX3_countWild 20 = .ok (.invokevirtual 72, 3) := by decide +kernel
theorem dX3_countWild_23 : decode cX3_countWild 23 = .ok (.invokestatic 75, 3) := by decide +kernel
theorem dX3_countWild_26 : decode cX3_countWild 26 = .ok (.ifCond .eq 6, 3) := by decide +kernel
theorem dX3_countWild_29 : decode cX3_countWild 29 = .ok (.iinc 2 1, 3) := by decide +kernel
theorem dX3_countWild_32 : decode cX3_countWild 32 = .ok (.iinc 3 1, 3) := by decide +kernel
theorem dX3_countWild_35 : decode cX3_countWild 35 = .ok (.goto (-26), 3) := by decide +kernel
theorem dX3_countWild_38 : decode cX3_countWild 38 = .ok (.iload_n 2, 1) := by decide +kernel
theorem dX3_countWild_39 : decode cX3_countWild 39 = .ok (.ireturn, 1) := by decide +kernel
theorem dX3_findFirstWild_0 : decode cX3_findFirstWild 0 = .ok (.aload_n 0, 1) := by decide +kernel
theorem dX3_findFirstWild_1 : decode cX3_findFirstWild 1 = .ok (.invokevirtual 68, 3) := by decide +kernel
theorem dX3_findFirstWild_4 : decode cX3_findFirstWild 4 = .ok (.istore_n 1, 1) := by decide +kernel
theorem dX3_findFirstWild_5 : decode cX3_findFirstWild 5 = .ok (.iconst 0, 1) := by decide +kernel
theorem dX3_findFirstWild_6 : decode cX3_findFirstWild 6 = .ok (.istore_n 2, 1) := by decide +kernel
theorem dX3_findFirstWild_7 : decode cX3_findFirstWild 7 = .ok (.iload_n 2, 1) := by decide +kernel
theorem dX3_findFirstWild_8 : decode cX3_findFirstWild 8 = .ok (.aload_n 0, 1) := by decide +kernel
theorem dX3_findFirstWild_9 : decode cX3_findFirstWild 9 = .ok (.getfield 18, 3) := by decide +kernel
theorem dX3_findFirstWild_12 : decode cX3_findFirstWild 12 = .ok (.if_icmp .ge 23, 3) := by decide +kernel
theorem dX3_findFirstWild_15 : decode cX3_findFirstWild 15 = .ok (.aload_n 0, 1) := by decide +kernel
theorem dX3_findFirstWild_16 : decode cX3_findFirstWild 16 = .ok (.iload_n 2, 1) := by decide +kernel
theorem dX3_findFirstWild_17 : decode cX3_findFirstWild 17 = .ok (.iload_n 1, 1) := by decide +kernel
theorem dX3_findFirstWild_18 : decode cX3_findFirstWild 18 = .ok (.invokevirtual 72, 3) := by decide +kernel
theorem dX3_findFirstWild_21 : decode cX3_findFirstWild 21 = .ok (.invokestatic 75, 3) := by decide +kernel
theorem dX3_findFirstWild_24 : decode cX3_findFirstWild 24 = .ok (.ifCond .eq 5, 3) := by decide +kernel
theorem dX3_findFirstWild_27 : decode cX3_findFirstWild 27 = .ok (.iload_n 2, 1) := by decide +kernel
theorem dX3_findFirstWild_28 : decode cX3_findFirstWild 28 = .ok (.ireturn, 1) := by decide +kernel
theorem dX3_findFirstWild_29 : decode cX3_findFirstWild 29 = .ok (.iinc 2 1, 3) := by decide +kernel
theorem dX3_findFirstWild_32 : decode cX3_findFirstWild 32 = .ok (.goto (-25), 3) := by decide +kernel
theorem dX3_findFirstWild_35 : decode cX3_findFirstWild 35 = .ok (.iconst (-1), 1) := by decide +kernel
theorem dX3_findFirstWild_36 : decode cX3_findFirstWild 36 = .ok (.ireturn, 1) := by decide +kernel
theorem dX3_closeWildJets_0 : decode cX3_closeWildJets 0 = .ok (.iconst 0, 1) := by decide +kernel
theorem dX3_closeWildJets_1 : decode cX3_closeWildJets 1 = .ok (.istore_n 1, 1) := by decide +kernel
theorem dX3_closeWildJets_2 : decode cX3_closeWildJets 2 = .ok (.iload_n 1, 1) := by decide +kernel
theorem dX3_closeWildJets_3 : decode cX3_closeWildJets 3 = .ok (.bipush 100, 2) := by decide +kernel
theorem dX3_closeWildJets_5 : decode cX3_closeWildJets 5 = .ok (.if_icmp .ge 31, 3) := by decide +kernel
theorem dX3_closeWildJets_8 : decode cX3_closeWildJets 8 = .ok (.aload_n 0, 1) := by decide +kernel
theorem dX3_closeWildJets_9 : decode cX3_closeWildJets 9 = .ok (.invokevirtual 78, 3) := by decide +kernel
theorem dX3_closeWildJets_12 : decode cX3_closeWildJets 12 = .ok (.istore_n 2, 1) := by decide +kernel
theorem dX3_closeWildJets_13 : decode cX3_closeWildJets 13 = .ok (.iload_n 2, 1) := by decide +kernel
theorem dX3_closeWildJets_14 : decode cX3_closeWildJets 14 = .ok (.iconst (-1), 1) := by decide +kernel
theorem dX3_closeWildJets_15 : decode cX3_closeWildJets 15 = .ok (.if_icmp .ne 5, 3) := by decide +kernel
theorem dX3_closeWildJets_18 : decode cX3_closeWildJets 18 = .ok (.iload_n 1, 1) := by decide +kernel
theorem dX3_closeWildJets_19 : decode cX3_closeWildJets 19 = .ok (.ireturn, 1) := by decide +kernel
theorem dX3_closeWildJets_20 : decode cX3_closeWildJets 20 = .ok (.aload_n 0, 1) := by decide +kernel
theorem dX3_closeWildJets_21 : decode cX3_closeWildJets 21 = .ok (.getfield 15, 3) := by decide +kernel
theorem dX3_closeWildJets_24 : decode cX3_closeWildJets 24 = .ok (.iload_n 2, 1) := by decide +kernel
theorem dX3_closeWildJets_25 : decode cX3_closeWildJets 25 = .ok (.dup2, 1) := by decide +kernel
theorem dX3_closeWildJets_26 : decode cX3_closeWildJets 26 = .ok (.iaload, 1) := by decide +kernel
theorem dX3_closeWildJets_27 : decode cX3_closeWildJets 27 = .ok (.iconst 1, 1) := by decide +kernel
theorem dX3_closeWildJets_28 : decode cX3_closeWildJets 28 = .ok (.isub, 1) := by decide +kernel
theorem dX3_closeWildJets_29 : decode cX3_closeWildJets 29 = .ok (.iastore, 1) := by decide +kernel
theorem dX3_closeWildJets_30 : decode cX3_closeWildJets 30 = .ok (.iinc 1 1, 3) := by decide +kernel
theorem dX3_closeWildJets_33 : decode cX3_closeWildJets 33 = .ok (.goto (-31), 3) := by decide +kernel
theorem dX3_closeWildJets_36 : decode cX3_closeWildJets 36 = .ok (.bipush 100, 2) := by decide +kernel
theorem dX3_closeWildJets_38 : decode cX3_closeWildJets 38 = .ok (.ireturn, 1) := by decide +kernel
theorem dX3_findHighest_0 : decode cX3_findHighest 0 = .ok (.aload_n 0, 1) := by decide +kernel
theorem dX3_findHighest_1 : decode cX3_findHighest 1 = .ok (.invokevirtual 68, 3) := by decide +kernel
theorem dX3_findHighest_4 : decode cX3_findHighest 4 = .ok (.istore_n 1, 1) := by decide +kernel
theorem dX3_findHighest_5 : decode cX3_findHighest 5 = .ok (.iconst 0, 1) := by decide +kernel
theorem dX3_findHighest_6 : decode cX3_findHighest 6 = .ok (.istore_n 2, 1) := by decide +kernel
theorem dX3_findHighest_7 : decode cX3_findHighest 7 = .ok (.iconst 1, 1) := by decide +kernel
theorem dX3_findHighest_8 : decode cX3_findHighest 8 = .ok (.istore_n 3, 1) := by decide +kernel
theorem dX3_findHighest_9 : decode cX3_findHighest 9 = .ok (.iload_n 3, 1) := by decide +kernel
theorem dX3_findHighest_10 : decode cX3_findHighest 10 = .ok (.aload_n 0, 1) := by decide +kernel
theorem dX3_findHighest_11 : decode cX3_findHighest 11 = .ok (.getfield 18, 3) := by decide +kernel
theorem dX3_findHighest_14 : decode cX3_findHighest 14 = .ok (.if_icmp .ge 26, 3) := by decide +kernel
theorem dX3_findHighest_17 : decode cX3_findHighest 17 = .ok (.aload_n 0, 1) := by decide +kernel
theorem dX3_findHighest_18 : decode cX3_findHighest 18 = .ok (.iload_n 3, 1) := by decide +kernel
theorem dX3_findHighest_19 : decode cX3_findHighest 19 = .ok (.iload_n 1, 1) := by decide +kernel
theorem dX3_findHighest_20 : decode cX3_findHighest 20 = .ok (.invokevirtual 65, 3) := by decide +kernel
theorem dX3_findHighest_23 : decode cX3_findHighest 23 = .ok (.aload_n 0, 1) := by decide +kernel
theorem dX3_findHighest_24 : decode cX3_findHighest 24 = .ok (.iload_n 2, 1) := by decide +kernel
theorem dX3_findHighest_25 : decode cX3_findHighest 25 = .ok (.iload_n 1, 1) := by decide +kernel
theorem dX3_findHighest_26 : decode cX3_findHighest 26 = .ok (.invokevirtual 65, 3) := by decide +kernel
theorem dX3_findHighest_29 : decode cX3_findHighest 29 = .ok (.if_icmp .le 5, 3) := by decide +kernel
theorem dX3_findHighest_32 : decode cX3_findHighest 32 = .ok (.iload_n 3, 1) := by decide +kernel
theorem dX3_findHighest_33 : decode cX3_findHighest 33 = .ok (.istore_n 2, 1) := by decide +kernel
theorem dX3_findHighest_34 : decode cX3_findHighest 34 = .ok (.iinc 3 1, 3) := by decide +kernel
theorem dX3_findHighest_37 : decode cX3_findHighest 37 = .ok (.goto (-28), 3) := by decide +kernel
theorem dX3_findHighest_40 : decode cX3_findHighest 40 = .ok (.iload_n 2, 1) := by decide +kernel
theorem dX3_findHighest_41 : decode cX3_findHighest 41 = .ok (.ireturn, 1) := by decide +kernel
theorem dX3_findByRank_0 : decode cX3_findByRank 0 = .ok (.iconst 0, 1) := by decide +kernel
theorem dX3_findByRank_1 : decode cX3_findByRank 1 = .ok (.istore_n 2, 1) := by decide +kernel
theorem dX3_findByRank_2 : decode cX3_findByRank 2 = .ok (.iload_n 2, 1) := by decide +kernel
theorem dX3_findByRank_3 : decode cX3_findByRank 3 = .ok (.aload_n 0, 1) := by decide +kernel
theorem dX3_findByRank_4 : decode cX3_findByRank 4 = .ok (.getfield 18, 3) := by decide +kernel
theorem dX3_findByRank_7 : decode cX3_findByRank 7 = .ok (.if_icmp .ge 20, 3) := by decide +kernel
theorem dX3_findByRank_10 : decode cX3_findByRank 10 = .ok (.aload_n 0, 1) := by decide +kernel
theorem dX3_findByRank_11 : decode cX3_findByRank 11 = .ok (.iload_n 2, 1) := by decide +kernel
theorem dX3_findByRank_12 : decode cX3_findByRank 12 = .ok (.invokevirtual 81, 3) := by decide +kernel
theorem dX3_findByRank_15 : decode cX3_findByRank 15 = .ok (.iload_n 1, 1) := by decide +kernel
theorem dX3_findByRank_16 : decode cX3_findByRank 16 = .ok (.if_icmp .ne 5, 3) := by decide +kernel
theorem dX3_findByRank_19 : decode cX3_findByRank 19 = .ok (.iload_n 2, 1) := by decide +kernel
theorem dX3_findByRank_20 : decode cX3_findByRank 20 = .ok (.ireturn, 1) := by decide +kernel
theorem dX3_findByRank_21 : decode cX3_findByRank 21 = .ok (.iinc 2 1, 3) := by decide +kernel
theorem dX3_findByRank_24 : decode cX3_findByRank 24 = .ok (.goto (-22), 3) := by decide +kernel
theorem dX3_findByRank_27 : decode cX3_findByRank 27 = .ok (.iconst (-1), 1) := by decide +kernel
theorem dX3_findByRank_28 : decode cX3_findByRank 28 = .ok (.ireturn, 1) := by decide +kernel
theorem dX3_rankOf_0 : decode cX3_rankOf 0 = .ok (.iconst 0, 1) := by decide +kernel
theorem dX3_rankOf_1 : decode cX3_rankOf 1 = .ok (.istore_n 2, 1) := by decide +kernel
theorem dX3_rankOf_2 : decode cX3_rankOf 2 = .ok (.iconst 0, 1) := by decide +kernel
theorem dX3_rankOf_3 : decode cX3_rankOf 3 = .ok (.istore_n 3, 1) := by decide +kernel
theorem dX3_rankOf_4 : decode cX3_rankOf 4 = .ok (.iload_n 3, 1) := by decide +kernel
theorem dX3_rankOf_5 : decode cX3_rankOf 5 = .ok (.aload_n 0, 1) := by decide +kernel
theorem dX3_rankOf_6 : decode cX3_rankOf 6 = .ok (.getfield 18, 3) := by decide +kernel
theorem dX3_rankOf_9 : decode cX3_rankOf 9 = .ok (.if_icmp .ge 27, 3) := by decide +kernel
theorem dX3_rankOf_12 : decode cX3_rankOf 12 = .ok (.aload_n 0, 1) := by decide +kernel
theorem dX3_rankOf_13 : decode cX3_rankOf 13 = .ok (.getfield 9, 3) := by decide +kernel
theorem dX3_rankOf_16 : decode cX3_rankOf 16 = .ok (.iload_n 3, 1) := by decide +kernel
theorem dX3_rankOf_17 : decode cX3_rankOf 17 = .ok (.iaload, 1) := by decide +kernel
theorem dX3_rankOf_18 : decode cX3_rankOf 18 = .ok (.aload_n 0, 1) := by decide +kernel
theorem dX3_rankOf_19 : decode cX3_rankOf 19 = .ok (.getfield 9, 3) := by decide +kernel
theorem dX3_rankOf_22 : decode cX3_rankOf 22 = .ok (.iload_n 1, 1) := by decide +kernel
theorem dX3_rankOf_23 : decode cX3_rankOf 23 = .ok (.iaload, 1) := by decide +kernel
theorem dX3_rankOf_24 : decode cX3_rankOf 24 = .ok (.if_icmp .ge 6, 3) := by decide +kernel
theorem dX3_rankOf_27 : decode cX3_rankOf 27 = .ok (.iinc 2 1, 3) := by decide +kernel
theorem dX3_rankOf_30 : decode cX3_rankOf 30 = .ok (.iinc 3 1, 3) := by decide +kernel
theorem dX3_rankOf_33 : decode cX3_rankOf 33 = .ok (.goto (-29), 3) := by decide +kernel
theorem dX3_rankOf_36 : decode cX3_rankOf 36 = .ok (.iload_n 2, 1) := by decide +kernel
theorem dX3_rankOf_37 : decode cX3_rankOf 37 = .ok (.ireturn, 1) := by decide +kernel
theorem dX3_findNearestLanding_0 : decode cX3_findNearestLanding 0 = .ok (.aload_n 0, 1) := by decide +kernel
theorem dX3_findNearestLanding_1 : decode cX3_findNearestLanding 1 = .ok (.invokevirtual 68, 3) := by decide +kernel
theorem dX3_findNearestLanding_4 : decode cX3_findNearestLanding 4 = .ok (.istore_n 2, 1) := by decide +kernel
theorem dX3_findNearestLanding_5 : decode cX3_findNearestLanding 5 = .ok (.iconst 0, 1) := by decide +kernel
theorem dX3_findNearestLanding_6 : decode cX3_findNearestLanding 6 = .ok (.istore_n 3, 1) := by decide +kernel
theorem dX3_findNearestLanding_7 : decode cX3_findNearestLanding 7 = .ok (.iconst 1, 1) := by decide +kernel
theorem dX3_findNearestLanding_8 : decode cX3_findNearestLanding 8 = .ok (.istore 4, 2) := by decide +kernel
theorem dX3_findNearestLanding_10 : decode cX3_findNearestLanding 10 = .ok (.iload 4, 2) := by decide +kernel
theorem dX3_findNearestLanding_12 : decode cX3_findNearestLanding 12 = .ok (.aload_n 0, 1) := by decide +kernel
theorem dX3_findNearestLanding_13 : decode cX3_findNearestLanding 13 = .ok (.getfield 18, 3) := by decide +kernel
theorem dX3_findNearestLanding_16 : decode cX3_findNearestLanding 16 = .ok (.if_icmp .ge 31, 3) := by decide +kernel
theorem dX3_findNearestLanding_19 : decode cX3_findNearestLanding 19 = .ok (.aload_n 0, 1) := by decide +kernel
theorem dX3_findNearestLanding_20 : decode cX3_findNearestLanding 20 = .ok (.iload 4, 2) := by decide +kernel
theorem dX3_findNearestLanding_22 : decode cX3_findNearestLanding 22 = .ok (.iload_n 2, 1) := by decide +kernel
theorem dX3_findNearestLanding_23 : decode cX3_findNearestLanding 23 = .ok (.iload_n 1, 1) := by decide +kernel
theorem dX3_findNearestLanding_24 : decode cX3_findNearestLanding 24 = .ok (.invokevirtual 85, 3) := by decide +kernel
theorem dX3_findNearestLanding_27 : decode cX3_findNearestLanding 27 = .ok (.aload_n 0, 1) := by decide +kernel
theorem dX3_findNearestLanding_28 : decode cX3_findNearestLanding 28 = .ok (.iload_n 3, 1) := by decide +kernel
theorem dX3_findNearestLanding_29 : decode cX3_findNearestLanding 29 = .ok (.iload_n 2, 1) := by decide +kernel
theorem dX3_findNearestLanding_30 : decode cX3_findNearestLanding 30 = .ok (.iload_n 1, 1) := by decide +kernel
theorem dX3_findNearestLanding_31 : decode cX3_findNearestLanding 31 = .ok (.invokevirtual 85, 3) := by decide +kernel
theorem dX3_findNearestLanding_34 : decode cX3_findNearestLanding 34 = .ok (.lcmp, 1) := by decide +kernel
theorem dX3_findNearestLanding_35 : decode cX3_findNearestLanding 35 = .ok (.ifCond .ge 6, 3) := by decide +kernel
theorem dX3_findNearestLanding_38 : decode cX3_findNearestLanding 38 = .ok (.iload 4, 2) := by decide +kernel
theorem dX3_findNearestLanding_40 : decode cX3_findNearestLanding 40 = .ok (.istore_n 3, 1) := by decide +kernel
theorem dX3_findNearestLanding_41 : decode cX3_findNearestLanding 41 = .ok (.iinc 4 1, 3) := by decide +kernel
theorem dX3_findNearestLanding_44 : decode cX3_findNearestLanding 44 = .ok (.goto (-34), 3) := by decide +kernel
theorem dX3_findNearestLanding_47 : decode cX3_findNearestLanding 47 = .ok (.iload_n 3, 1) := by decide +kernel
theorem dX3_findNearestLanding_48 : decode cX3_findNearestLanding 48 = .ok (.ireturn, 1) := by decide +kernel
theorem dX3_distance_0 : decode cX3_distance 0 = .ok (.aload_n 0, 1) := by decide +kernel
theorem dX3_distance_1 : decode cX3_distance 1 = .ok (.iload_n 1, 1) := by decide +kernel
theorem dX3_distance_2 : decode cX3_distance 2 = .ok (.iload_n 2, 1) := by decide +kernel
theorem dX3_distance_3 : decode cX3_distance 3 = .ok (.invokevirtual 72, 3) := by decide +kernel
theorem dX3_distance_6 : decode cX3_distance 6 = .ok (.i2l, 1) := by decide +kernel
theorem dX3_distance_7 : decode cX3_distance 7 = .ok (.iload_n 3, 1) := by decide +kernel
theorem dX3_distance_8 : decode cX3_distance 8 = .ok (.i2l, 1) := by decide +kernel
theorem dX3_distance_9 : decode cX3_distance 9 = .ok (.lsub, 1) := by decide +kernel
theorem dX3_distance_10 : decode cX3_distance 10 = .ok (.invokestatic 89, 3) := by decide +kernel
theorem dX3_distance_13 : decode cX3_distance 13 = .ok (.lreturn, 1) := by decide +kernel
theorem dX3_countCrossingPairs_0 : decode cX3_countCrossingPairs 0 = .ok (.aload_n 0, 1) := by decide +kernel
theorem dX3_countCrossingPairs_1 : decode cX3_countCrossingPairs 1 = .ok (.invokevirtual 68, 3) := by decide +kernel
theorem dX3_countCrossingPairs_4 : decode cX3_countCrossingPairs 4 = .ok (.istore_n 1, 1) := by decide +kernel
theorem dX3_countCrossingPairs_5 : decode cX3_countCrossingPairs 5 = .ok (.iconst 0, 1) := by decide +kernel
theorem dX3_countCrossingPairs_6 : decode cX3_countCrossingPairs 6 = .ok (.istore_n 2, 1) := by decide +kernel
theorem dX3_countCrossingPairs_7 : decode cX3_countCrossingPairs 7 = .ok (.iconst 0, 1) := by decide +kernel
theorem dX3_countCrossingPairs_8 : decode cX3_countCrossingPairs 8 = .ok (.istore_n 3, 1) := by decide +kernel
theorem dX3_countCrossingPairs_9 : decode cX3_countCrossingPairs 9 = .ok (.iload_n 3, 1) := by decide +kernel
theorem dX3_countCrossingPairs_10 : decode cX3_countCrossingPairs 10 = .ok (.aload_n 0, 1) := by decide +kernel
theorem dX3_countCrossingPairs_11 : decode cX3_countCrossingPairs 11 = .ok (.getfield 18, 3) := by decide +kernel
theorem dX3_countCrossingPairs_14 : decode cX3_countCrossingPairs 14 = .ok (.if_icmp .ge 62, 3) := by decide +kernel
theorem dX3_countCrossingPairs_17 : decode cX3_countCrossingPairs 17 = .ok (.iconst 0, 1) := by decide +kernel
theorem dX3_countCrossingPairs_18 : decode cX3_countCrossingPairs 18 = .ok (.istore 4, 2) := by decide +kernel
theorem dX3_countCrossingPairs_20 : decode cX3_countCrossingPairs 20 = .ok (.iload 4, 2) := by decide +kernel
theorem dX3_countCrossingPairs_22 : decode cX3_countCrossingPairs 22 = .ok (.aload_n 0, 1) := by decide +kernel
theorem dX3_countCrossingPairs_23 : decode cX3_countCrossingPairs 23 = .ok (.getfield 18, 3) := by decide +kernel
theorem dX3_countCrossingPairs_26 : decode cX3_countCrossingPairs 26 = .ok (.if_icmp .ge 44, 3) := by decide +kernel
theorem dX3_countCrossingPairs_29 : decode cX3_countCrossingPairs 29 = .ok (.aload_n 0, 1) := by decide +kernel
theorem dX3_countCrossingPairs_30 : decode cX3_countCrossingPairs 30 = .ok (.getfield 9, 3) := by decide +kernel
theorem dX3_countCrossingPairs_33 : decode cX3_countCrossingPairs 33 = .ok (.iload_n 3, 1) := by decide +kernel
theorem dX3_countCrossingPairs_34 : decode cX3_countCrossingPairs 34 = .ok (.iaload, 1) := by decide +kernel
theorem dX3_countCrossingPairs_35 : decode cX3_countCrossingPairs 35 = .ok (.aload_n 0, 1) := by decide +kernel
theorem dX3_countCrossingPairs_36 : decode cX3_countCrossingPairs 36 = .ok (.getfield 9, 3) := by decide +kernel
theorem dX3_countCrossingPairs_39 : decode cX3_countCrossingPairs 39 = .ok (.iload 4, 2) := by decide +kernel
theorem dX3_countCrossingPairs_41 : decode cX3_countCrossingPairs 41 = .ok (.iaload, 1) := by decide +kernel
theorem dX3_countCrossingPairs_42 : decode cX3_countCrossingPairs 42 = .ok (.if_icmp .ge 22, 3) := by decide +kernel
theorem dX3_countCrossingPairs_45 : decode cX3_countCrossingPairs 45 = .ok (.aload_n 0, 1) := by decide +kernel
theorem dX3_countCrossingPairs_46 : decode cX3_countCrossingPairs 46 = .ok (.iload_n 3, 1) := by decide +kernel
theorem dX3_countCrossingPairs_47 : decode cX3_countCrossingPairs 47 = .ok (.iload_n 1, 1) := by decide +kernel
theorem dX3_countCrossingPairs_48 : decode cX3_countCrossingPairs 48 = .ok (.invokevirtual 72, 3) := by decide +kernel
theorem dX3_countCrossingPairs_51 : decode cX3_countCrossingPairs 51 = .ok (.aload_n 0, 1) := by decide +kernel
theorem dX3_countCrossingPairs_52 : decode cX3_countCrossingPairs 52 = .ok (.iload 4, 2) := by decide +kernel
theorem dX3_countCrossingPairs_54 : decode cX3_countCrossingPairs 54 = .ok (.iload_n 1, 1) := by decide +kernel
theorem dX3_countCrossingPairs_55 : decode cX3_countCrossingPairs 55 = .ok (.invokevirtual 72, 3) := by decide +kernel
theorem dX3_countCrossingPairs_58 : decode cX3_countCrossingPairs 58 = .ok (.if_icmp .le 6, 3) := by decide +kernel
theorem dX3_countCrossingPairs_61 : decode cX3_countCrossingPairs 61 = .ok (.iinc 2 1, 3) := by decide +kernel
theorem dX3_countCrossingPairs_64 : decode cX3_countCrossingPairs 64 = .ok (.iinc 4 1, 3) := by decide +kernel
theorem dX3_countCrossingPairs_67 : decode cX3_countCrossingPairs 67 = .ok (.goto (-47), 3) := by decide +kernel
theorem dX3_countCrossingPairs_70 : decode cX3_countCrossingPairs 70 = .ok (.iinc 3 1, 3) := by decide +kernel
theorem dX3_countCrossingPairs_73 : decode cX3_countCrossingPairs 73 = .ok (.goto (-64), 3) := by decide +kernel
theorem dX3_countCrossingPairs_76 : decode cX3_countCrossingPairs 76 = .ok (.iload_n 2, 1) := by decide +kernel
theorem dX3_countCrossingPairs_77 : decode cX3_countCrossingPairs 77 = .ok (.ireturn, 1) := by decide +kernel
end
section
theorem dX4_init_0 : decode cX4_init 0 = .ok (.aload_n 0, 1) := by decide +kernel
theorem dX4_init_1 : decode cX4_init 1 = .ok (.invokespecial 3, 3) := by decide +kernel
theorem dX4_init_4 : decode cX4_init 4 = .ok (.aload_n 0, 1) := by decide +kernel
theorem dX4_init_5 : decode cX4_init 5 = .ok (.bipush 10, 2) := by decide +kernel
theorem dX4_init_7 : decode cX4_init 7 = .ok (.newarray .int, 2) := by decide +kernel
theorem dX4_init_9 : decode cX4_init 9 = .ok (.putfield 9, 3) := by decide +kernel
theorem dX4_init_12 : decode cX4_init 12 = .ok (.aload_n 0, 1) := by decide +kernel
theorem dX4_init_13 : decode cX4_init 13 = .ok (.bipush 10, 2) := by decide +kernel
theorem dX4_init_15 : decode cX4_init 15 = .ok (.newarray .int, 2) := by decide +kernel
theorem dX4_init_17 : decode cX4_init 17 = .ok (.putfield 15, 3) := by decide +kernel
theorem dX4_init_20 : decode cX4_init 20 = .ok (.return_, 1) := by decide +kernel
theorem dX4_countInversions_0 : decode cX4_countInversions 0 = .ok (.aload_n 0, 1) := by decide +kernel
theorem dX4_countInversions_1 : decode cX4_countInversions 1 = .ok (.aload_n 1, 1) := by decide +kernel
theorem dX4_countInversions_2 : decode cX4_countInversions 2 = .ok (.invokevirtual 18, 3) := by decide +kernel
theorem dX4_countInversions_5 : decode cX4_countInversions 5 = .ok (.aload_n 1, 1) := by decide +kernel
theorem dX4_countInversions_6 : decode cX4_countInversions 6 = .ok (.getfield 22, 3) := by decide +kernel
theorem dX4_countInversions_9 : decode cX4_countInversions 9 = .ok (.istore_n 2, 1) := by decide +kernel
theorem dX4_countInversions_10 : decode cX4_countInversions 10 = .ok (.iconst 0, 1) := by decide +kernel
theorem dX4_countInversions_11 : decode cX4_countInversions 11 = .ok (.istore_n 3, 1) := by decide +kernel
theorem dX4_countInversions_12 : decode cX4_countInversions 12 = .ok (.iconst 1, 1) := by decide +kernel
theorem dX4_countInversions_13 : decode cX4_countInversions 13 = .ok (.istore 4, 2) := by decide +kernel
theorem dX4_countInversions_15 : decode cX4_countInversions 15 = .ok (.iload 4, 2) := by decide +kernel
theorem dX4_countInversions_17 : decode cX4_countInversions 17 = .ok (.iload_n 2, 1) := by decide +kernel
theorem dX4_countInversions_18 : decode cX4_countInversions 18 = .ok (.if_icmp .ge 62, 3) := by decide +kernel
theorem dX4_countInversions_21 : decode cX4_countInversions 21 = .ok (.iconst 0, 1) := by decide +kernel
theorem dX4_countInversions_22 : decode cX4_countInversions 22 = .ok (.istore 5, 2) := by decide +kernel
theorem dX4_countInversions_24 : decode cX4_countInversions 24 = .ok (.iload 5, 2) := by decide +kernel
theorem dX4_countInversions_26 : decode cX4_countInversions 26 = .ok (.iload_n 2, 1) := by decide +kernel
theorem dX4_countInversions_27 : decode cX4_countInversions 27 = .ok (.if_icmp .ge 44, 3) := by decide +kernel
theorem dX4_countInversions_30 : decode cX4_countInversions 30 = .ok (.iload_n 3, 1) := by decide +kernel
theorem dX4_countInversions_31 : decode cX4_countInversions 31 = .ok (.aload_n 0, 1) := by decide +kernel
theorem dX4_countInversions_32 : decode cX4_countInversions 32 = .ok (.iload 5, 2) := by decide +kernel
theorem dX4_countInversions_34 : decode cX4_countInversions 34 = .ok (.iload 5, 2) := by decide +kernel
theorem dX4_countInversions_36 : decode cX4_countInversions 36 = .ok (.iload 4, 2) := by decide +kernel
theorem dX4_countInversions_38 : decode cX4_countInversions 38 = .ok (.iadd, 1) := by decide +kernel
theorem dX4_countInversions_39 : decode cX4_countInversions 39 = .ok (.iload_n 2, 1) := by decide +kernel
theorem dX4_countInversions_40 : decode cX4_countInversions 40 = .ok (.invokestatic 28, 3) := by decide +kernel
theorem dX4_countInversions_43 : decode cX4_countInversions 43 = .ok (.iload 5, 2) := by decide +kernel
theorem dX4_countInversions_45 : decode cX4_countInversions 45 = .ok (.iconst 2, 1) := by decide +kernel
theorem dX4_countInversions_46 : decode cX4_countInversions 46 = .ok (.iload 4, 2) := by decide +kernel
theorem dX4_countInversions_48 : decode cX4_countInversions 48 = .ok (.imul, 1) := by decide +kernel
theorem dX4_countInversions_49 : decode cX4_countInversions 49 = .ok (.iadd, 1) := by decide +kernel
theorem dX4_countInversions_50 : decode cX4_countInversions 50 = .ok (.iload_n 2, 1) := by decide +kernel
theorem dX4_countInversions_51 : decode cX4_countInversions 51 = .ok (.invokestatic 28, 3) := by decide +kernel
theorem dX4_countInversions_54 : decode cX4_countInversions 54 = .ok (.invokevirtual 34, 3) := by decide +kernel
theorem dX4_countInversions_57 : decode cX4_countInversions 57 = .ok (.iadd, 1) := by decide +kernel
theorem dX4_countInversions_58 : decode cX4_countInversions 58 = .ok (.istore_n 3, 1) := by decide +kernel
theorem dX4_countInversions_59 : decode cX4_countInversions 59 = .ok (.iload 5, 2) := by decide +kernel
theorem dX4_countInversions_61 : decode cX4_countInversions 61 = .ok (.iconst 2, 1) := by decide +kernel
theorem dX4_countInversions_62 : decode cX4_countInversions 62 = .ok (.iload 4, 2) := by decide +kernel
theorem dX4_countInversions_64 : decode cX4_countInversions 64 = .ok (.imul, 1) := by decide +kernel
theorem dX4_countInversions_65 : decode cX4_countInversions 65 = .ok (.iadd, 1) := by decide +kernel
theorem dX4_countInversions_66 : decode cX4_countInversions 66 = .ok (.istore 5, 2) := by decide +kernel
theorem dX4_countInversions_68 : decode cX4_countInversions 68 = .ok (.goto (-44), 3) := by decide +kernel
theorem dX4_countInversions_71 : decode cX4_countInversions 71 = .ok (.iload 4, 2) := by decide +kernel
theorem dX4_countInversions_73 : decode cX4_countInversions 73 = .ok (.iconst 2, 1) := by decide +kernel
theorem dX4_countInversions_74 : decode cX4_countInversions 74 = .ok (.imul, 1) := by decide +kernel
theorem dX4_countInversions_75 : decode cX4_countInversions 75 = .ok (.istore 4, 2) := by decide +kernel
theorem dX4_countInversions_77 : decode cX4_countInversions 77 = .ok (.goto (-62), 3) := by decide +kernel
theorem dX4_countInversions_80 : decode cX4_countInversions 80 = .ok (.iload_n 3, 1) := by decide +kernel
theorem dX4_countInversions_81 : decode cX4_countInversions 81 = .ok (.ireturn, 1) := by decide +kernel
theorem dX4_takeLandings_0 : decode cX4_takeLandings 0 = .ok (.aload_n 1, 1) := by decide +kernel
theorem dX4_takeLandings_1 : decode cX4_takeLandings 1 = .ok (.invokevirtual 38, 3) := by decide +kernel
theorem dX4_takeLandings_4 : decode cX4_takeLandings 4 = .ok (.istore_n 2, 1) := by decide +kernel
theorem dX4_takeLandings_5 : decode cX4_takeLandings 5 = .ok (.iconst 0, 1) := by decide +kernel
theorem dX4_takeLandings_6 : decode cX4_takeLandings 6 = .ok (.istore_n 3, 1) := by decide +kernel
theorem dX4_takeLandings_7 : decode cX4_takeLandings 7 = .ok (.iload_n 3, 1) := by decide +kernel
theorem dX4_takeLandings_8 : decode cX4_takeLandings 8 = .ok (.aload_n 1, 1) := by decide +kernel
theorem dX4_takeLandings_9 : decode cX4_takeLandings 9 = .ok (.getfield 22, 3) := by decide +kernel
theorem dX4_takeLandings_12 : decode cX4_takeLandings 12 = .ok (.if_icmp .ge 25, 3) := by decide +kernel
theorem dX4_takeLandings_15 : decode cX4_takeLandings 15 = .ok (.aload_n 0, 1) := by decide +kernel
theorem dX4_takeLandings_16 : decode cX4_takeLandings 16 = .ok (.getfield 9, 3) := by decide +kernel
theorem dX4_takeLandings_19 : decode cX4_takeLandings 19 = .ok (.aload_n 1, 1) := by decide +kernel
theorem dX4_takeLandings_20 : decode cX4_takeLandings 20 = .ok (.iload_n 3, 1) := by decide +kernel
theorem dX4_takeLandings_21 : decode cX4_takeLandings 21 = .ok (.invokevirtual 42, 3) := by decide +kernel
theorem dX4_takeLandings_24 : decode cX4_takeLandings 24 = .ok (.aload_n 1, 1) := by decide +kernel
theorem dX4_takeLandings_25 : decode cX4_takeLandings 25 = .ok (.iload_n 3, 1) := by decide +kernel
theorem dX4_takeLandings_26 : decode cX4_takeLandings 26 = .ok (.iload_n 2, 1) := by decide +kernel
theorem dX4_takeLandings_27 : decode cX4_takeLandings 27 = .ok (.invokevirtual 46, 3) := by decide +kernel
theorem dX4_takeLandings_30 : decode cX4_takeLandings 30 = .ok (.iastore, 1) := by decide +kernel
theorem dX4_takeLandings_31 : decode cX4_takeLandings 31 = .ok (.iinc 3 1, 3) := by decide +kernel
theorem dX4_takeLandings_34 : decode cX4_takeLandings 34 = .ok (.goto (-27), 3) := by decide +kernel
theorem dX4_takeLandings_37 : decode cX4_takeLandings 37 = .ok (.return_, 1) := by decide +kernel
theorem dX4_merge_0 : decode cX4_merge 0 = .ok (.iconst 0, 1) := by decide +kernel
theorem dX4_merge_1 : decode cX4_merge 1 = .ok (.istore 4, 2) := by decide +kernel
theorem dX4_merge_3 : decode cX4_merge 3 = .ok (.iload_n 1, 1) := by decide +kernel
theorem dX4_merge_4 : decode cX4_merge 4 = .ok (.istore 5, 2) := by decide +kernel
theorem dX4_merge_6 : decode cX4_merge 6 = .ok (.iload_n 2, 1) := by decide +kernel
theorem dX4_merge_7 : decode cX4_merge 7 = .ok (.istore 6, 2) := by decide +kernel
theorem dX4_merge_9 : decode cX4_merge 9 = .ok (.iload_n 1, 1) := by decide +kernel
theorem dX4_merge_10 : decode cX4_merge 10 = .ok (.istore 7, 2) := by decide +kernel
theorem dX4_merge_12 : decode cX4_merge 12 = .ok (.iload 7, 2) := by decide +kernel
theorem dX4_merge_14 : decode cX4_merge 14 = .ok (.iload_n 3, 1) := by decide +kernel
theorem dX4_merge_15 : decode cX4_merge 15 = .ok (.if_icmp .ge 84, 3) := by decide +kernel
theorem dX4_merge_18 : decode cX4_merge 18 = .ok (.iload 6, 2) := by decide +kernel
theorem dX4_merge_20 : decode cX4_merge 20 = .ok (.iload_n 3, 1) := by decide +kernel
theorem dX4_merge_21 : decode cX4_merge 21 = .ok (.if_icmp .ge 26, 3) := by decide +kernel
theorem dX4_merge_24 : decode cX4_merge 24 = .ok (.iload 5, 2) := by decide +kernel
theorem dX4_merge_26 : decode cX4_merge 26 = .ok (.iload_n 2, 1) := by decide +kernel
theorem dX4_merge_27 : decode cX4_merge 27 = .ok (.if_icmp .ge 40, 3) := by decide +kernel
theorem dX4_merge_30 : decode cX4_merge 30 = .ok (.aload_n 0, 1) := by decide +kernel
theorem dX4_merge_31 : decode cX4_merge 31 = .ok (.getfield 9, 3) := by decide +kernel
theorem dX4_merge_34 : decode cX4_merge 34 = .ok (.iload 5, 2) := by decide +kernel
theorem dX4_merge_36 : decode cX4_merge 36 = .ok (.iaload, 1) := by decide +kernel
theorem dX4_merge_37 : decode cX4_merge 37 = .ok (.aload_n 0, 1) := by decide +kernel
theorem dX4_merge_38 : decode cX4_merge 38 = .ok (.getfield 9, 3) := by decide +kernel
theorem dX4_merge_41 : decode cX4_merge 41 = .ok (.iload 6, 2) := by decide +kernel
theorem dX4_merge_43 : decode cX4_merge 43 = .ok (.iaload, 1) := by decide +kernel
theorem dX4_merge_44 : decode cX4_merge 44 = .ok (.if_icmp .gt 23, 3) := by decide +kernel
theorem dX4_merge_47 : decode cX4_merge 47 = .ok (.aload_n 0, 1) := by decide +kernel
theorem dX4_merge_48 : decode cX4_merge 48 = .ok (.getfield 15, 3) := by decide +kernel
theorem dX4_merge_51 : decode cX4_merge 51 = .ok (.iload 7, 2) := by decide +kernel
theorem dX4_merge_53 : decode cX4_merge 53 = .ok (.aload_n 0, 1) := by decide +kernel
theorem dX4_merge_54 : decode cX4_merge 54 = .ok (.getfield 9, 3) := by decide +kernel
theorem dX4_merge_57 : decode cX4_merge 57 = .ok (.iload 5, 2) := by decide +kernel
theorem dX4_merge_59 : decode cX4_merge 59 = .ok (.iaload, 1) := by decide +kernel
theorem dX4_merge_60 : decode cX4_merge 60 = .ok (.iastore, 1) := by decide +kernel
theorem dX4_merge_61 : decode cX4_merge 61 = .ok (.iinc 5 1, 3) := by decide +kernel
theorem dX4_merge_64 : decode cX4_merge 64 = .ok (.goto 29, 3) := by decide +kernel
theorem dX4_merge_67 : decode cX4_merge 67 = .ok (.aload_n 0, 1) := by decide +kernel
theorem dX4_merge_68 : decode cX4_merge 68 = .ok (.getfield 15, 3) := by decide +kernel
theorem dX4_merge_71 : decode cX4_merge 71 = .ok (.iload 7, 2) := by decide +kernel
theorem dX4_merge_73 : decode cX4_merge 73 = .ok (.aload_n 0, 1) := by decide +kernel
theorem dX4_merge_74 : decode cX4_merge 74 = .ok (.getfield 9, 3) := by decide +kernel
theorem dX4_merge_77 : decode cX4_merge 77 = .ok (.iload 6, 2) := by decide +kernel
theorem dX4_merge_79 : decode cX4_merge 79 = .ok (.iaload, 1) := by decide +kernel
theorem dX4_merge_80 : decode cX4_merge 80 = .ok (.iastore, 1) := by decide +kernel
theorem dX4_merge_81 : decode cX4_merge 81 = .ok (.iinc 6 1, 3) := by decide +kernel
theorem dX4_merge_84 : decode cX4_merge 84 = .ok (.iload 4, 2) := by decide +kernel
theorem dX4_merge_86 : decode cX4_merge 86 = .ok (.iload_n 2, 1) := by decide +kernel
theorem dX4_merge_87 : decode cX4_merge 87 = .ok (.iload 5, 2) := by decide +kernel
theorem dX4_merge_89 : decode cX4_merge 89 = .ok (.isub, 1) := by decide +kernel
theorem dX4_merge_90 : decode cX4_merge 90 = .ok (.iadd, 1) := by decide +kernel
theorem dX4_merge_91 : decode cX4_merge 91 = .ok (.istore 4, 2) := by decide +kernel
theorem dX4_merge_93 : decode cX4_merge 93 = .ok (.iinc 7 1, 3) := by decide +kernel
theorem dX4_merge_96 : decode cX4_merge 96 = .ok (.goto (-84), 3) := by decide +kernel
theorem dX4_merge_99 : decode cX4_merge 99 = .ok (.aload_n 0, 1) := by decide +kernel
theorem dX4_merge_100 : decode cX4_merge 100 = .ok (.getfield 15, 3) := by decide +kernel
theorem dX4_merge_103 : decode cX4_merge 103 = .ok (.iload_n 1, 1) := by decide +kernel
theorem dX4_merge_104 : decode cX4_merge 104 = .ok (.aload_n 0, 1) := by decide +kernel
theorem dX4_merge_105 : decode cX4_merge 105 = .ok (.getfield 9, 3) := by decide +kernel
theorem dX4_merge_108 : decode cX4_merge 108 = .ok (.iload_n 1, 1) := by decide +kernel
theorem dX4_merge_109 : decode cX4_merge 109 = .ok (.iload_n 3, 1) := by decide +kernel
theorem dX4_merge_110 : decode cX4_merge 110 = .ok (.iload_n 1, 1) := by decide +kernel
theorem dX4_merge_111 : decode cX4_merge 111 = .ok (.isub, 1) := by decide +kernel
theorem dX4_merge_112 : decode cX4_merge 112 = .ok (.invokestatic 49, 3) := by decide +kernel
theorem dX4_merge_115 : decode cX4_merge 115 = .ok (.iload 4, 2) := by decide +kernel
theorem dX4_merge_117 : decode cX4_merge 117 = .ok (.ireturn, 1) := by decide +kernel
end
section
theorem dX6_init_0 : decode cX6_init 0 = .ok (.aload_n 0, 1) := by decide +kernel
theorem dX6_init_1 : decode cX6_init 1 = .ok (.invokespecial 3, 3) := by decide +kernel
theorem dX6_init_4 : decode cX6_init 4 = .ok (.aload_n 0, 1) := by decide +kernel
theorem dX6_init_5 : decode cX6_init 5 = .ok (.bipush 60, 2) := by decide +kernel
theorem dX6_init_7 : decode cX6_init 7 = .ok (.newarray .char, 2) := by decide +kernel
theorem dX6_init_9 : decode cX6_init 9 = .ok (.putfield 9, 3) := by decide +kernel
theorem dX6_init_12 : decode cX6_init 12 = .ok (.aload_n 0, 1) := by decide +kernel
theorem dX6_init_13 : decode cX6_init 13 = .ok (.iconst 0, 1) := by decide +kernel
theorem dX6_init_14 : decode cX6_init 14 = .ok (.putfield 15, 3) := by decide +kernel
theorem dX6_init_17 : decode cX6_init 17 = .ok (.aload_n 0, 1) := by decide +kernel
theorem dX6_init_18 : decode cX6_init 18 = .ok (.iconst 0, 1) := by decide +kernel
theorem dX6_init_19 : decode cX6_init 19 = .ok (.putfield 19, 3) := by decide +kernel
theorem dX6_init_22 : decode cX6_init 22 = .ok (.aload_n 0, 1) := by decide +kernel
theorem dX6_init_23 : decode cX6_init 23 = .ok (.iconst 0, 1) := by decide +kernel
theorem dX6_init_24 : decode cX6_init 24 = .ok (.putfield 22, 3) := by decide +kernel
theorem dX6_init_27 : decode cX6_init 27 = .ok (.aload_n 0, 1) := by decide +kernel
theorem dX6_init_28 : decode cX6_init 28 = .ok (.getstatic 25, 3) := by decide +kernel
theorem dX6_init_31 : decode cX6_init 31 = .ok (.putfield 31, 3) := by decide +kernel
theorem dX6_init_34 : decode cX6_init 34 = .ok (.aload_n 0, 1) := by decide +kernel
theorem dX6_init_35 : decode cX6_init 35 = .ok (.iconst 4, 1) := by decide +kernel
theorem dX6_init_36 : decode cX6_init 36 = .ok (.newarray .int, 2) := by decide +kernel
theorem dX6_init_38 : decode cX6_init 38 = .ok (.putfield 34, 3) := by decide +kernel
theorem dX6_init_41 : decode cX6_init 41 = .ok (.aload_n 0, 1) := by decide +kernel
theorem dX6_init_42 : decode cX6_init 42 = .ok (.iconst 0, 1) := by decide +kernel
theorem dX6_init_43 : decode cX6_init 43 = .ok (.putfield 38, 3) := by decide +kernel
theorem dX6_init_46 : decode cX6_init 46 = .ok (.return_, 1) := by decide +kernel
theorem dX6_isFull_0 : decode cX6_isFull 0 = .ok (.aload_n 0, 1) := by decide +kernel
theorem dX6_isFull_1 : decode cX6_isFull 1 = .ok (.getfield 15, 3) := by decide +kernel
theorem dX6_isFull_4 : decode cX6_isFull 4 = .ok (.bipush 60, 2) := by decide +kernel
theorem dX6_isFull_6 : decode cX6_isFull 6 = .ok (.if_icmp .lt 7, 3) := by decide +kernel
theorem dX6_isFull_9 : decode cX6_isFull 9 = .ok (.iconst 1, 1) := by decide +kernel
theorem dX6_isFull_10 : decode cX6_isFull 10 = .ok (.goto 4, 3) := by decide +kernel
theorem dX6_isFull_13 : decode cX6_isFull 13 = .ok (.iconst 0, 1) := by decide +kernel
theorem dX6_isFull_14 : decode cX6_isFull 14 = .ok (.ireturn, 1) := by decide +kernel
theorem dX6_append_0 : decode cX6_append 0 = .ok (.aload_n 0, 1) := by decide +kernel
theorem dX6_append_1 : decode cX6_append 1 = .ok (.getfield 9, 3) := by decide +kernel
theorem dX6_append_4 : decode cX6_append 4 = .ok (.aload_n 0, 1) := by decide +kernel
theorem dX6_append_5 : decode cX6_append 5 = .ok (.getfield 15, 3) := by decide +kernel
theorem dX6_append_8 : decode cX6_append 8 = .ok (.iload_n 1, 1) := by decide +kernel
theorem dX6_append_9 : decode cX6_append 9 = .ok (.castore, 1) := by decide +kernel
theorem dX6_append_10 : decode cX6_append 10 = .ok (.aload_n 0, 1) := by decide +kernel
theorem dX6_append_11 : decode cX6_append 11 = .ok (.dup, 1) := by decide +kernel
theorem dX6_append_12 : decode cX6_append 12 = .ok (.getfield 15, 3) := by decide +kernel
theorem dX6_append_15 : decode cX6_append 15 = .ok (.iconst 1, 1) := by decide +kernel
theorem dX6_append_16 : decode cX6_append 16 = .ok (.iadd, 1) := by decide +kernel
theorem dX6_append_17 : decode cX6_append 17 = .ok (.putfield 15, 3) := by decide +kernel
theorem dX6_append_20 : decode cX6_append 20 = .ok (.aload_n 0, 1) := by decide +kernel
theorem dX6_append_21 : decode cX6_append 21 = .ok (.getfield 15, 3) := by decide +kernel
theorem dX6_append_24 : decode cX6_append 24 = .ok (.ireturn, 1) := by decide +kernel
theorem dX6_findError_0 : decode cX6_findError 0 = .ok (.aload_n 0, 1) := by decide +kernel
theorem dX6_findError_1 : decode cX6_findError 1 = .ok (.iconst 0, 1) := by decide +kernel
theorem dX6_findError_2 : decode cX6_findError 2 = .ok (.putfield 19, 3) := by decide +kernel
theorem dX6_findError_5 : decode cX6_findError 5 = .ok (.aload_n 0, 1) := by decide +kernel
theorem dX6_findError_6 : decode cX6_findError 6 = .ok (.iconst 1, 1) := by decide +kernel
theorem dX6_findError_7 : decode cX6_findError 7 = .ok (.putfield 22, 3) := by decide +kernel
theorem dX6_findError_10 : decode cX6_findError 10 = .ok (.aload_n 0, 1) := by decide +kernel
theorem dX6_findError_11 : decode cX6_findError 11 = .ok (.getfield 22, 3) := by decide +kernel
theorem dX6_findError_14 : decode cX6_findError 14 = .ok (.bipush 60, 2) := by decide +kernel
theorem dX6_findError_16 : decode cX6_findError 16 = .ok (.if_icmp .gt 48, 3) := by decide +kernel
theorem dX6_findError_19 : decode cX6_findError 19 = .ok (.aload_n 0, 1) := by decide +kernel
theorem dX6_findError_20 : decode cX6_findError 20 = .ok (.invokevirtual 41, 3) := by decide +kernel
theorem dX6_findError_23 : decode cX6_findError 23 = .ok (.ifCond .eq 41, 3) := by decide +kernel
theorem dX6_findError_26 : decode cX6_findError 26 = .ok (.aload_n 0, 1) := by decide +kernel
theorem dX6_findError_27 : decode cX6_findError 27 = .ok (.getfield 19, 3) := by decide +kernel
theorem dX6_findError_30 : decode cX6_findError 30 = .ok (.aload_n 0, 1) := by decide +kernel
theorem dX6_findError_31 : decode cX6_findError 31 = .ok (.getfield 15, 3) := by decide +kernel
theorem dX6_findError_34 : decode cX6_findError 34 = .ok (.if_icmp .ne 5, 3) := by decide +kernel
theorem dX6_findError_37 : decode cX6_findError 37 = .ok (.iconst (-1), 1) := by decide +kernel
theorem dX6_findError_38 : decode cX6_findError 38 = .ok (.ireturn, 1) := by decide +kernel
theorem dX6_findError_39 : decode cX6_findError 39 = .ok (.aload_n 0, 1) := by decide +kernel
theorem dX6_findError_40 : decode cX6_findError 40 = .ok (.invokevirtual 45, 3) := by decide +kernel
theorem dX6_findError_43 : decode cX6_findError 43 = .ok (.ifCond .ne 8, 3) := by decide +kernel
theorem dX6_findError_46 : decode cX6_findError 46 = .ok (.aload_n 0, 1) := by decide +kernel
theorem dX6_findError_47 : decode cX6_findError 47 = .ok (.getfield 19, 3) := by decide +kernel
theorem dX6_findError_50 : decode cX6_findError 50 = .ok (.ireturn, 1) := by decide +kernel
theorem dX6_findError_51 : decode cX6_findError 51 = .ok (.aload_n 0, 1) := by decide +kernel
theorem dX6_findError_52 : decode cX6_findError 52 = .ok (.dup, 1) := by decide +kernel
theorem dX6_findError_53 : decode cX6_findError 53 = .ok (.getfield 22, 3) := by decide +kernel
theorem dX6_findError_56 : decode cX6_findError 56 = .ok (.iconst 1, 1) := by decide +kernel
theorem dX6_findError_57 : decode cX6_findError 57 = .ok (.iadd, 1) := by decide +kernel
theorem dX6_findError_58 : decode cX6_findError 58 = .ok (.putfield 22, 3) := by decide +kernel
theorem dX6_findError_61 : decode cX6_findError 61 = .ok (.goto (-51), 3) := by decide +kernel
theorem dX6_findError_64 : decode cX6_findError 64 = .ok (.aload_n 0, 1) := by decide +kernel
theorem dX6_findError_65 : decode cX6_findError 65 = .ok (.getfield 19, 3) := by decide +kernel
theorem dX6_findError_68 : decode cX6_findError 68 = .ok (.ireturn, 1) := by decide +kernel
theorem dX6_skipSemicolon_0 : decode cX6_skipSemicolon 0 = .ok (.aload_n 0, 1) := by decide +kernel
theorem dX6_skipSemicolon_1 : decode cX6_skipSemicolon 1 = .ok (.bipush 59, 2) := by decide +kernel
theorem dX6_skipSemicolon_3 : decode cX6_skipSemicolon 3 = .ok (.invokevirtual 48, 3) := by decide +kernel
theorem dX6_skipSemicolon_6 : decode cX6_skipSemicolon 6 = .ok (.ireturn, 1) := by decide +kernel
theorem dX6_readCommand_0 : decode cX6_readCommand 0 = .ok (.aload_n 0, 1) := by decide +kernel
theorem dX6_readCommand_1 : decode cX6_readCommand 1 = .ok (.getfield 19, 3) := by decide +kernel
theorem dX6_readCommand_4 : decode cX6_readCommand 4 = .ok (.istore_n 1, 1) := by decide +kernel
theorem dX6_readCommand_5 : decode cX6_readCommand 5 = .ok (.aload_n 0, 1) := by decide +kernel
theorem dX6_readCommand_6 : decode cX6_readCommand 6 = .ok (.getfield 19, 3) := by decide +kernel
theorem dX6_readCommand_9 : decode cX6_readCommand 9 = .ok (.istore_n 2, 1) := by decide +kernel
theorem dX6_readCommand_10 : decode cX6_readCommand 10 = .ok (.iconst 0, 1) := by decide +kernel
theorem dX6_readCommand_11 : decode cX6_readCommand 11 = .ok (.istore_n 3, 1) := by decide +kernel
theorem dX6_readCommand_12 : decode cX6_readCommand 12 = .ok (.iload_n 3, 1) := by decide +kernel
theorem dX6_readCommand_13 : decode cX6_readCommand 13 = .ok (.getstatic 52, 3) := by decide +kernel
theorem dX6_readCommand_16 : decode cX6_readCommand 16 = .ok (.arraylength, 1) := by decide +kernel
theorem dX6_readCommand_17 : decode cX6_readCommand 17 = .ok (.if_icmp .ge 49, 3) := by decide +kernel
theorem dX6_readCommand_20 : decode cX6_readCommand 20 = .ok (.aload_n 0, 1) := by decide +kernel
theorem dX6_readCommand_21 : decode cX6_readCommand 21 = .ok (.iload_n 1, 1) := by decide +kernel
theorem dX6_readCommand_22 : decode cX6_readCommand 22 = .ok (.putfield 19, 3) := by decide +kernel
theorem dX6_readCommand_25 : decode cX6_readCommand 25 = .ok (.aload_n 0, 1) := by decide +kernel
theorem dX6_readCommand_26 : decode cX6_readCommand 26 = .ok (.getstatic 52, 3) := by decide +kernel
theorem dX6_readCommand_29 : decode cX6_readCommand 29 = .ok (.iload_n 3, 1) := by decide +kernel
theorem dX6_readCommand_30 : decode cX6_readCommand 30 = .ok (.aaload, 1) := by decide +kernel
theorem dX6_readCommand_31 : decode cX6_readCommand 31 = .ok (.getfield 56, 3) := by decide +kernel
theorem dX6_readCommand_34 : decode cX6_readCommand 34 = .ok (.invokevirtual 60, 3) := by decide +kernel
theorem dX6_readCommand_37 : decode cX6_readCommand 37 = .ok (.ifCond .eq 14, 3) := by decide +kernel
theorem dX6_readCommand_40 : decode cX6_readCommand 40 = .ok (.aload_n 0, 1) := by decide +kernel
theorem dX6_readCommand_41 : decode cX6_readCommand 41 = .ok (.getstatic 52, 3) := by decide +kernel
theorem dX6_readCommand_44 : decode cX6_readCommand 44 = .ok (.iload_n 3, 1) := by decide +kernel
theorem dX6_readCommand_45 : decode cX6_readCommand 45 = .ok (.aaload, 1) := by decide +kernel
theorem dX6_readCommand_46 : decode cX6_readCommand 46 = .ok (.putfield 31, 3) := by decide +kernel
theorem dX6_readCommand_49 : decode cX6_readCommand 49 = .ok (.iconst 1, 1) := by decide +kernel
theorem dX6_readCommand_50 : decode cX6_readCommand 50 = .ok (.ireturn, 1) := by decide +kernel
theorem dX6_readCommand_51 : decode cX6_readCommand 51 = .ok (.iload_n 2, 1) := by decide +kernel
theorem dX6_readCommand_52 : decode cX6_readCommand 52 = .ok (.aload_n 0, 1) := by decide +kernel
theorem dX6_readCommand_53 : decode cX6_readCommand 53 = .ok (.getfield 19, 3) := by decide +kernel
theorem dX6_readCommand_56 : decode cX6_readCommand 56 = .ok (.invokestatic 64, 3) := by decide +kernel
theorem dX6_readCommand_59 : decode cX6_readCommand 59 = .ok (.istore_n 2, 1) := by decide +kernel
theorem dX6_readCommand_60 : decode cX6_readCommand 60 = .ok (.iinc 3 1, 3) := by decide +kernel
theorem dX6_readCommand_63 : decode cX6_readCommand 63 = .ok (.goto (-51), 3) := by decide +kernel
theorem dX6_readCommand_66 : decode cX6_readCommand 66 = .ok (.aload_n 0, 1) := by decide +kernel
theorem dX6_readCommand_67 : decode cX6_readCommand 67 = .ok (.iload_n 2, 1) := by decide +kernel
theorem dX6_readCommand_68 : decode cX6_readCommand 68 = .ok (.putfield 19, 3) := by decide +kernel
theorem dX6_readCommand_71 : decode cX6_readCommand 71 = .ok (.iconst 0, 1) := by decide +kernel
theorem dX6_readCommand_72 : decode cX6_readCommand 72 = .ok (.ireturn, 1) := by decide +kernel
theorem dX6_fits_0 : decode cX6_fits 0 = .ok (.aload_n 0, 1) := by decide +kernel
theorem dX6_fits_1 : decode cX6_fits 1 = .ok (.iconst 0, 1) := by decide +kernel
theorem dX6_fits_2 : decode cX6_fits 2 = .ok (.putfield 38, 3) := by decide +kernel
theorem dX6_fits_5 : decode cX6_fits 5 = .ok (.iconst 0, 1) := by decide +kernel
theorem dX6_fits_6 : decode cX6_fits 6 = .ok (.istore_n 2, 1) := by decide +kernel
theorem dX6_fits_7 : decode cX6_fits 7 = .ok (.iload_n 2, 1) := by decide +kernel
theorem dX6_fits_8 : decode cX6_fits 8 = .ok (.aload_n 1, 1) := by decide +kernel
theorem dX6_fits_9 : decode cX6_fits 9 = .ok (.invokevirtual 70, 3) := by decide +kernel
theorem dX6_fits_12 : decode cX6_fits 12 = .ok (.if_icmp .ge 23, 3) := by decide +kernel
theorem dX6_fits_15 : decode cX6_fits 15 = .ok (.aload_n 0, 1) := by decide +kernel
theorem dX6_fits_16 : decode cX6_fits 16 = .ok (.aload_n 1, 1) := by decide +kernel
theorem dX6_fits_17 : decode cX6_fits 17 = .ok (.iload_n 2, 1) := by decide +kernel
theorem dX6_fits_18 : decode cX6_fits 18 = .ok (.invokevirtual 75, 3) := by decide +kernel
theorem dX6_fits_21 : decode cX6_fits 21 = .ok (.invokevirtual 79, 3) := by decide +kernel
theorem dX6_fits_24 : decode cX6_fits 24 = .ok (.ifCond .ne 5, 3) := by decide +kernel
theorem dX6_fits_27 : decode cX6_fits 27 = .ok (.iconst 0, 1) := by decide +kernel
theorem dX6_fits_28 : decode cX6_fits 28 = .ok (.ireturn, 1) := by decide +kernel
theorem dX6_fits_29 : decode cX6_fits 29 = .ok (.iinc 2 1, 3) := by decide +kernel
theorem dX6_fits_32 : decode cX6_fits 32 = .ok (.goto (-25), 3) := by decide +kernel
theorem dX6_fits_35 : decode cX6_fits 35 = .ok (.iconst 1, 1) := by decide +kernel
theorem dX6_fits_36 : decode cX6_fits 36 = .ok (.ireturn, 1) := by decide +kernel
theorem dX6_takePart_0 : decode cX6_takePart 0 = .ok (.iload_n 1, 1) := by decide +kernel
theorem dX6_takePart_1 : decode cX6_takePart 1 = .ok (.bipush 78, 2) := by decide +kernel
theorem dX6_takePart_3 : decode cX6_takePart 3 = .ok (.if_icmp .ne 9, 3) := by decide +kernel
theorem dX6_takePart_6 : decode cX6_takePart 6 = .ok (.aload_n 0, 1) := by decide +kernel
theorem dX6_takePart_7 : decode cX6_takePart 7 = .ok (.iconst 3, 1) := by decide +kernel
theorem dX6_takePart_8 : decode cX6_takePart 8 = .ok (.invokevirtual 82, 3) := by decide +kernel
theorem dX6_takePart_11 : decode cX6_takePart 11 = .ok (.ireturn, 1) := by decide +kernel
theorem dX6_takePart_12 : decode cX6_takePart 12 = .ok (.iload_n 1, 1) := by decide +kernel
theorem dX6_takePart_13 : decode cX6_takePart 13 = .ok (.bipush 68, 2) := by decide +kernel
theorem dX6_takePart_15 : decode cX6_takePart 15 = .ok (.if_icmp .ne 9, 3) := by decide +kernel
theorem dX6_takePart_18 : decode cX6_takePart 18 = .ok (.aload_n 0, 1) := by decide +kernel
theorem dX6_takePart_19 : decode cX6_takePart 19 = .ok (.iconst 1, 1) := by decide +kernel
theorem dX6_takePart_20 : decode cX6_takePart 20 = .ok (.invokevirtual 82, 3) := by decide +kernel
theorem dX6_takePart_23 : decode cX6_takePart 23 = .ok (.ireturn, 1) := by decide +kernel
theorem dX6_takePart_24 : decode cX6_takePart 24 = .ok (.iload_n 1, 1) := by decide +kernel
theorem dX6_takePart_25 : decode cX6_takePart 25 = .ok (.bipush 83, 2) := by decide +kernel
theorem dX6_takePart_27 : decode cX6_takePart 27 = .ok (.if_icmp .ne 10, 3) := by decide +kernel
theorem dX6_takePart_30 : decode cX6_takePart 30 = .ok (.aload_n 0, 1) := by decide +kernel
theorem dX6_takePart_31 : decode cX6_takePart 31 = .ok (.invokevirtual 86, 3) := by decide +kernel
theorem dX6_takePart_34 : decode cX6_takePart 34 = .ok (.goto 8, 3) := by decide +kernel
theorem dX6_takePart_37 : decode cX6_takePart 37 = .ok (.aload_n 0, 1) := by decide +kernel
theorem dX6_takePart_38 : decode cX6_takePart 38 = .ok (.iload_n 1, 1) := by decide +kernel
theorem dX6_takePart_39 : decode cX6_takePart 39 = .ok (.invokevirtual 48, 3) := by decide +kernel
theorem dX6_takePart_42 : decode cX6_takePart 42 = .ok (.ireturn, 1) := by decide +kernel
theorem dX6_takeNumber_0 : decode cX6_takeNumber 0 = .ok (.iconst 0, 1) := by decide +kernel
theorem dX6_takeNumber_1 : decode cX6_takeNumber 1 = .ok (.istore_n 2, 1) := by decide +kernel
theorem dX6_takeNumber_2 : decode cX6_takeNumber 2 = .ok (.iconst 0, 1) := by decide +kernel
theorem dX6_takeNumber_3 : decode cX6_takeNumber 3 = .ok (.istore_n 3, 1) := by decide +kernel
theorem dX6_takeNumber_4 : decode cX6_takeNumber 4 = .ok (.iload_n 2, 1) := by decide +kernel
theorem dX6_takeNumber_5 : decode cX6_takeNumber 5 = .ok (.iload_n 1, 1) := by decide +kernel
theorem dX6_takeNumber_6 : decode cX6_takeNumber 6 = .ok (.if_icmp .ge 44, 3) := by decide +kernel
theorem dX6_takeNumber_9 : decode cX6_takeNumber 9 = .ok (.aload_n 0, 1) := by decide +kernel
theorem dX6_takeNumber_10 : decode cX6_takeNumber 10 = .ok (.invokevirtual 89, 3) := by decide +kernel
theorem dX6_takeNumber_13 : decode cX6_takeNumber 13 = .ok (.ifCond .eq 37, 3) := by decide +kernel
theorem dX6_takeNumber_16 : decode cX6_takeNumber 16 = .ok (.bipush 10, 2) := by decide +kernel
theorem dX6_takeNumber_18 : decode cX6_takeNumber 18 = .ok (.iload_n 3, 1) := by decide +kernel
theorem dX6_takeNumber_19 : decode cX6_takeNumber 19 = .ok (.imul, 1) := by decide +kernel
theorem dX6_takeNumber_20 : decode cX6_takeNumber 20 = .ok (.aload_n 0, 1) := by decide +kernel
theorem dX6_takeNumber_21 : decode cX6_takeNumber 21 = .ok (.getfield 9, 3) := by decide +kernel
theorem dX6_takeNumber_24 : decode cX6_takeNumber 24 = .ok (.aload_n 0, 1) := by decide +kernel
theorem dX6_takeNumber_25 : decode cX6_takeNumber 25 = .ok (.getfield 19, 3) := by decide +kernel
theorem dX6_takeNumber_28 : decode cX6_takeNumber 28 = .ok (.caload, 1) := by decide +kernel
theorem dX6_takeNumber_29 : decode cX6_takeNumber 29 = .ok (.bipush 48, 2) := by decide +kernel
theorem dX6_takeNumber_31 : decode cX6_takeNumber 31 = .ok (.isub, 1) := by decide +kernel
theorem dX6_takeNumber_32 : decode cX6_takeNumber 32 = .ok (.iadd, 1) := by decide +kernel
theorem dX6_takeNumber_33 : decode cX6_takeNumber 33 = .ok (.istore_n 3, 1) := by decide +kernel
theorem dX6_takeNumber_34 : decode cX6_takeNumber 34 = .ok (.aload_n 0, 1) := by decide +kernel
theorem dX6_takeNumber_35 : decode cX6_takeNumber 35 = .ok (.dup, 1) := by decide +kernel
theorem dX6_takeNumber_36 : decode cX6_takeNumber 36 = .ok (.getfield 19, 3) := by decide +kernel
theorem dX6_takeNumber_39 : decode cX6_takeNumber 39 = .ok (.iconst 1, 1) := by decide +kernel
theorem dX6_takeNumber_40 : decode cX6_takeNumber 40 = .ok (.iadd, 1) := by decide +kernel
theorem dX6_takeNumber_41 : decode cX6_takeNumber 41 = .ok (.putfield 19, 3) := by decide +kernel
theorem dX6_takeNumber_44 : decode cX6_takeNumber 44 = .ok (.iinc 2 1, 3) := by decide +kernel
theorem dX6_takeNumber_47 : decode cX6_takeNumber 47 = .ok (.goto (-43), 3) := by decide +kernel
theorem dX6_takeNumber_50 : decode cX6_takeNumber 50 = .ok (.iload_n 2, 1) := by decide +kernel
theorem dX6_takeNumber_51 : decode cX6_takeNumber 51 = .ok (.ifCond .ne 5, 3) := by decide +kernel
theorem dX6_takeNumber_54 : decode cX6_takeNumber 54 = .ok (.iconst 0, 1) := by decide +kernel
theorem dX6_takeNumber_55 : decode cX6_takeNumber 55 = .ok (.ireturn, 1) := by decide +kernel
theorem dX6_takeNumber_56 : decode cX6_takeNumber 56 = .ok (.aload_n 0, 1) := by decide +kernel
theorem dX6_takeNumber_57 : decode cX6_takeNumber 57 = .ok (.iload_n 3, 1) := by decide +kernel
theorem dX6_takeNumber_58 : decode cX6_takeNumber 58 = .ok (.invokevirtual 92, 3) := by decide +kernel
theorem dX6_takeNumber_61 : decode cX6_takeNumber 61 = .ok (.iconst 1, 1) := by decide +kernel
theorem dX6_takeNumber_62 : decode cX6_takeNumber 62 = .ok (.ireturn, 1) := by decide +kernel
theorem dX6_standsAtDigit_0 : decode cX6_standsAtDigit 0 = .ok (.aload_n 0, 1) := by decide +kernel
theorem dX6_standsAtDigit_1 : decode cX6_standsAtDigit 1 = .ok (.getfield 19, 3) := by decide +kernel
theorem dX6_standsAtDigit_4 : decode cX6_standsAtDigit 4 = .ok (.aload_n 0, 1) := by decide +kernel
theorem dX6_standsAtDigit_5 : decode cX6_standsAtDigit 5 = .ok (.getfield 15, 3) := by decide +kernel
theorem dX6_standsAtDigit_8 : decode cX6_standsAtDigit 8 = .ok (.if_icmp .ge 35, 3) := by decide +kernel
theorem dX6_standsAtDigit_11 : decode cX6_standsAtDigit 11 = .ok (.aload_n 0, 1) := by decide +kernel
theorem dX6_standsAtDigit_12 : decode cX6_standsAtDigit 12 = .ok (.getfield 9, 3) := by decide +kernel
theorem dX6_standsAtDigit_15 : decode cX6_standsAtDigit 15 = .ok (.aload_n 0, 1) := by decide +kernel
theorem dX6_standsAtDigit_16 : decode cX6_standsAtDigit 16 = .ok (.getfield 19, 3) := by decide +kernel
theorem dX6_standsAtDigit_19 : decode cX6_standsAtDigit 19 = .ok (.caload, 1) := by decide +kernel
theorem dX6_standsAtDigit_20 : decode cX6_standsAtDigit 20 = .ok (.bipush 48, 2) := by decide +kernel
theorem dX6_standsAtDigit_22 : decode cX6_standsAtDigit 22 = .ok (.if_icmp .lt 21, 3) := by decide +kernel
theorem dX6_standsAtDigit_25 : decode cX6_standsAtDigit 25 = .ok (.aload_n 0, 1) := by decide +kernel
theorem dX6_standsAtDigit_26 : decode cX6_standsAtDigit 26 = .ok (.getfield 9, 3) := by decide +kernel
theorem dX6_standsAtDigit_29 : decode cX6_standsAtDigit 29 = .ok (.aload_n 0, 1) := by decide +kernel
theorem dX6_standsAtDigit_30 : decode cX6_standsAtDigit 30 = .ok (.getfield 19, 3) := by decide +kernel
theorem dX6_standsAtDigit_33 : decode cX6_standsAtDigit 33 = .ok (.caload, 1) := by decide +kernel
theorem dX6_standsAtDigit_34 : decode cX6_standsAtDigit 34 = .ok (.bipush 57, 2) := by decide +kernel
theorem dX6_standsAtDigit_36 : decode cX6_standsAtDigit 36 = .ok (.if_icmp .gt 7, 3) := by decide +kernel
theorem dX6_standsAtDigit_39 : decode cX6_standsAtDigit 39 = .ok (.iconst 1, 1) := by decide +kernel
theorem dX6_standsAtDigit_40 : decode cX6_standsAtDigit 40 = .ok (.goto 4, 3) := by decide +kernel
theorem dX6_standsAtDigit_43 : decode cX6_standsAtDigit 43 = .ok (.iconst 0, 1) := by decide +kernel
theorem dX6_standsAtDigit_44 : decode cX6_standsAtDigit 44 = .ok (.ireturn, 1) := by decide +kernel
theorem dX6_takeSign_0 : decode cX6_takeSign 0 = .ok (.aload_n 0, 1) := by decide +kernel
theorem dX6_takeSign_1 : decode cX6_takeSign 1 = .ok (.bipush 43, 2) := by decide +kernel
theorem dX6_takeSign_3 : decode cX6_takeSign 3 = .ok (.invokevirtual 48, 3) := by decide +kernel
theorem dX6_takeSign_6 : decode cX6_takeSign 6 = .ok (.ifCond .eq 10, 3) := by decide +kernel
theorem dX6_takeSign_9 : decode cX6_takeSign 9 = .ok (.aload_n 0, 1) := by decide +kernel
theorem dX6_takeSign_10 : decode cX6_takeSign 10 = .ok (.iconst 1, 1) := by decide +kernel
theorem dX6_takeSign_11 : decode cX6_takeSign 11 = .ok (.invokevirtual 92, 3) := by decide +kernel
theorem dX6_takeSign_14 : decode cX6_takeSign 14 = .ok (.iconst 1, 1) := by decide +kernel
theorem dX6_takeSign_15 : decode cX6_takeSign 15 = .ok (.ireturn, 1) := by decide +kernel
theorem dX6_takeSign_16 : decode cX6_takeSign 16 = .ok (.aload_n 0, 1) := by decide +kernel
theorem dX6_takeSign_17 : decode cX6_takeSign 17 = .ok (.bipush 45, 2) := by decide +kernel
theorem dX6_takeSign_19 : decode cX6_takeSign 19 = .ok (.invokevirtual 48, 3) := by decide +kernel
theorem dX6_takeSign_22 : decode cX6_takeSign 22 = .ok (.ifCond .eq 10, 3) := by decide +kernel
theorem dX6_takeSign_25 : decode cX6_takeSign 25 = .ok (.aload_n 0, 1) := by decide +kernel
theorem dX6_takeSign_26 : decode cX6_takeSign 26 = .ok (.iconst (-1), 1) := by decide +kernel
theorem dX6_takeSign_27 : decode cX6_takeSign 27 = .ok (.invokevirtual 92, 3) := by decide +kernel
theorem dX6_takeSign_30 : decode cX6_takeSign 30 = .ok (.iconst 1, 1) := by decide +kernel
theorem dX6_takeSign_31 : decode cX6_takeSign 31 = .ok (.ireturn, 1) := by decide +kernel
theorem dX6_takeSign_32 : decode cX6_takeSign 32 = .ok (.iconst 0, 1) := by decide +kernel
theorem dX6_takeSign_33 : decode cX6_takeSign 33 = .ok (.ireturn, 1) := by decide +kernel
theorem dX6_takeCharacter_0 : decode cX6_takeCharacter 0 = .ok (.aload_n 0, 1) := by decide +kernel
theorem dX6_takeCharacter_1 : decode cX6_takeCharacter 1 = .ok (.getfield 19, 3) := by decide +kernel
theorem dX6_takeCharacter_4 : decode cX6_takeCharacter 4 = .ok (.aload_n 0, 1) := by decide +kernel
theorem dX6_takeCharacter_5 : decode cX6_takeCharacter 5 = .ok (.getfield 15, 3) := by decide +kernel
theorem dX6_takeCharacter_8 : decode cX6_takeCharacter 8 = .ok (.if_icmp .ge 16, 3) := by decide +kernel
theorem dX6_takeCharacter_11 : decode cX6_takeCharacter 11 = .ok (.aload_n 0, 1) := by decide +kernel
theorem dX6_takeCharacter_12 : decode cX6_takeCharacter 12 = .ok (.getfield 9, 3) := by decide +kernel
theorem dX6_takeCharacter_15 : decode cX6_takeCharacter 15 = .ok (.aload_n 0, 1) := by decide +kernel
theorem dX6_takeCharacter_16 : decode cX6_takeCharacter 16 = .ok (.getfield 19, 3) := by decide +kernel
theorem dX6_takeCharacter_19 : decode cX6_takeCharacter 19 = .ok (.caload, 1) := by decide +kernel
theorem dX6_takeCharacter_20 : decode cX6_takeCharacter 20 = .ok (.iload_n 1, 1) := by decide +kernel
theorem dX6_takeCharacter_21 : decode cX6_takeCharacter 21 = .ok (.if_icmp .eq 5, 3) := by decide +kernel
theorem dX6_takeCharacter_24 : decode cX6_takeCharacter 24 = .ok (.iconst 0, 1) := by decide +kernel
theorem dX6_takeCharacter_25 : decode cX6_takeCharacter 25 = .ok (.ireturn, 1) := by decide +kernel
theorem dX6_takeCharacter_26 : decode cX6_takeCharacter 26 = .ok (.aload_n 0, 1) := by decide +kernel
theorem dX6_takeCharacter_27 : decode cX6_takeCharacter 27 = .ok (.dup, 1) := by decide +kernel
theorem dX6_takeCharacter_28 : decode cX6_takeCharacter 28 = .ok (.getfield 19, 3) := by decide +kernel
theorem dX6_takeCharacter_31 : decode cX6_takeCharacter 31 = .ok (.iconst 1, 1) := by decide +kernel
theorem dX6_takeCharacter_32 : decode cX6_takeCharacter 32 = .ok (.iadd, 1) := by decide +kernel
theorem dX6_takeCharacter_33 : decode cX6_takeCharacter 33 = .ok (.putfield 19, 3) := by decide +kernel
theorem dX6_takeCharacter_36 : decode cX6_takeCharacter 36 = .ok (.iconst 1, 1) := by decide +kernel
theorem dX6_takeCharacter_37 : decode cX6_takeCharacter 37 = .ok (.ireturn, 1) := by decide +kernel
theorem dX6_keepNumber_0 : decode cX6_keepNumber 0 = .ok (.aload_n 0, 1) := by decide +kernel
theorem dX6_keepNumber_1 : decode cX6_keepNumber 1 = .ok (.getfield 38, 3) := by decide +kernel
theorem dX6_keepNumber_4 : decode cX6_keepNumber 4 = .ok (.iconst 4, 1) := by decide +kernel
theorem dX6_keepNumber_5 : decode cX6_keepNumber 5 = .ok (.if_icmp .ge 23, 3) := by decide +kernel
theorem dX6_keepNumber_8 : decode cX6_keepNumber 8 = .ok (.aload_n 0, 1) := by decide +kernel
theorem dX6_keepNumber_9 : decode cX6_keepNumber 9 = .ok (.getfield 34, 3) := by decide +kernel
theorem dX6_keepNumber_12 : decode cX6_keepNumber 12 = .ok (.aload_n 0, 1) := by decide +kernel
theorem dX6_keepNumber_13 : decode cX6_keepNumber 13 = .ok (.getfield 38, 3) := by decide +kernel
theorem dX6_keepNumber_16 : decode cX6_keepNumber 16 = .ok (.iload_n 1, 1) := by decide +kernel
theorem dX6_keepNumber_17 : decode cX6_keepNumber 17 = .ok (.iastore, 1) := by decide +kernel
theorem dX6_keepNumber_18 : decode cX6_keepNumber 18 = .ok (.aload_n 0, 1) := by decide +kernel
theorem dX6_keepNumber_19 : decode cX6_keepNumber 19 = .ok (.dup, 1) := by decide +kernel
theorem dX6_keepNumber_20 : decode cX6_keepNumber 20 = .ok (.getfield 38, 3) := by decide +kernel
theorem dX6_keepNumber_23 : decode cX6_keepNumber 23 = .ok (.iconst 1, 1) := by decide +kernel
theorem dX6_keepNumber_24 : decode cX6_keepNumber 24 = .ok (.iadd, 1) := by decide +kernel
theorem dX6_keepNumber_25 : decode cX6_keepNumber 25 = .ok (.putfield 38, 3) := by decide +kernel
theorem dX6_keepNumber_28 : decode cX6_keepNumber 28 = .ok (.return_, 1) := by decide +kernel
end
section
theorem dX7_init_0 : decode cX7_init 0 = .ok (.aload_n 0, 1) := by decide +kernel
theorem dX7_init_1 : decode cX7_init 1 = .ok (.invokespecial 3, 3) := by decide +kernel
theorem dX7_init_4 : decode cX7_init 4 = .ok (.aload_n 0, 1) := by decide +kernel
theorem dX7_init_5 : decode cX7_init 5 = .ok (.new 9, 3) := by decide +kernel
theorem dX7_init_8 : decode cX7_init 8 = .ok (.dup, 1) := by decide +kernel
theorem dX7_init_9 : decode cX7_init 9 = .ok (.invokespecial 11, 3) := by decide +kernel
theorem dX7_init_12 : decode cX7_init 12 = .ok (.putfield 12, 3) := by decide +kernel
theorem dX7_init_15 : decode cX7_init 15 = .ok (.aload_n 0, 1) := by decide +kernel
theorem dX7_init_16 : decode cX7_init 16 = .ok (.new 18, 3) := by decide +kernel
theorem dX7_init_19 : decode cX7_init 19 = .ok (.dup, 1) := by decide +kernel
theorem dX7_init_20 : decode cX7_init 20 = .ok (.invokespecial 20, 3) := by decide +kernel
theorem dX7_init_23 : decode cX7_init 23 = .ok (.putfield 21, 3) := by decide +kernel
theorem dX7_init_26 : decode cX7_init 26 = .ok (.aload_n 0, 1) := by decide +kernel
theorem dX7_init_27 : decode cX7_init 27 = .ok (.bipush 6, 2) := by decide +kernel
theorem dX7_init_29 : decode cX7_init 29 = .ok (.newarray .int, 2) := by decide +kernel
theorem dX7_init_31 : decode cX7_init 31 = .ok (.putfield 25, 3) := by decide +kernel
theorem dX7_init_34 : decode cX7_init 34 = .ok (.aload_n 0, 1) := by decide +kernel
theorem dX7_init_35 : decode cX7_init 35 = .ok (.bipush 6, 2) := by decide +kernel
theorem dX7_init_37 : decode cX7_init 37 = .ok (.newarray .int, 2) := by decide +kernel
theorem dX7_init_39 : decode cX7_init 39 = .ok (.putfield 29, 3) := by decide +kernel
theorem dX7_init_42 : decode cX7_init 42 = .ok (.aload_n 0, 1) := by decide +kernel
theorem dX7_init_43 : decode cX7_init 43 = .ok (.iconst 0, 1) := by decide +kernel
theorem dX7_init_44 : decode cX7_init 44 = .ok (.putfield 32, 3) := by decide +kernel
theorem dX7_init_47 : decode cX7_init 47 = .ok (.aload_n 0, 1) := by decide +kernel
theorem dX7_init_48 : decode cX7_init 48 = .ok (.iconst 0, 1) := by decide +kernel
theorem dX7_init_49 : decode cX7_init 49 = .ok (.putfield 36, 3) := by decide +kernel
theorem dX7_init_52 : decode cX7_init 52 = .ok (.aload_n 0, 1) := by decide +kernel
theorem dX7_init_53 : decode cX7_init 53 = .ok (.lconst 0, 1) := by decide +kernel
theorem dX7_init_54 : decode cX7_init 54 = .ok (.putfield 39, 3) := by decide +kernel
theorem dX7_init_57 : decode cX7_init 57 = .ok (.aload_n 0, 1) := by decide +kernel
theorem dX7_init_58 : decode cX7_init 58 = .ok (.lconst 0, 1) := by decide +kernel
theorem dX7_init_59 : decode cX7_init 59 = .ok (.putfield 43, 3) := by decide +kernel
theorem dX7_init_62 : decode cX7_init 62 = .ok (.return_, 1) := by decide +kernel
theorem dX7_copyFrom_0 : decode cX7_copyFrom 0 = .ok (.aload_n 0, 1) := by decide +kernel
theorem dX7_copyFrom_1 : decode cX7_copyFrom 1 = .ok (.getfield 12, 3) := by decide +kernel
theorem dX7_copyFrom_4 : decode cX7_copyFrom 4 = .ok (.aload_n 1, 1) := by decide +kernel
theorem dX7_copyFrom_5 : decode cX7_copyFrom 5 = .ok (.getfield 12, 3) := by decide +kernel
theorem dX7_copyFrom_8 : decode cX7_copyFrom 8 = .ok (.invokevirtual 46, 3) := by decide +kernel
theorem dX7_copyFrom_11 : decode cX7_copyFrom 11 = .ok (.aload_n 0, 1) := by decide +kernel
theorem dX7_copyFrom_12 : decode cX7_copyFrom 12 = .ok (.getfield 21, 3) := by decide +kernel
theorem dX7_copyFrom_15 : decode cX7_copyFrom 15 = .ok (.aload_n 1, 1) := by decide +kernel
theorem dX7_copyFrom_16 : decode cX7_copyFrom 16 = .ok (.getfield 21, 3) := by decide +kernel
theorem dX7_copyFrom_19 : decode cX7_copyFrom 19 = .ok (.invokevirtual 50, 3) := by decide +kernel
theorem dX7_copyFrom_22 : decode cX7_copyFrom 22 = .ok (.aload_n 1, 1) := by decide +kernel
theorem dX7_copyFrom_23 : decode cX7_copyFrom 23 = .ok (.getfield 25, 3) := by decide +kernel
theorem dX7_copyFrom_26 : decode cX7_copyFrom 26 = .ok (.iconst 0, 1) := by decide +kernel
theorem dX7_copyFrom_27 : decode cX7_copyFrom 27 = .ok (.aload_n 0, 1) := by decide +kernel
theorem dX7_copyFrom_28 : decode cX7_copyFrom 28 = .ok (.getfield 25, 3) := by decide +kernel
theorem dX7_copyFrom_31 : decode cX7_copyFrom 31 = .ok (.iconst 0, 1) := by decide +kernel
theorem dX7_copyFrom_32 : decode cX7_copyFrom 32 = .ok (.bipush 6, 2) := by decide +kernel
theorem dX7_copyFrom_34 : decode cX7_copyFrom 34 = .ok (.invokestatic 53, 3) := by decide +kernel
theorem dX7_copyFrom_37 : decode cX7_copyFrom 37 = .ok (.aload_n 1, 1) := by decide +kernel
theorem dX7_copyFrom_38 : decode cX7_copyFrom 38 = .ok (.getfield 29, 3) := by decide +kernel
theorem dX7_copyFrom_41 : decode cX7_copyFrom 41 = .ok (.iconst 0, 1) := by decide +kernel
theorem dX7_copyFrom_42 : decode cX7_copyFrom 42 = .ok (.aload_n 0, 1) := by decide +kernel
theorem dX7_copyFrom_43 : decode cX7_copyFrom 43 = .ok (.getfield 29, 3) := by decide +kernel
theorem dX7_copyFrom_46 : decode cX7_copyFrom 46 = .ok (.iconst 0, 1) := by decide +kernel
theorem dX7_copyFrom_47 : decode cX7_copyFrom 47 = .ok (.bipush 6, 2) := by decide +kernel
theorem dX7_copyFrom_49 : decode cX7_copyFrom 49 = .ok (.invokestatic 53, 3) := by decide +kernel
theorem dX7_copyFrom_52 : decode cX7_copyFrom 52 = .ok (.aload_n 0, 1) := by decide +kernel
theorem dX7_copyFrom_53 : decode cX7_copyFrom 53 = .ok (.aload_n 1, 1) := by decide +kernel
theorem dX7_copyFrom_54 : decode cX7_copyFrom 54 = .ok (.getfield 32, 3) := by decide +kernel
theorem dX7_copyFrom_57 : decode cX7_copyFrom 57 = .ok (.putfield 32, 3) := by decide +kernel
theorem dX7_copyFrom_60 : decode cX7_copyFrom 60 = .ok (.aload_n 0, 1) := by decide +kernel
theorem dX7_copyFrom_61 : decode cX7_copyFrom 61 = .ok (.aload_n 1, 1) := by decide +kernel
theorem dX7_copyFrom_62 : decode cX7_copyFrom 62 = .ok (.getfield 36, 3) := by decide +kernel
theorem dX7_copyFrom_65 : decode cX7_copyFrom 65 = .ok (.putfield 36, 3) := by decide +kernel
theorem dX7_copyFrom_68 : decode cX7_copyFrom 68 = .ok (.aload_n 0, 1) := by decide +kernel
theorem dX7_copyFrom_69 : decode cX7_copyFrom 69 = .ok (.aload_n 1, 1) := by decide +kernel
theorem dX7_copyFrom_70 : decode cX7_copyFrom 70 = .ok (.getfield 39, 3) := by decide +kernel
theorem dX7_copyFrom_73 : decode cX7_copyFrom 73 = .ok (.putfield 39, 3) := by decide +kernel
theorem dX7_copyFrom_76 : decode cX7_copyFrom 76 = .ok (.aload_n 0, 1) := by decide +kernel
theorem dX7_copyFrom_77 : decode cX7_copyFrom 77 = .ok (.aload_n 1, 1) := by decide +kernel
theorem dX7_copyFrom_78 : decode cX7_copyFrom 78 = .ok (.getfield 43, 3) := by decide +kernel
theorem dX7_copyFrom_81 : decode cX7_copyFrom 81 = .ok (.putfield 43, 3) := by decide +kernel
theorem dX7_copyFrom_84 : decode cX7_copyFrom 84 = .ok (.return_, 1) := by decide +kernel
theorem dX7_dropJet_0 : decode cX7_dropJet 0 = .ok (.aload_n 0, 1) := by decide +kernel
theorem dX7_dropJet_1 : decode cX7_dropJet 1 = .ok (.getfield 12, 3) := by decide +kernel
theorem dX7_dropJet_4 : decode cX7_dropJet 4 = .ok (.iload_n 1, 1) := by decide +kernel
theorem dX7_dropJet_5 : decode cX7_dropJet 5 = .ok (.invokevirtual 59, 3) := by decide +kernel
theorem dX7_dropJet_8 : decode cX7_dropJet 8 = .ok (.aload_n 0, 1) := by decide +kernel
theorem dX7_dropJet_9 : decode cX7_dropJet 9 = .ok (.getfield 21, 3) := by decide +kernel
theorem dX7_dropJet_12 : decode cX7_dropJet 12 = .ok (.iload_n 1, 1) := by decide +kernel
theorem dX7_dropJet_13 : decode cX7_dropJet 13 = .ok (.invokevirtual 63, 3) := by decide +kernel
theorem dX7_dropJet_16 : decode cX7_dropJet 16 = .ok (.ireturn, 1) := by decide +kernel
theorem dX7_problemOfDroppingFigure_0 : decode cX7_problemOfDroppingFigure 0 = .ok (.aload_n 0, 1) := by decide +kernel
theorem dX7_problemOfDroppingFigure_1 : decode cX7_problemOfDroppingFigure 1 = .ok (.getfield 21, 3) := by decide +kernel
theorem dX7_problemOfDroppingFigure_4 : decode cX7_problemOfDroppingFigure 4 = .ok (.iload_n 1, 1) := by decide +kernel
theorem dX7_problemOfDroppingFigure_5 : decode cX7_problemOfDroppingFigure 5 = .ok (.invokevirtual 67, 3) := by decide +kernel
theorem dX7_problemOfDroppingFigure_8 : decode cX7_problemOfDroppingFigure 8 = .ok (.ifCond .ne 7, 3) := by decide +kernel
theorem dX7_problemOfDroppingFigure_11 : decode cX7_problemOfDroppingFigure 11 = .ok (.getstatic 71, 3) := by decide +kernel
theorem dX7_problemOfDroppingFigure_14 : decode cX7_problemOfDroppingFigure 14 = .ok (.areturn, 1) := by decide +kernel
theorem dX7_problemOfDroppingFigure_15 : decode cX7_problemOfDroppingFigure 15 = .ok (.iconst 0, 1) := by decide +kernel
theorem dX7_problemOfDroppingFigure_16 : decode cX7_problemOfDroppingFigure 16 = .ok (.istore_n 2, 1) := by decide +kernel
theorem dX7_problemOfDroppingFigure_17 : decode cX7_problemOfDroppingFigure 17 = .ok (.iload_n 2, 1) := by decide +kernel
theorem dX7_problemOfDroppingFigure_18 : decode cX7_problemOfDroppingFigure 18 = .ok (.aload_n 0, 1) := by decide +kernel
theorem dX7_problemOfDroppingFigure_19 : decode cX7_problemOfDroppingFigure 19 = .ok (.getfield 32, 3) := by decide +kernel
theorem dX7_problemOfDroppingFigure_22 : decode cX7_problemOfDroppingFigure 22 = .ok (.if_icmp .ge 23, 3) := by decide +kernel
theorem dX7_problemOfDroppingFigure_25 : decode cX7_problemOfDroppingFigure 25 = .ok (.aload_n 0, 1) := by decide +kernel
theorem dX7_problemOfDroppingFigure_26 : decode cX7_problemOfDroppingFigure 26 = .ok (.getfield 25, 3) := by decide +kernel
theorem dX7_problemOfDroppingFigure_29 : decode cX7_problemOfDroppingFigure 29 = .ok (.iload_n 2, 1) := by decide +kernel
theorem dX7_problemOfDroppingFigure_30 : decode cX7_problemOfDroppingFigure 30 = .ok (.iaload, 1) := by decide +kernel
theorem dX7_problemOfDroppingFigure_31 : decode cX7_problemOfDroppingFigure 31 = .ok (.iload_n 1, 1) := by decide +kernel
theorem dX7_problemOfDroppingFigure_32 : decode cX7_problemOfDroppingFigure 32 = .ok (.if_icmp .ne 7, 3) := by decide +kernel
theorem dX7_problemOfDroppingFigure_35 : decode cX7_problemOfDroppingFigure 35 = .ok (.getstatic 77, 3) := by decide +kernel
theorem dX7_problemOfDroppingFigure_38 : decode cX7_problemOfDroppingFigure 38 = .ok (.areturn, 1) := by decide +kernel
theorem dX7_problemOfDroppingFigure_39 : decode cX7_problemOfDroppingFigure 39 = .ok (.iinc 2 1, 3) := by decide +kernel
theorem dX7_problemOfDroppingFigure_42 : decode cX7_problemOfDroppingFigure 42 = .ok (.goto (-25), 3) := by decide +kernel
theorem dX7_problemOfDroppingFigure_45 : decode cX7_problemOfDroppingFigure 45 = .ok (.getstatic 80, 3) := by decide +kernel
theorem dX7_problemOfDroppingFigure_48 : decode cX7_problemOfDroppingFigure 48 = .ok (.areturn, 1) := by decide +kernel
theorem dX7_dropFigure_0 : decode cX7_dropFigure 0 = .ok (.iconst 0, 1) := by decide +kernel
theorem dX7_dropFigure_1 : decode cX7_dropFigure 1 = .ok (.istore_n 2, 1) := by decide +kernel
theorem dX7_dropFigure_2 : decode cX7_dropFigure 2 = .ok (.iload_n 2, 1) := by decide +kernel
theorem dX7_dropFigure_3 : decode cX7_dropFigure 3 = .ok (.aload_n 0, 1) := by decide +kernel
theorem dX7_dropFigure_4 : decode cX7_dropFigure 4 = .ok (.getfield 32, 3) := by decide +kernel
theorem dX7_dropFigure_7 : decode cX7_dropFigure 7 = .ok (.if_icmp .ge 29, 3) := by decide +kernel
theorem dX7_dropFigure_10 : decode cX7_dropFigure 10 = .ok (.aload_n 0, 1) := by decide +kernel
theorem dX7_dropFigure_11 : decode cX7_dropFigure 11 = .ok (.getfield 25, 3) := by decide +kernel
theorem dX7_dropFigure_14 : decode cX7_dropFigure 14 = .ok (.iload_n 2, 1) := by decide +kernel
theorem dX7_dropFigure_15 : decode cX7_dropFigure 15 = .ok (.iaload, 1) := by decide +kernel
theorem dX7_dropFigure_16 : decode cX7_dropFigure 16 = .ok (.iload_n 1, 1) := by decide +kernel
theorem dX7_dropFigure_17 : decode cX7_dropFigure 17 = .ok (.if_icmp .le 13, 3) := by decide +kernel
theorem dX7_dropFigure_20 : decode cX7_dropFigure 20 = .ok (.aload_n 0, 1) := by decide +kernel
theorem dX7_dropFigure_21 : decode cX7_dropFigure 21 = .ok (.getfield 25, 3) := by decide +kernel
theorem dX7_dropFigure_24 : decode cX7_dropFigure 24 = .ok (.iload_n 2, 1) := by decide +kernel
theorem dX7_dropFigure_25 : decode cX7_dropFigure 25 = .ok (.dup2, 1) := by decide +kernel
theorem dX7_dropFigure_26 : decode cX7_dropFigure 26 = .ok (.iaload, 1) := by decide +kernel
theorem dX7_dropFigure_27 : decode cX7_dropFigure 27 = .ok (.iconst 1, 1) := by decide +kernel
theorem dX7_dropFigure_28 : decode cX7_dropFigure 28 = .ok (.isub, 1) := by decide +kernel
theorem dX7_dropFigure_29 : decode cX7_dropFigure 29 = .ok (.iastore, 1) := by decide +kernel
theorem dX7_dropFigure_30 : decode cX7_dropFigure 30 = .ok (.iinc 2 1, 3) := by decide +kernel
theorem dX7_dropFigure_33 : decode cX7_dropFigure 33 = .ok (.goto (-31), 3) := by decide +kernel
theorem dX7_dropFigure_36 : decode cX7_dropFigure 36 = .ok (.aload_n 0, 1) := by decide +kernel
theorem dX7_dropFigure_37 : decode cX7_dropFigure 37 = .ok (.getfield 21, 3) := by decide +kernel
theorem dX7_dropFigure_40 : decode cX7_dropFigure 40 = .ok (.iload_n 1, 1) := by decide +kernel
theorem dX7_dropFigure_41 : decode cX7_dropFigure 41 = .ok (.invokevirtual 83, 3) := by decide +kernel
theorem dX7_dropFigure_44 : decode cX7_dropFigure 44 = .ok (.ireturn, 1) := by decide +kernel
theorem dX7_problemOfStep_0 : decode cX7_problemOfStep 0 = .ok (.aload_n 0, 1) := by decide +kernel
theorem dX7_problemOfStep_1 : decode cX7_problemOfStep 1 = .ok (.getfield 21, 3) := by decide +kernel
theorem dX7_problemOfStep_4 : decode cX7_problemOfStep 4 = .ok (.iload_n 1, 1) := by decide +kernel
theorem dX7_problemOfStep_5 : decode cX7_problemOfStep 5 = .ok (.invokevirtual 67, 3) := by decide +kernel
theorem dX7_problemOfStep_8 : decode cX7_problemOfStep 8 = .ok (.ifCond .eq 14, 3) := by decide +kernel
theorem dX7_problemOfStep_11 : decode cX7_problemOfStep 11 = .ok (.aload_n 0, 1) := by decide +kernel
theorem dX7_problemOfStep_12 : decode cX7_problemOfStep 12 = .ok (.getfield 12, 3) := by decide +kernel
theorem dX7_problemOfStep_15 : decode cX7_problemOfStep 15 = .ok (.iload_n 3, 1) := by decide +kernel
theorem dX7_problemOfStep_16 : decode cX7_problemOfStep 16 = .ok (.invokevirtual 85, 3) := by decide +kernel
theorem dX7_problemOfStep_19 : decode cX7_problemOfStep 19 = .ok (.ifCond .ne 7, 3) := by decide +kernel
theorem dX7_problemOfStep_22 : decode cX7_problemOfStep 22 = .ok (.getstatic 71, 3) := by decide +kernel
theorem dX7_problemOfStep_25 : decode cX7_problemOfStep 25 = .ok (.areturn, 1) := by decide +kernel
theorem dX7_problemOfStep_26 : decode cX7_problemOfStep 26 = .ok (.iload_n 2, 1) := by decide +kernel
theorem dX7_problemOfStep_27 : decode cX7_problemOfStep 27 = .ok (.ifCond .lt 21, 3) := by decide +kernel
theorem dX7_problemOfStep_30 : decode cX7_problemOfStep 30 = .ok (.iload_n 2, 1) := by decide +kernel
theorem dX7_problemOfStep_31 : decode cX7_problemOfStep 31 = .ok (.bipush 20, 2) := by decide +kernel
theorem dX7_problemOfStep_33 : decode cX7_problemOfStep 33 = .ok (.if_icmp .gt 15, 3) := by decide +kernel
theorem dX7_problemOfStep_36 : decode cX7_problemOfStep 36 = .ok (.iload 4, 2) := by decide +kernel
theorem dX7_problemOfStep_38 : decode cX7_problemOfStep 38 = .ok (.ifCond .lt 10, 3) := by decide +kernel
theorem dX7_problemOfStep_41 : decode cX7_problemOfStep 41 = .ok (.iload 4, 2) := by decide +kernel
theorem dX7_problemOfStep_43 : decode cX7_problemOfStep 43 = .ok (.bipush 10, 2) := by decide +kernel
theorem dX7_problemOfStep_45 : decode cX7_problemOfStep 45 = .ok (.if_icmp .le 7, 3) := by decide +kernel
theorem dX7_problemOfStep_48 : decode cX7_problemOfStep 48 = .ok (.getstatic 86, 3) := by decide +kernel
theorem dX7_problemOfStep_51 : decode cX7_problemOfStep 51 = .ok (.areturn, 1) := by decide +kernel
theorem dX7_problemOfStep_52 : decode cX7_problemOfStep 52 = .ok (.aload_n 0, 1) := by decide +kernel
theorem dX7_problemOfStep_53 : decode cX7_problemOfStep 53 = .ok (.getfield 21, 3) := by decide +kernel
theorem dX7_problemOfStep_56 : decode cX7_problemOfStep 56 = .ok (.getfield 89, 3) := by decide +kernel
theorem dX7_problemOfStep_59 : decode cX7_problemOfStep 59 = .ok (.iload_n 1, 1) := by decide +kernel
theorem dX7_problemOfStep_60 : decode cX7_problemOfStep 60 = .ok (.iaload, 1) := by decide +kernel
theorem dX7_problemOfStep_61 : decode cX7_problemOfStep 61 = .ok (.bipush 8, 2) := by decide +kernel
theorem dX7_problemOfStep_63 : decode cX7_problemOfStep 63 = .ok (.if_icmp .ge 9, 3) := by decide +kernel
theorem dX7_problemOfStep_66 : decode cX7_problemOfStep 66 = .ok (.getstatic 80, 3) := by decide +kernel
theorem dX7_problemOfStep_69 : decode cX7_problemOfStep 69 = .ok (.goto 6, 3) := by decide +kernel
theorem dX7_problemOfStep_72 : decode cX7_problemOfStep 72 = .ok (.getstatic 77, 3) := by decide +kernel
theorem dX7_problemOfStep_75 : decode cX7_problemOfStep 75 = .ok (.areturn, 1) := by decide +kernel
theorem dX7_problemOfPlaying_0 : decode cX7_problemOfPlaying 0 = .ok (.aload_n 0, 1) := by decide +kernel
theorem dX7_problemOfPlaying_1 : decode cX7_problemOfPlaying 1 = .ok (.getfield 21, 3) := by decide +kernel
theorem dX7_problemOfPlaying_4 : decode cX7_problemOfPlaying 4 = .ok (.iload_n 1, 1) := by decide +kernel
theorem dX7_problemOfPlaying_5 : decode cX7_problemOfPlaying 5 = .ok (.invokevirtual 67, 3) := by decide +kernel
theorem dX7_problemOfPlaying_8 : decode cX7_problemOfPlaying 8 = .ok (.ifCond .ne 7, 3) := by decide +kernel
theorem dX7_problemOfPlaying_11 : decode cX7_problemOfPlaying 11 = .ok (.getstatic 71, 3) := by decide +kernel
theorem dX7_problemOfPlaying_14 : decode cX7_problemOfPlaying 14 = .ok (.areturn, 1) := by decide +kernel
theorem dX7_problemOfPlaying_15 : decode cX7_problemOfPlaying 15 = .ok (.iload_n 2, 1) := by decide +kernel
theorem dX7_problemOfPlaying_16 : decode cX7_problemOfPlaying 16 = .ok (.iconst 1, 1) := by decide +kernel
theorem dX7_problemOfPlaying_17 : decode cX7_problemOfPlaying 17 = .ok (.if_icmp .lt 9, 3) := by decide +kernel
theorem dX7_problemOfPlaying_20 : decode cX7_problemOfPlaying 20 = .ok (.iload_n 2, 1) := by decide +kernel
theorem dX7_problemOfPlaying_21 : decode cX7_problemOfPlaying 21 = .ok (.bipush 30, 2) := by decide +kernel
theorem dX7_problemOfPlaying_23 : decode cX7_problemOfPlaying 23 = .ok (.if_icmp .le 7, 3) := by decide +kernel
theorem dX7_problemOfPlaying_26 : decode cX7_problemOfPlaying 26 = .ok (.getstatic 86, 3) := by decide +kernel
theorem dX7_problemOfPlaying_29 : decode cX7_problemOfPlaying 29 = .ok (.areturn, 1) := by decide +kernel
theorem dX7_problemOfPlaying_30 : decode cX7_problemOfPlaying 30 = .ok (.aload_n 0, 1) := by decide +kernel
theorem dX7_problemOfPlaying_31 : decode cX7_problemOfPlaying 31 = .ok (.getfield 32, 3) := by decide +kernel
theorem dX7_problemOfPlaying_34 : decode cX7_problemOfPlaying 34 = .ok (.bipush 6, 2) := by decide +kernel
theorem dX7_problemOfPlaying_36 : decode cX7_problemOfPlaying 36 = .ok (.if_icmp .ge 9, 3) := by decide +kernel
theorem dX7_problemOfPlaying_39 : decode cX7_problemOfPlaying 39 = .ok (.getstatic 80, 3) := by decide +kernel
theorem dX7_problemOfPlaying_42 : decode cX7_problemOfPlaying 42 = .ok (.goto 6, 3) := by decide +kernel
theorem dX7_problemOfPlaying_45 : decode cX7_problemOfPlaying 45 = .ok (.getstatic 77, 3) := by decide +kernel
theorem dX7_problemOfPlaying_48 : decode cX7_problemOfPlaying 48 = .ok (.areturn, 1) := by decide +kernel
theorem dX7_appendEntry_0 : decode cX7_appendEntry 0 = .ok (.aload_n 0, 1) := by decide +kernel
theorem dX7_appendEntry_1 : decode cX7_appendEntry 1 = .ok (.getfield 36, 3) := by decide +kernel
theorem dX7_appendEntry_4 : decode cX7_appendEntry 4 = .ok (.iload_n 2, 1) := by decide +kernel
theorem dX7_appendEntry_5 : decode cX7_appendEntry 5 = .ok (.iadd, 1) := by decide +kernel
theorem dX7_appendEntry_6 : decode cX7_appendEntry 6 = .ok (.istore_n 3, 1) := by decide +kernel
theorem dX7_appendEntry_7 : decode cX7_appendEntry 7 = .ok (.aload_n 0, 1) := by decide +kernel
theorem dX7_appendEntry_8 : decode cX7_appendEntry 8 = .ok (.getfield 25, 3) := by decide +kernel
theorem dX7_appendEntry_11 : decode cX7_appendEntry 11 = .ok (.aload_n 0, 1) := by decide +kernel
theorem dX7_appendEntry_12 : decode cX7_appendEntry 12 = .ok (.getfield 32, 3) := by decide +kernel
theorem dX7_appendEntry_15 : decode cX7_appendEntry 15 = .ok (.iload_n 1, 1) := by decide +kernel
theorem dX7_appendEntry_16 : decode cX7_appendEntry 16 = .ok (.iastore, 1) := by decide +kernel
theorem dX7_appendEntry_17 : decode cX7_appendEntry 17 = .ok (.aload_n 0, 1) := by decide +kernel
theorem dX7_appendEntry_18 : decode cX7_appendEntry 18 = .ok (.getfield 29, 3) := by decide +kernel
theorem dX7_appendEntry_21 : decode cX7_appendEntry 21 = .ok (.aload_n 0, 1) := by decide +kernel
theorem dX7_appendEntry_22 : decode cX7_appendEntry 22 = .ok (.getfield 32, 3) := by decide +kernel
theorem dX7_appendEntry_25 : decode cX7_appendEntry 25 = .ok (.iload_n 3, 1) := by decide +kernel
theorem dX7_appendEntry_26 : decode cX7_appendEntry 26 = .ok (.iastore, 1) := by decide +kernel
theorem dX7_appendEntry_27 : decode cX7_appendEntry 27 = .ok (.aload_n 0, 1) := by decide +kernel
theorem dX7_appendEntry_28 : decode cX7_appendEntry 28 = .ok (.dup, 1) := by decide +kernel
theorem dX7_appendEntry_29 : decode cX7_appendEntry 29 = .ok (.getfield 32, 3) := by decide +kernel
theorem dX7_appendEntry_32 : decode cX7_appendEntry 32 = .ok (.iconst 1, 1) := by decide +kernel
theorem dX7_appendEntry_33 : decode cX7_appendEntry 33 = .ok (.iadd, 1) := by decide +kernel
theorem dX7_appendEntry_34 : decode cX7_appendEntry 34 = .ok (.putfield 32, 3) := by decide +kernel
theorem dX7_appendEntry_37 : decode cX7_appendEntry 37 = .ok (.iload_n 3, 1) := by decide +kernel
theorem dX7_appendEntry_38 : decode cX7_appendEntry 38 = .ok (.ireturn, 1) := by decide +kernel
theorem dX7_dropEntry_0 : decode cX7_dropEntry 0 = .ok (.aload_n 0, 1) := by decide +kernel
theorem dX7_dropEntry_1 : decode cX7_dropEntry 1 = .ok (.getfield 29, 3) := by decide +kernel
theorem dX7_dropEntry_4 : decode cX7_dropEntry 4 = .ok (.iload_n 1, 1) := by decide +kernel
theorem dX7_dropEntry_5 : decode cX7_dropEntry 5 = .ok (.iaload, 1) := by decide +kernel
theorem dX7_dropEntry_6 : decode cX7_dropEntry 6 = .ok (.istore_n 2, 1) := by decide +kernel
theorem dX7_dropEntry_7 : decode cX7_dropEntry 7 = .ok (.aload_n 0, 1) := by decide +kernel
theorem dX7_dropEntry_8 : decode cX7_dropEntry 8 = .ok (.dup, 1) := by decide +kernel
theorem dX7_dropEntry_9 : decode cX7_dropEntry 9 = .ok (.getfield 32, 3) := by decide +kernel
theorem dX7_dropEntry_12 : decode cX7_dropEntry 12 = .ok (.iconst 1, 1) := by decide +kernel
theorem dX7_dropEntry_13 : decode cX7_dropEntry 13 = .ok (.isub, 1) := by decide +kernel
theorem dX7_dropEntry_14 : decode cX7_dropEntry 14 = .ok (.putfield 32, 3) := by decide +kernel
theorem dX7_dropEntry_17 : decode cX7_dropEntry 17 = .ok (.iload_n 1, 1) := by decide +kernel
theorem dX7_dropEntry_18 : decode cX7_dropEntry 18 = .ok (.istore_n 3, 1) := by decide +kernel
theorem dX7_dropEntry_19 : decode cX7_dropEntry 19 = .ok (.iload_n 3, 1) := by decide +kernel
theorem dX7_dropEntry_20 : decode cX7_dropEntry 20 = .ok (.aload_n 0, 1) := by decide +kernel
theorem dX7_dropEntry_21 : decode cX7_dropEntry 21 = .ok (.getfield 32, 3) := by decide +kernel
theorem dX7_dropEntry_24 : decode cX7_dropEntry 24 = .ok (.if_icmp .ge 17, 3) := by decide +kernel
theorem dX7_dropEntry_27 : decode cX7_dropEntry 27 = .ok (.aload_n 0, 1) := by decide +kernel
theorem dX7_dropEntry_28 : decode cX7_dropEntry 28 = .ok (.iload_n 3, 1) := by decide +kernel
theorem dX7_dropEntry_29 : decode cX7_dropEntry 29 = .ok (.iconst 1, 1) := by decide +kernel
theorem dX7_dropEntry_30 : decode cX7_dropEntry 30 = .ok (.iadd, 1) := by decide +kernel
theorem dX7_dropEntry_31 : decode cX7_dropEntry 31 = .ok (.iload_n 3, 1) := by decide +kernel
theorem dX7_dropEntry_32 : decode cX7_dropEntry 32 = .ok (.invokevirtual 92, 3) := by decide +kernel
theorem dX7_dropEntry_35 : decode cX7_dropEntry 35 = .ok (.iinc 3 1, 3) := by decide +kernel
theorem dX7_dropEntry_38 : decode cX7_dropEntry 38 = .ok (.goto (-19), 3) := by decide +kernel
theorem dX7_dropEntry_41 : decode cX7_dropEntry 41 = .ok (.iload_n 2, 1) := by decide +kernel
theorem dX7_dropEntry_42 : decode cX7_dropEntry 42 = .ok (.ireturn, 1) := by decide +kernel
theorem dX7_moveEntry_0 : decode cX7_moveEntry 0 = .ok (.aload_n 0, 1) := by decide +kernel
theorem dX7_moveEntry_1 : decode cX7_moveEntry 1 = .ok (.getfield 25, 3) := by decide +kernel
theorem dX7_moveEntry_4 : decode cX7_moveEntry 4 = .ok (.iload_n 2, 1) := by decide +kernel
theorem dX7_moveEntry_5 : decode cX7_moveEntry 5 = .ok (.aload_n 0, 1) := by decide +kernel
theorem dX7_moveEntry_6 : decode cX7_moveEntry 6 = .ok (.getfield 25, 3) := by decide +kernel
theorem dX7_moveEntry_9 : decode cX7_moveEntry 9 = .ok (.iload_n 1, 1) := by decide +kernel
theorem dX7_moveEntry_10 : decode cX7_moveEntry 10 = .ok (.iaload, 1) := by decide +kernel
theorem dX7_moveEntry_11 : decode cX7_moveEntry 11 = .ok (.iastore, 1) := by decide +kernel
theorem dX7_moveEntry_12 : decode cX7_moveEntry 12 = .ok (.aload_n 0, 1) := by decide +kernel
theorem dX7_moveEntry_13 : decode cX7_moveEntry 13 = .ok (.getfield 29, 3) := by decide +kernel
theorem dX7_moveEntry_16 : decode cX7_moveEntry 16 = .ok (.iload_n 2, 1) := by decide +kernel
theorem dX7_moveEntry_17 : decode cX7_moveEntry 17 = .ok (.aload_n 0, 1) := by decide +kernel
theorem dX7_moveEntry_18 : decode cX7_moveEntry 18 = .ok (.getfield 29, 3) := by decide +kernel
theorem dX7_moveEntry_21 : decode cX7_moveEntry 21 = .ok (.iload_n 1, 1) := by decide +kernel
theorem dX7_moveEntry_22 : decode cX7_moveEntry 22 = .ok (.iaload, 1) := by decide +kernel
theorem dX7_moveEntry_23 : decode cX7_moveEntry 23 = .ok (.iastore, 1) := by decide +kernel
theorem dX7_moveEntry_24 : decode cX7_moveEntry 24 = .ok (.return_, 1) := by decide +kernel
theorem dX7_problemOfPassing_0 : decode cX7_problemOfPassing 0 = .ok (.iload_n 1, 1) := by decide +kernel
theorem dX7_problemOfPassing_1 : decode cX7_problemOfPassing 1 = .ok (.iconst 1, 1) := by decide +kernel
theorem dX7_problemOfPassing_2 : decode cX7_problemOfPassing 2 = .ok (.if_icmp .lt 9, 3) := by decide +kernel
theorem dX7_problemOfPassing_5 : decode cX7_problemOfPassing 5 = .ok (.iload_n 1, 1) := by decide +kernel
theorem dX7_problemOfPassing_6 : decode cX7_problemOfPassing 6 = .ok (.bipush 40, 2) := by decide +kernel
theorem dX7_problemOfPassing_8 : decode cX7_problemOfPassing 8 = .ok (.if_icmp .le 9, 3) := by decide +kernel
theorem dX7_problemOfPassing_11 : decode cX7_problemOfPassing 11 = .ok (.getstatic 86, 3) := by decide +kernel
theorem dX7_problemOfPassing_14 : decode cX7_problemOfPassing 14 = .ok (.goto 6, 3) := by decide +kernel
theorem dX7_problemOfPassing_17 : decode cX7_problemOfPassing 17 = .ok (.getstatic 80, 3) := by decide +kernel
theorem dX7_problemOfPassing_20 : decode cX7_problemOfPassing 20 = .ok (.areturn, 1) := by decide +kernel
theorem dX7_passBeats_0 : decode cX7_passBeats 0 = .ok (.iconst 0, 1) := by decide +kernel
theorem dX7_passBeats_1 : decode cX7_passBeats 1 = .ok (.istore_n 2, 1) := by decide +kernel
theorem dX7_passBeats_2 : decode cX7_passBeats 2 = .ok (.iconst 0, 1) := by decide +kernel
theorem dX7_passBeats_3 : decode cX7_passBeats 3 = .ok (.istore_n 3, 1) := by decide +kernel
theorem dX7_passBeats_4 : decode cX7_passBeats 4 = .ok (.iload_n 3, 1) := by decide +kernel
theorem dX7_passBeats_5 : decode cX7_passBeats 5 = .ok (.iload_n 1, 1) := by decide +kernel
theorem dX7_passBeats_6 : decode cX7_passBeats 6 = .ok (.if_icmp .ge 16, 3) := by decide +kernel
theorem dX7_passBeats_9 : decode cX7_passBeats 9 = .ok (.iload_n 2, 1) := by decide +kernel
theorem dX7_passBeats_10 : decode cX7_passBeats 10 = .ok (.aload_n 0, 1) := by decide +kernel
theorem dX7_passBeats_11 : decode cX7_passBeats 11 = .ok (.invokevirtual 96, 3) := by decide +kernel
theorem dX7_passBeats_14 : decode cX7_passBeats 14 = .ok (.iadd, 1) := by decide +kernel
theorem dX7_passBeats_15 : decode cX7_passBeats 15 = .ok (.istore_n 2, 1) := by decide +kernel
theorem dX7_passBeats_16 : decode cX7_passBeats 16 = .ok (.iinc 3 1, 3) := by decide +kernel
theorem dX7_passBeats_19 : decode cX7_passBeats 19 = .ok (.goto (-15), 3) := by decide +kernel
theorem dX7_passBeats_22 : decode cX7_passBeats 22 = .ok (.iload_n 2, 1) := by decide +kernel
theorem dX7_passBeats_23 : decode cX7_passBeats 23 = .ok (.ireturn, 1) := by decide +kernel
theorem dX7_passOneBeat_0 : decode cX7_passOneBeat 0 = .ok (.aload_n 0, 1) := by decide +kernel
theorem dX7_passOneBeat_1 : decode cX7_passOneBeat 1 = .ok (.dup, 1) := by decide +kernel
theorem dX7_passOneBeat_2 : decode cX7_passOneBeat 2 = .ok (.getfield 36, 3) := by decide +kernel
theorem dX7_passOneBeat_5 : decode cX7_passOneBeat 5 = .ok (.iconst 1, 1) := by decide +kernel
theorem dX7_passOneBeat_6 : decode cX7_passOneBeat 6 = .ok (.iadd, 1) := by decide +kernel
theorem dX7_passOneBeat_7 : decode cX7_passOneBeat 7 = .ok (.putfield 36, 3) := by decide +kernel
theorem dX7_passOneBeat_10 : decode cX7_passOneBeat 10 = .ok (.iconst 0, 1) := by decide +kernel
theorem dX7_passOneBeat_11 : decode cX7_passOneBeat 11 = .ok (.istore_n 1, 1) := by decide +kernel
theorem dX7_passOneBeat_12 : decode cX7_passOneBeat 12 = .ok (.iload_n 1, 1) := by decide +kernel
theorem dX7_passOneBeat_13 : decode cX7_passOneBeat 13 = .ok (.aload_n 0, 1) := by decide +kernel
theorem dX7_passOneBeat_14 : decode cX7_passOneBeat 14 = .ok (.getfield 32, 3) := by decide +kernel
theorem dX7_passOneBeat_17 : decode cX7_passOneBeat 17 = .ok (.if_icmp .ge 14, 3) := by decide +kernel
theorem dX7_passOneBeat_20 : decode cX7_passOneBeat 20 = .ok (.aload_n 0, 1) := by decide +kernel
theorem dX7_passOneBeat_21 : decode cX7_passOneBeat 21 = .ok (.iload_n 1, 1) := by decide +kernel
theorem dX7_passOneBeat_22 : decode cX7_passOneBeat 22 = .ok (.invokevirtual 100, 3) := by decide +kernel
theorem dX7_passOneBeat_25 : decode cX7_passOneBeat 25 = .ok (.iinc 1 1, 3) := by decide +kernel
theorem dX7_passOneBeat_28 : decode cX7_passOneBeat 28 = .ok (.goto (-16), 3) := by decide +kernel
theorem dX7_passOneBeat_31 : decode cX7_passOneBeat 31 = .ok (.aload_n 0, 1) := by decide +kernel
theorem dX7_passOneBeat_32 : decode cX7_passOneBeat 32 = .ok (.invokevirtual 103, 3) := by decide +kernel
theorem dX7_passOneBeat_35 : decode cX7_passOneBeat 35 = .ok (.istore_n 1, 1) := by decide +kernel
theorem dX7_passOneBeat_36 : decode cX7_passOneBeat 36 = .ok (.aload_n 0, 1) := by decide +kernel
theorem dX7_passOneBeat_37 : decode cX7_passOneBeat 37 = .ok (.getfield 12, 3) := by decide +kernel
theorem dX7_passOneBeat_40 : decode cX7_passOneBeat 40 = .ok (.invokevirtual 106, 3) := by decide +kernel
theorem dX7_passOneBeat_43 : decode cX7_passOneBeat 43 = .ok (.istore_n 2, 1) := by decide +kernel
theorem dX7_passOneBeat_44 : decode cX7_passOneBeat 44 = .ok (.aload_n 0, 1) := by decide +kernel
theorem dX7_passOneBeat_45 : decode cX7_passOneBeat 45 = .ok (.getfield 12, 3) := by decide +kernel
theorem dX7_passOneBeat_48 : decode cX7_passOneBeat 48 = .ok (.iload_n 2, 1) := by decide +kernel
theorem dX7_passOneBeat_49 : decode cX7_passOneBeat 49 = .ok (.invokevirtual 109, 3) := by decide +kernel
theorem dX7_passOneBeat_52 : decode cX7_passOneBeat 52 = .ok (.istore_n 3, 1) := by decide +kernel
theorem dX7_passOneBeat_53 : decode cX7_passOneBeat 53 = .ok (.aload_n 0, 1) := by decide +kernel
theorem dX7_passOneBeat_54 : decode cX7_passOneBeat 54 = .ok (.dup, 1) := by decide +kernel
theorem dX7_passOneBeat_55 : decode cX7_passOneBeat 55 = .ok (.getfield 39, 3) := by decide +kernel
theorem dX7_passOneBeat_58 : decode cX7_passOneBeat 58 = .ok (.iload_n 3, 1) := by decide +kernel
theorem dX7_passOneBeat_59 : decode cX7_passOneBeat 59 = .ok (.i2l, 1) := by decide +kernel
theorem dX7_passOneBeat_60 : decode cX7_passOneBeat 60 = .ok (.ladd, 1) := by decide +kernel
theorem dX7_passOneBeat_61 : decode cX7_passOneBeat 61 = .ok (.putfield 39, 3) := by decide +kernel
theorem dX7_passOneBeat_64 : decode cX7_passOneBeat 64 = .ok (.aload_n 0, 1) := by decide +kernel
theorem dX7_passOneBeat_65 : decode cX7_passOneBeat 65 = .ok (.dup, 1) := by decide +kernel
theorem dX7_passOneBeat_66 : decode cX7_passOneBeat 66 = .ok (.getfield 43, 3) := by decide +kernel
theorem dX7_passOneBeat_69 : decode cX7_passOneBeat 69 = .ok (.iload_n 2, 1) := by decide +kernel
theorem dX7_passOneBeat_70 : decode cX7_passOneBeat 70 = .ok (.iload_n 3, 1) := by decide +kernel
theorem dX7_passOneBeat_71 : decode cX7_passOneBeat 71 = .ok (.isub, 1) := by decide +kernel
theorem dX7_passOneBeat_72 : decode cX7_passOneBeat 72 = .ok (.i2l, 1) := by decide +kernel
theorem dX7_passOneBeat_73 : decode cX7_passOneBeat 73 = .ok (.ladd, 1) := by decide +kernel
theorem dX7_passOneBeat_74 : decode cX7_passOneBeat 74 = .ok (.putfield 43, 3) := by decide +kernel
theorem dX7_passOneBeat_77 : decode cX7_passOneBeat 77 = .ok (.iload_n 1, 1) := by decide +kernel
theorem dX7_passOneBeat_78 : decode cX7_passOneBeat 78 = .ok (.ireturn, 1) := by decide +kernel
theorem dX7_happenDueSteps_0 : decode cX7_happenDueSteps 0 = .ok (.aload_n 0, 1) := by decide +kernel
theorem dX7_happenDueSteps_1 : decode cX7_happenDueSteps 1 = .ok (.getfield 25, 3) := by decide +kernel
theorem dX7_happenDueSteps_4 : decode cX7_happenDueSteps 4 = .ok (.iload_n 1, 1) := by decide +kernel
theorem dX7_happenDueSteps_5 : decode cX7_happenDueSteps 5 = .ok (.iaload, 1) := by decide +kernel
theorem dX7_happenDueSteps_6 : decode cX7_happenDueSteps 6 = .ok (.istore_n 2, 1) := by decide +kernel
theorem dX7_happenDueSteps_7 : decode cX7_happenDueSteps 7 = .ok (.iconst 0, 1) := by decide +kernel
theorem dX7_happenDueSteps_8 : decode cX7_happenDueSteps 8 = .ok (.istore_n 3, 1) := by decide +kernel
theorem dX7_happenDueSteps_9 : decode cX7_happenDueSteps 9 = .ok (.iload_n 3, 1) := by decide +kernel
theorem dX7_happenDueSteps_10 : decode cX7_happenDueSteps 10 = .ok (.aload_n 0, 1) := by decide +kernel
theorem dX7_happenDueSteps_11 : decode cX7_happenDueSteps 11 = .ok (.getfield 21, 3) := by decide +kernel
theorem dX7_happenDueSteps_14 : decode cX7_happenDueSteps 14 = .ok (.getfield 89, 3) := by decide +kernel
theorem dX7_happenDueSteps_17 : decode cX7_happenDueSteps 17 = .ok (.iload_n 2, 1) := by decide +kernel
theorem dX7_happenDueSteps_18 : decode cX7_happenDueSteps 18 = .ok (.iaload, 1) := by decide +kernel
theorem dX7_happenDueSteps_19 : decode cX7_happenDueSteps 19 = .ok (.if_icmp .ge 68, 3) := by decide +kernel
theorem dX7_happenDueSteps_22 : decode cX7_happenDueSteps 22 = .ok (.iload_n 2, 1) := by decide +kernel
theorem dX7_happenDueSteps_23 : decode cX7_happenDueSteps 23 = .ok (.iload_n 3, 1) := by decide +kernel
theorem dX7_happenDueSteps_24 : decode cX7_happenDueSteps 24 = .ok (.invokestatic 112, 3) := by decide +kernel
theorem dX7_happenDueSteps_27 : decode cX7_happenDueSteps 27 = .ok (.istore 4, 2) := by decide +kernel
theorem dX7_happenDueSteps_29 : decode cX7_happenDueSteps 29 = .ok (.aload_n 0, 1) := by decide +kernel
theorem dX7_happenDueSteps_30 : decode cX7_happenDueSteps 30 = .ok (.getfield 29, 3) := by decide +kernel
theorem dX7_happenDueSteps_33 : decode cX7_happenDueSteps 33 = .ok (.iload_n 1, 1) := by decide +kernel
theorem dX7_happenDueSteps_34 : decode cX7_happenDueSteps 34 = .ok (.iaload, 1) := by decide +kernel
theorem dX7_happenDueSteps_35 : decode cX7_happenDueSteps 35 = .ok (.aload_n 0, 1) := by decide +kernel
theorem dX7_happenDueSteps_36 : decode cX7_happenDueSteps 36 = .ok (.getfield 21, 3) := by decide +kernel
theorem dX7_happenDueSteps_39 : decode cX7_happenDueSteps 39 = .ok (.getfield 116, 3) := by decide +kernel
theorem dX7_happenDueSteps_42 : decode cX7_happenDueSteps 42 = .ok (.iload 4, 2) := by decide +kernel
theorem dX7_happenDueSteps_44 : decode cX7_happenDueSteps 44 = .ok (.iaload, 1) := by decide +kernel
theorem dX7_happenDueSteps_45 : decode cX7_happenDueSteps 45 = .ok (.iadd, 1) := by decide +kernel
theorem dX7_happenDueSteps_46 : decode cX7_happenDueSteps 46 = .ok (.aload_n 0, 1) := by decide +kernel
theorem dX7_happenDueSteps_47 : decode cX7_happenDueSteps 47 = .ok (.getfield 36, 3) := by decide +kernel
theorem dX7_happenDueSteps_50 : decode cX7_happenDueSteps 50 = .ok (.if_icmp .ne 31, 3) := by decide +kernel
theorem dX7_happenDueSteps_53 : decode cX7_happenDueSteps 53 = .ok (.aload_n 0, 1) := by decide +kernel
theorem dX7_happenDueSteps_54 : decode cX7_happenDueSteps 54 = .ok (.getfield 12, 3) := by decide +kernel
theorem dX7_happenDueSteps_57 : decode cX7_happenDueSteps 57 = .ok (.getfield 119, 3) := by decide +kernel
theorem dX7_happenDueSteps_60 : decode cX7_happenDueSteps 60 = .ok (.aload_n 0, 1) := by decide +kernel
theorem dX7_happenDueSteps_61 : decode cX7_happenDueSteps 61 = .ok (.getfield 21, 3) := by decide +kernel
theorem dX7_happenDueSteps_64 : decode cX7_happenDueSteps 64 = .ok (.getfield 122, 3) := by decide +kernel
theorem dX7_happenDueSteps_67 : decode cX7_happenDueSteps 67 = .ok (.iload 4, 2) := by decide +kernel
theorem dX7_happenDueSteps_69 : decode cX7_happenDueSteps 69 = .ok (.iaload, 1) := by decide +kernel
theorem dX7_happenDueSteps_70 : decode cX7_happenDueSteps 70 = .ok (.aload_n 0, 1) := by decide +kernel
theorem dX7_happenDueSteps_71 : decode cX7_happenDueSteps 71 = .ok (.getfield 21, 3) := by decide +kernel
theorem dX7_happenDueSteps_74 : decode cX7_happenDueSteps 74 = .ok (.getfield 124, 3) := by decide +kernel
theorem dX7_happenDueSteps_77 : decode cX7_happenDueSteps 77 = .ok (.iload 4, 2) := by decide +kernel
theorem dX7_happenDueSteps_79 : decode cX7_happenDueSteps 79 = .ok (.iaload, 1) := by decide +kernel
theorem dX7_happenDueSteps_80 : decode cX7_happenDueSteps 80 = .ok (.iastore, 1) := by decide +kernel
theorem dX7_happenDueSteps_81 : decode cX7_happenDueSteps 81 = .ok (.iinc 3 1, 3) := by decide +kernel
theorem dX7_happenDueSteps_84 : decode cX7_happenDueSteps 84 = .ok (.goto (-75), 3) := by decide +kernel
theorem dX7_happenDueSteps_87 : decode cX7_happenDueSteps 87 = .ok (.return_, 1) := by decide +kernel
theorem dX7_dropFinishedEntries_0 : decode cX7_dropFinishedEntries 0 = .ok (.aload_n 0, 1) := by decide +kernel
theorem dX7_dropFinishedEntries_1 : decode cX7_dropFinishedEntries 1 = .ok (.getfield 32, 3) := by decide +kernel
theorem dX7_dropFinishedEntries_4 : decode cX7_dropFinishedEntries 4 = .ok (.istore_n 1, 1) := by decide +kernel
theorem dX7_dropFinishedEntries_5 : decode cX7_dropFinishedEntries 5 = .ok (.iconst 0, 1) := by decide +kernel
theorem dX7_dropFinishedEntries_6 : decode cX7_dropFinishedEntries 6 = .ok (.istore_n 2, 1) := by decide +kernel
theorem dX7_dropFinishedEntries_7 : decode cX7_dropFinishedEntries 7 = .ok (.iconst 0, 1) := by decide +kernel
theorem dX7_dropFinishedEntries_8 : decode cX7_dropFinishedEntries 8 = .ok (.istore_n 3, 1) := by decide +kernel
theorem dX7_dropFinishedEntries_9 : decode cX7_dropFinishedEntries 9 = .ok (.iload_n 3, 1) := by decide +kernel
theorem dX7_dropFinishedEntries_10 : decode cX7_dropFinishedEntries 10 = .ok (.iload_n 1, 1) := by decide +kernel
theorem dX7_dropFinishedEntries_11 : decode cX7_dropFinishedEntries 11 = .ok (.if_icmp .ge 45, 3) := by decide +kernel
theorem dX7_dropFinishedEntries_14 : decode cX7_dropFinishedEntries 14 = .ok (.aload_n 0, 1) := by decide +kernel
theorem dX7_dropFinishedEntries_15 : decode cX7_dropFinishedEntries 15 = .ok (.getfield 29, 3) := by decide +kernel
theorem dX7_dropFinishedEntries_18 : decode cX7_dropFinishedEntries 18 = .ok (.iload_n 3, 1) := by decide +kernel
theorem dX7_dropFinishedEntries_19 : decode cX7_dropFinishedEntries 19 = .ok (.iaload, 1) := by decide +kernel
theorem dX7_dropFinishedEntries_20 : decode cX7_dropFinishedEntries 20 = .ok (.aload_n 0, 1) := by decide +kernel
theorem dX7_dropFinishedEntries_21 : decode cX7_dropFinishedEntries 21 = .ok (.getfield 21, 3) := by decide +kernel
theorem dX7_dropFinishedEntries_24 : decode cX7_dropFinishedEntries 24 = .ok (.aload_n 0, 1) := by decide +kernel
theorem dX7_dropFinishedEntries_25 : decode cX7_dropFinishedEntries 25 = .ok (.getfield 25, 3) := by decide +kernel
theorem dX7_dropFinishedEntries_28 : decode cX7_dropFinishedEntries 28 = .ok (.iload_n 3, 1) := by decide +kernel
theorem dX7_dropFinishedEntries_29 : decode cX7_dropFinishedEntries 29 = .ok (.iaload, 1) := by decide +kernel
theorem dX7_dropFinishedEntries_30 : decode cX7_dropFinishedEntries 30 = .ok (.invokevirtual 125, 3) := by decide +kernel
theorem dX7_dropFinishedEntries_33 : decode cX7_dropFinishedEntries 33 = .ok (.iadd, 1) := by decide +kernel
theorem dX7_dropFinishedEntries_34 : decode cX7_dropFinishedEntries 34 = .ok (.aload_n 0, 1) := by decide +kernel
theorem dX7_dropFinishedEntries_35 : decode cX7_dropFinishedEntries 35 = .ok (.getfield 36, 3) := by decide +kernel
theorem dX7_dropFinishedEntries_38 : decode cX7_dropFinishedEntries 38 = .ok (.if_icmp .le 12, 3) := by decide +kernel
theorem dX7_dropFinishedEntries_41 : decode cX7_dropFinishedEntries 41 = .ok (.aload_n 0, 1) := by decide +kernel
theorem dX7_dropFinishedEntries_42 : decode cX7_dropFinishedEntries 42 = .ok (.iload_n 3, 1) := by decide +kernel
theorem dX7_dropFinishedEntries_43 : decode cX7_dropFinishedEntries 43 = .ok (.iload_n 2, 1) := by decide +kernel
theorem dX7_dropFinishedEntries_44 : decode cX7_dropFinishedEntries 44 = .ok (.invokevirtual 92, 3) := by decide +kernel
theorem dX7_dropFinishedEntries_47 : decode cX7_dropFinishedEntries 47 = .ok (.iinc 2 1, 3) := by decide +kernel
theorem dX7_dropFinishedEntries_50 : decode cX7_dropFinishedEntries 50 = .ok (.iinc 3 1, 3) := by decide +kernel
theorem dX7_dropFinishedEntries_53 : decode cX7_dropFinishedEntries 53 = .ok (.goto (-44), 3) := by decide +kernel
theorem dX7_dropFinishedEntries_56 : decode cX7_dropFinishedEntries 56 = .ok (.aload_n 0, 1) := by decide +kernel
theorem dX7_dropFinishedEntries_57 : decode cX7_dropFinishedEntries 57 = .ok (.iload_n 2, 1) := by decide +kernel
theorem dX7_dropFinishedEntries_58 : decode cX7_dropFinishedEntries 58 = .ok (.putfield 32, 3) := by decide +kernel
theorem dX7_dropFinishedEntries_61 : decode cX7_dropFinishedEntries 61 = .ok (.iload_n 1, 1) := by decide +kernel
theorem dX7_dropFinishedEntries_62 : decode cX7_dropFinishedEntries 62 = .ok (.iload_n 2, 1) := by decide +kernel
theorem dX7_dropFinishedEntries_63 : decode cX7_dropFinishedEntries 63 = .ok (.isub, 1) := by decide +kernel
theorem dX7_dropFinishedEntries_64 : decode cX7_dropFinishedEntries 64 = .ok (.ireturn, 1) := by decide +kernel
theorem dX7_beatsToEmptyQueue_0 : decode cX7_beatsToEmptyQueue 0 = .ok (.aload_n 0, 1) := by decide +kernel
theorem dX7_beatsToEmptyQueue_1 : decode cX7_beatsToEmptyQueue 1 = .ok (.getfield 32, 3) := by decide +kernel
theorem dX7_beatsToEmptyQueue_4 : decode cX7_beatsToEmptyQueue 4 = .ok (.ifCond .ne 5, 3) := by decide +kernel
theorem dX7_beatsToEmptyQueue_7 : decode cX7_beatsToEmptyQueue 7 = .ok (.iconst 0, 1) := by decide +kernel
theorem dX7_beatsToEmptyQueue_8 : decode cX7_beatsToEmptyQueue 8 = .ok (.ireturn, 1) := by decide +kernel
theorem dX7_beatsToEmptyQueue_9 : decode cX7_beatsToEmptyQueue 9 = .ok (.iconst 1, 1) := by decide +kernel
theorem dX7_beatsToEmptyQueue_10 : decode cX7_beatsToEmptyQueue 10 = .ok (.istore_n 1, 1) := by decide +kernel
theorem dX7_beatsToEmptyQueue_11 : decode cX7_beatsToEmptyQueue 11 = .ok (.iconst 0, 1) := by decide +kernel
theorem dX7_beatsToEmptyQueue_12 : decode cX7_beatsToEmptyQueue 12 = .ok (.istore_n 2, 1) := by decide +kernel
theorem dX7_beatsToEmptyQueue_13 : decode cX7_beatsToEmptyQueue 13 = .ok (.iload_n 2, 1) := by decide +kernel
theorem dX7_beatsToEmptyQueue_14 : decode cX7_beatsToEmptyQueue 14 = .ok (.aload_n 0, 1) := by decide +kernel
theorem dX7_beatsToEmptyQueue_15 : decode cX7_beatsToEmptyQueue 15 = .ok (.getfield 32, 3) := by decide +kernel
theorem dX7_beatsToEmptyQueue_18 : decode cX7_beatsToEmptyQueue 18 = .ok (.if_icmp .ge 41, 3) := by decide +kernel
theorem dX7_beatsToEmptyQueue_21 : decode cX7_beatsToEmptyQueue 21 = .ok (.aload_n 0, 1) := by decide +kernel
theorem dX7_beatsToEmptyQueue_22 : decode cX7_beatsToEmptyQueue 22 = .ok (.getfield 29, 3) := by decide +kernel
theorem dX7_beatsToEmptyQueue_25 : decode cX7_beatsToEmptyQueue 25 = .ok (.iload_n 2, 1) := by decide +kernel
theorem dX7_beatsToEmptyQueue_26 : decode cX7_beatsToEmptyQueue 26 = .ok (.iaload, 1) := by decide +kernel
theorem dX7_beatsToEmptyQueue_27 : decode cX7_beatsToEmptyQueue 27 = .ok (.aload_n 0, 1) := by decide +kernel
theorem dX7_beatsToEmptyQueue_28 : decode cX7_beatsToEmptyQueue 28 = .ok (.getfield 21, 3) := by decide +kernel
theorem dX7_beatsToEmptyQueue_31 : decode cX7_beatsToEmptyQueue 31 = .ok (.aload_n 0, 1) := by decide +kernel
theorem dX7_beatsToEmptyQueue_32 : decode cX7_beatsToEmptyQueue 32 = .ok (.getfield 25, 3) := by decide +kernel
theorem dX7_beatsToEmptyQueue_35 : decode cX7_beatsToEmptyQueue 35 = .ok (.iload_n 2, 1) := by decide +kernel
theorem dX7_beatsToEmptyQueue_36 : decode cX7_beatsToEmptyQueue 36 = .ok (.iaload, 1) := by decide +kernel
theorem dX7_beatsToEmptyQueue_37 : decode cX7_beatsToEmptyQueue 37 = .ok (.invokevirtual 125, 3) := by decide +kernel
theorem dX7_beatsToEmptyQueue_40 : decode cX7_beatsToEmptyQueue 40 = .ok (.iadd, 1) := by decide +kernel
theorem dX7_beatsToEmptyQueue_41 : decode cX7_beatsToEmptyQueue 41 = .ok (.istore_n 3, 1) := by decide +kernel
theorem dX7_beatsToEmptyQueue_42 : decode cX7_beatsToEmptyQueue 42 = .ok (.iload_n 1, 1) := by decide +kernel
theorem dX7_beatsToEmptyQueue_43 : decode cX7_beatsToEmptyQueue 43 = .ok (.iload_n 3, 1) := by decide +kernel
theorem dX7_beatsToEmptyQueue_44 : decode cX7_beatsToEmptyQueue 44 = .ok (.aload_n 0, 1) := by decide +kernel
theorem dX7_beatsToEmptyQueue_45 : decode cX7_beatsToEmptyQueue 45 = .ok (.getfield 36, 3) := by decide +kernel
theorem dX7_beatsToEmptyQueue_48 : decode cX7_beatsToEmptyQueue 48 = .ok (.isub, 1) := by decide +kernel
theorem dX7_beatsToEmptyQueue_49 : decode cX7_beatsToEmptyQueue 49 = .ok (.invokestatic 128, 3) := by decide +kernel
theorem dX7_beatsToEmptyQueue_52 : decode cX7_beatsToEmptyQueue 52 = .ok (.istore_n 1, 1) := by decide +kernel
theorem dX7_beatsToEmptyQueue_53 : decode cX7_beatsToEmptyQueue 53 = .ok (.iinc 2 1, 3) := by decide +kernel
theorem dX7_beatsToEmptyQueue_56 : decode cX7_beatsToEmptyQueue 56 = .ok (.goto (-43), 3) := by decide +kernel
theorem dX7_beatsToEmptyQueue_59 : decode cX7_beatsToEmptyQueue 59 = .ok (.iload_n 1, 1) := by decide +kernel
theorem dX7_beatsToEmptyQueue_60 : decode cX7_beatsToEmptyQueue 60 = .ok (.ireturn, 1) := by decide +kernel
theorem dX7_demandFromLastSteps_0 : decode cX7_demandFromLastSteps 0 = .ok (.iconst 0, 1) := by decide +kernel
theorem dX7_demandFromLastSteps_1 : decode cX7_demandFromLastSteps 1 = .ok (.istore_n 2, 1) := by decide +kernel
theorem dX7_demandFromLastSteps_2 : decode cX7_demandFromLastSteps 2 = .ok (.iconst 0, 1) := by decide +kernel
theorem dX7_demandFromLastSteps_3 : decode cX7_demandFromLastSteps 3 = .ok (.istore_n 3, 1) := by decide +kernel
theorem dX7_demandFromLastSteps_4 : decode cX7_demandFromLastSteps 4 = .ok (.iload_n 3, 1) := by decide +kernel
theorem dX7_demandFromLastSteps_5 : decode cX7_demandFromLastSteps 5 = .ok (.aload_n 0, 1) := by decide +kernel
theorem dX7_demandFromLastSteps_6 : decode cX7_demandFromLastSteps 6 = .ok (.getfield 12, 3) := by decide +kernel
theorem dX7_demandFromLastSteps_9 : decode cX7_demandFromLastSteps 9 = .ok (.getfield 133, 3) := by decide +kernel
theorem dX7_demandFromLastSteps_12 : decode cX7_demandFromLastSteps 12 = .ok (.if_icmp .ge 23, 3) := by decide +kernel
theorem dX7_demandFromLastSteps_15 : decode cX7_demandFromLastSteps 15 = .ok (.iload_n 2, 1) := by decide +kernel
theorem dX7_demandFromLastSteps_16 : decode cX7_demandFromLastSteps 16 = .ok (.aload_n 0, 1) := by decide +kernel
theorem dX7_demandFromLastSteps_17 : decode cX7_demandFromLastSteps 17 = .ok (.iload_n 3, 1) := by decide +kernel
theorem dX7_demandFromLastSteps_18 : decode cX7_demandFromLastSteps 18 = .ok (.aload_n 0, 1) := by decide +kernel
theorem dX7_demandFromLastSteps_19 : decode cX7_demandFromLastSteps 19 = .ok (.getfield 36, 3) := by decide +kernel
theorem dX7_demandFromLastSteps_22 : decode cX7_demandFromLastSteps 22 = .ok (.iload_n 1, 1) := by decide +kernel
theorem dX7_demandFromLastSteps_23 : decode cX7_demandFromLastSteps 23 = .ok (.iadd, 1) := by decide +kernel
theorem dX7_demandFromLastSteps_24 : decode cX7_demandFromLastSteps 24 = .ok (.invokevirtual 136, 3) := by decide +kernel
theorem dX7_demandFromLastSteps_27 : decode cX7_demandFromLastSteps 27 = .ok (.iadd, 1) := by decide +kernel
theorem dX7_demandFromLastSteps_28 : decode cX7_demandFromLastSteps 28 = .ok (.istore_n 2, 1) := by decide +kernel
theorem dX7_demandFromLastSteps_29 : decode cX7_demandFromLastSteps 29 = .ok (.iinc 3 1, 3) := by decide +kernel
theorem dX7_demandFromLastSteps_32 : decode cX7_demandFromLastSteps 32 = .ok (.goto (-28), 3) := by decide +kernel
theorem dX7_demandFromLastSteps_35 : decode cX7_demandFromLastSteps 35 = .ok (.iload_n 2, 1) := by decide +kernel
theorem dX7_demandFromLastSteps_36 : decode cX7_demandFromLastSteps 36 = .ok (.ireturn, 1) := by decide +kernel
theorem dX7_openingFromLastStep_0 : decode cX7_openingFromLastStep 0 = .ok (.aload_n 0, 1) := by decide +kernel
theorem dX7_openingFromLastStep_1 : decode cX7_openingFromLastStep 1 = .ok (.getfield 36, 3) := by decide +kernel
theorem dX7_openingFromLastStep_4 : decode cX7_openingFromLastStep 4 = .ok (.iconst 1, 1) := by decide +kernel
theorem dX7_openingFromLastStep_5 : decode cX7_openingFromLastStep 5 = .ok (.iadd, 1) := by decide +kernel
theorem dX7_openingFromLastStep_6 : decode cX7_openingFromLastStep 6 = .ok (.istore_n 3, 1) := by decide +kernel
theorem dX7_openingFromLastStep_7 : decode cX7_openingFromLastStep 7 = .ok (.aload_n 0, 1) := by decide +kernel
theorem dX7_openingFromLastStep_8 : decode cX7_openingFromLastStep 8 = .ok (.getfield 12, 3) := by decide +kernel
theorem dX7_openingFromLastStep_11 : decode cX7_openingFromLastStep 11 = .ok (.getfield 119, 3) := by decide +kernel
theorem dX7_openingFromLastStep_14 : decode cX7_openingFromLastStep 14 = .ok (.iload_n 1, 1) := by decide +kernel
theorem dX7_openingFromLastStep_15 : decode cX7_openingFromLastStep 15 = .ok (.iaload, 1) := by decide +kernel
theorem dX7_openingFromLastStep_16 : decode cX7_openingFromLastStep 16 = .ok (.istore 4, 2) := by decide +kernel
theorem dX7_openingFromLastStep_18 : decode cX7_openingFromLastStep 18 = .ok (.iconst 0, 1) := by decide +kernel
theorem dX7_openingFromLastStep_19 : decode cX7_openingFromLastStep 19 = .ok (.istore 5, 2) := by decide +kernel
theorem dX7_openingFromLastStep_21 : decode cX7_openingFromLastStep 21 = .ok (.iload 5, 2) := by decide +kernel
theorem dX7_openingFromLastStep_23 : decode cX7_openingFromLastStep 23 = .ok (.aload_n 0, 1) := by decide +kernel
theorem dX7_openingFromLastStep_24 : decode cX7_openingFromLastStep 24 = .ok (.getfield 32, 3) := by decide +kernel
theorem dX7_openingFromLastStep_27 : decode cX7_openingFromLastStep 27 = .ok (.if_icmp .ge 112, 3) := by decide +kernel
theorem dX7_openingFromLastStep_30 : decode cX7_openingFromLastStep 30 = .ok (.aload_n 0, 1) := by decide +kernel
theorem dX7_openingFromLastStep_31 : decode cX7_openingFromLastStep 31 = .ok (.getfield 25, 3) := by decide +kernel
theorem dX7_openingFromLastStep_34 : decode cX7_openingFromLastStep 34 = .ok (.iload 5, 2) := by decide +kernel
theorem dX7_openingFromLastStep_36 : decode cX7_openingFromLastStep 36 = .ok (.iaload, 1) := by decide +kernel
theorem dX7_openingFromLastStep_37 : decode cX7_openingFromLastStep 37 = .ok (.istore 6, 2) := by decide +kernel
theorem dX7_openingFromLastStep_39 : decode cX7_openingFromLastStep 39 = .ok (.iconst 0, 1) := by decide +kernel
theorem dX7_openingFromLastStep_40 : decode cX7_openingFromLastStep 40 = .ok (.istore 7, 2) := by decide +kernel
theorem dX7_openingFromLastStep_42 : decode cX7_openingFromLastStep 42 = .ok (.iload 7, 2) := by decide +kernel
theorem dX7_openingFromLastStep_44 : decode cX7_openingFromLastStep 44 = .ok (.aload_n 0, 1) := by decide +kernel
theorem dX7_openingFromLastStep_45 : decode cX7_openingFromLastStep 45 = .ok (.getfield 21, 3) := by decide +kernel
theorem dX7_openingFromLastStep_48 : decode cX7_openingFromLastStep 48 = .ok (.getfield 89, 3) := by decide +kernel
theorem dX7_openingFromLastStep_51 : decode cX7_openingFromLastStep 51 = .ok (.iload 6, 2) := by decide +kernel
theorem dX7_openingFromLastStep_53 : decode cX7_openingFromLastStep 53 = .ok (.iaload, 1) := by decide +kernel
theorem dX7_openingFromLastStep_54 : decode cX7_openingFromLastStep 54 = .ok (.if_icmp .ge 79, 3) := by decide +kernel
theorem dX7_openingFromLastStep_57 : decode cX7_openingFromLastStep 57 = .ok (.iload 6, 2) := by decide +kernel
theorem dX7_openingFromLastStep_59 : decode cX7_openingFromLastStep 59 = .ok (.iload 7, 2) := by decide +kernel
theorem dX7_openingFromLastStep_61 : decode cX7_openingFromLastStep 61 = .ok (.invokestatic 112, 3) := by decide +kernel
theorem dX7_openingFromLastStep_64 : decode cX7_openingFromLastStep 64 = .ok (.istore 8, 2) := by decide +kernel
theorem dX7_openingFromLastStep_66 : decode cX7_openingFromLastStep 66 = .ok (.aload_n 0, 1) := by decide +kernel
theorem dX7_openingFromLastStep_67 : decode cX7_openingFromLastStep 67 = .ok (.getfield 29, 3) := by decide +kernel
theorem dX7_openingFromLastStep_70 : decode cX7_openingFromLastStep 70 = .ok (.iload 5, 2) := by decide +kernel
theorem dX7_openingFromLastStep_72 : decode cX7_openingFromLastStep 72 = .ok (.iaload, 1) := by decide +kernel
theorem dX7_openingFromLastStep_73 : decode cX7_openingFromLastStep 73 = .ok (.aload_n 0, 1) := by decide +kernel
theorem dX7_openingFromLastStep_74 : decode cX7_openingFromLastStep 74 = .ok (.getfield 21, 3) := by decide +kernel
theorem dX7_openingFromLastStep_77 : decode cX7_openingFromLastStep 77 = .ok (.getfield 116, 3) := by decide +kernel
theorem dX7_openingFromLastStep_80 : decode cX7_openingFromLastStep 80 = .ok (.iload 8, 2) := by decide +kernel
theorem dX7_openingFromLastStep_82 : decode cX7_openingFromLastStep 82 = .ok (.iaload, 1) := by decide +kernel
theorem dX7_openingFromLastStep_83 : decode cX7_openingFromLastStep 83 = .ok (.iadd, 1) := by decide +kernel
theorem dX7_openingFromLastStep_84 : decode cX7_openingFromLastStep 84 = .ok (.istore 9, 2) := by decide +kernel
theorem dX7_openingFromLastStep_86 : decode cX7_openingFromLastStep 86 = .ok (.aload_n 0, 1) := by decide +kernel
theorem dX7_openingFromLastStep_87 : decode cX7_openingFromLastStep 87 = .ok (.getfield 21, 3) := by decide +kernel
theorem dX7_openingFromLastStep_90 : decode cX7_openingFromLastStep 90 = .ok (.getfield 122, 3) := by decide +kernel
theorem dX7_openingFromLastStep_93 : decode cX7_openingFromLastStep 93 = .ok (.iload 8, 2) := by decide +kernel
theorem dX7_openingFromLastStep_95 : decode cX7_openingFromLastStep 95 = .ok (.iaload, 1) := by decide +kernel
theorem dX7_openingFromLastStep_96 : decode cX7_openingFromLastStep 96 = .ok (.iload_n 1, 1) := by decide +kernel
theorem dX7_openingFromLastStep_97 : decode cX7_openingFromLastStep 97 = .ok (.if_icmp .ne 30, 3) := by decide +kernel
theorem dX7_openingFromLastStep_100 : decode cX7_openingFromLastStep 100 = .ok (.iload 9, 2) := by decide +kernel
theorem dX7_openingFromLastStep_102 : decode cX7_openingFromLastStep 102 = .ok (.iload_n 3, 1) := by decide +kernel
theorem dX7_openingFromLastStep_103 : decode cX7_openingFromLastStep 103 = .ok (.if_icmp .lt 24, 3) := by decide +kernel
theorem dX7_openingFromLastStep_106 : decode cX7_openingFromLastStep 106 = .ok (.iload 9, 2) := by decide +kernel
theorem dX7_openingFromLastStep_108 : decode cX7_openingFromLastStep 108 = .ok (.iload_n 2, 1) := by decide +kernel
theorem dX7_openingFromLastStep_109 : decode cX7_openingFromLastStep 109 = .ok (.if_icmp .gt 18, 3) := by decide +kernel
theorem dX7_openingFromLastStep_112 : decode cX7_openingFromLastStep 112 = .ok (.iload 9, 2) := by decide +kernel
theorem dX7_openingFromLastStep_114 : decode cX7_openingFromLastStep 114 = .ok (.istore_n 3, 1) := by decide +kernel
theorem dX7_openingFromLastStep_115 : decode cX7_openingFromLastStep 115 = .ok (.aload_n 0, 1) := by decide +kernel
theorem dX7_openingFromLastStep_116 : decode cX7_openingFromLastStep 116 = .ok (.getfield 21, 3) := by decide +kernel
theorem dX7_openingFromLastStep_119 : decode cX7_openingFromLastStep 119 = .ok (.getfield 124, 3) := by decide +kernel
theorem dX7_openingFromLastStep_122 : decode cX7_openingFromLastStep 122 = .ok (.iload 8, 2) := by decide +kernel
theorem dX7_openingFromLastStep_124 : decode cX7_openingFromLastStep 124 = .ok (.iaload, 1) := by decide +kernel
theorem dX7_openingFromLastStep_125 : decode cX7_openingFromLastStep 125 = .ok (.istore 4, 2) := by decide +kernel
theorem dX7_openingFromLastStep_127 : decode cX7_openingFromLastStep 127 = .ok (.iinc 7 1, 3) := by decide +kernel
theorem dX7_openingFromLastStep_130 : decode cX7_openingFromLastStep 130 = .ok (.goto (-88), 3) := by decide +kernel
theorem dX7_openingFromLastStep_133 : decode cX7_openingFromLastStep 133 = .ok (.iinc 5 1, 3) := by decide +kernel
theorem dX7_openingFromLastStep_136 : decode cX7_openingFromLastStep 136 = .ok (.goto (-115), 3) := by decide +kernel
theorem dX7_openingFromLastStep_139 : decode cX7_openingFromLastStep 139 = .ok (.iload 4, 2) := by decide +kernel
theorem dX7_openingFromLastStep_141 : decode cX7_openingFromLastStep 141 = .ok (.ireturn, 1) := by decide +kernel
theorem dX7_problemOf_0 : decode cX7_problemOf 0 = .ok (.getstatic 139, 3) := by decide +kernel
theorem dX7_problemOf_3 : decode cX7_problemOf 3 = .ok (.aload_n 1, 1) := by decide +kernel
theorem dX7_problemOf_4 : decode cX7_problemOf 4 = .ok (.invokevirtual 144, 3) := by decide +kernel
theorem dX7_problemOf_7 : decode cX7_problemOf 7 = .ok (.iaload, 1) := by decide +kernel
theorem dX7_problemOf_8 : decode cX7_problemOf 8 = .ok (.tableswitch 143 1 8 #[48, 59, 73, 84, 99, 107, 124, 135], 48) := by decide +kernel
theorem dX7_problemOf_56 : decode cX7_problemOf 56 = .ok (.aload_n 0, 1) := by decide +kernel
theorem dX7_problemOf_57 : decode cX7_problemOf 57 = .ok (.getfield 12, 3) := by decide +kernel
theorem dX7_problemOf_60 : decode cX7_problemOf 60 = .ok (.aload_n 2, 1) := by decide +kernel
theorem dX7_problemOf_61 : decode cX7_problemOf 61 = .ok (.iconst 0, 1) := by decide +kernel
theorem dX7_problemOf_62 : decode cX7_problemOf 62 = .ok (.iaload, 1) := by decide +kernel
theorem dX7_problemOf_63 : decode cX7_problemOf 63 = .ok (.invokevirtual 149, 3) := by decide +kernel
theorem dX7_problemOf_66 : decode cX7_problemOf 66 = .ok (.areturn, 1) := by decide +kernel
theorem dX7_problemOf_67 : decode cX7_problemOf 67 = .ok (.aload_n 0, 1) := by decide +kernel
theorem dX7_problemOf_68 : decode cX7_problemOf 68 = .ok (.getfield 12, 3) := by decide +kernel
theorem dX7_problemOf_71 : decode cX7_problemOf 71 = .ok (.aload_n 2, 1) := by decide +kernel
theorem dX7_problemOf_72 : decode cX7_problemOf 72 = .ok (.iconst 0, 1) := by decide +kernel
theorem dX7_problemOf_73 : decode cX7_problemOf 73 = .ok (.iaload, 1) := by decide +kernel
theorem dX7_problemOf_74 : decode cX7_problemOf 74 = .ok (.aload_n 2, 1) := by decide +kernel
theorem dX7_problemOf_75 : decode cX7_problemOf 75 = .ok (.iconst 1, 1) := by decide +kernel
theorem dX7_problemOf_76 : decode cX7_problemOf 76 = .ok (.iaload, 1) := by decide +kernel
theorem dX7_problemOf_77 : decode cX7_problemOf 77 = .ok (.invokevirtual 153, 3) := by decide +kernel
theorem dX7_problemOf_80 : decode cX7_problemOf 80 = .ok (.areturn, 1) := by decide +kernel
theorem dX7_problemOf_81 : decode cX7_problemOf 81 = .ok (.aload_n 0, 1) := by decide +kernel
theorem dX7_problemOf_82 : decode cX7_problemOf 82 = .ok (.getfield 12, 3) := by decide +kernel
theorem dX7_problemOf_85 : decode cX7_problemOf 85 = .ok (.aload_n 2, 1) := by decide +kernel
theorem dX7_problemOf_86 : decode cX7_problemOf 86 = .ok (.iconst 0, 1) := by decide +kernel
theorem dX7_problemOf_87 : decode cX7_problemOf 87 = .ok (.iaload, 1) := by decide +kernel
theorem dX7_problemOf_88 : decode cX7_problemOf 88 = .ok (.invokevirtual 157, 3) := by decide +kernel
theorem dX7_problemOf_91 : decode cX7_problemOf 91 = .ok (.areturn, 1) := by decide +kernel
theorem dX7_problemOf_92 : decode cX7_problemOf 92 = .ok (.aload_n 0, 1) := by decide +kernel
theorem dX7_problemOf_93 : decode cX7_problemOf 93 = .ok (.getfield 12, 3) := by decide +kernel
theorem dX7_problemOf_96 : decode cX7_problemOf 96 = .ok (.aload_n 2, 1) := by decide +kernel
theorem dX7_problemOf_97 : decode cX7_problemOf 97 = .ok (.iconst 0, 1) := by decide +kernel
theorem dX7_problemOf_98 : decode cX7_problemOf 98 = .ok (.iaload, 1) := by decide +kernel
theorem dX7_problemOf_99 : decode cX7_problemOf 99 = .ok (.aload_n 2, 1) := by decide +kernel
theorem dX7_problemOf_100 : decode cX7_problemOf 100 = .ok (.iconst 1, 1) := by decide +kernel
theorem dX7_problemOf_101 : decode cX7_problemOf 101 = .ok (.iaload, 1) := by decide +kernel
theorem dX7_problemOf_102 : decode cX7_problemOf 102 = .ok (.imul, 1) := by decide +kernel
theorem dX7_problemOf_103 : decode cX7_problemOf 103 = .ok (.invokevirtual 160, 3) := by decide +kernel
theorem dX7_problemOf_106 : decode cX7_problemOf 106 = .ok (.areturn, 1) := by decide +kernel
theorem dX7_problemOf_107 : decode cX7_problemOf 107 = .ok (.aload_n 0, 1) := by decide +kernel
theorem dX7_problemOf_108 : decode cX7_problemOf 108 = .ok (.getfield 21, 3) := by decide +kernel
theorem dX7_problemOf_111 : decode cX7_problemOf 111 = .ok (.invokevirtual 163, 3) := by decide +kernel
theorem dX7_problemOf_114 : decode cX7_problemOf 114 = .ok (.areturn, 1) := by decide +kernel
theorem dX7_problemOf_115 : decode cX7_problemOf 115 = .ok (.aload_n 0, 1) := by decide +kernel
theorem dX7_problemOf_116 : decode cX7_problemOf 116 = .ok (.aload_n 2, 1) := by decide +kernel
theorem dX7_problemOf_117 : decode cX7_problemOf 117 = .ok (.iconst 0, 1) := by decide +kernel
theorem dX7_problemOf_118 : decode cX7_problemOf 118 = .ok (.iaload, 1) := by decide +kernel
theorem dX7_problemOf_119 : decode cX7_problemOf 119 = .ok (.aload_n 2, 1) := by decide +kernel
theorem dX7_problemOf_120 : decode cX7_problemOf 120 = .ok (.iconst 1, 1) := by decide +kernel
theorem dX7_problemOf_121 : decode cX7_problemOf 121 = .ok (.iaload, 1) := by decide +kernel
theorem dX7_problemOf_122 : decode cX7_problemOf 122 = .ok (.aload_n 2, 1) := by decide +kernel
theorem dX7_problemOf_123 : decode cX7_problemOf 123 = .ok (.iconst 2, 1) := by decide +kernel
theorem dX7_problemOf_124 : decode cX7_problemOf 124 = .ok (.iaload, 1) := by decide +kernel
theorem dX7_problemOf_125 : decode cX7_problemOf 125 = .ok (.aload_n 2, 1) := by decide +kernel
theorem dX7_problemOf_126 : decode cX7_problemOf 126 = .ok (.iconst 3, 1) := by decide +kernel
theorem dX7_problemOf_127 : decode cX7_problemOf 127 = .ok (.iaload, 1) := by decide +kernel
theorem dX7_problemOf_128 : decode cX7_problemOf 128 = .ok (.invokevirtual 166, 3) := by decide +kernel
theorem dX7_problemOf_131 : decode cX7_problemOf 131 = .ok (.areturn, 1) := by decide +kernel
theorem dX7_problemOf_132 : decode cX7_problemOf 132 = .ok (.aload_n 0, 1) := by decide +kernel
theorem dX7_problemOf_133 : decode cX7_problemOf 133 = .ok (.aload_n 2, 1) := by decide +kernel
theorem dX7_problemOf_134 : decode cX7_problemOf 134 = .ok (.iconst 0, 1) := by decide +kernel
theorem dX7_problemOf_135 : decode cX7_problemOf 135 = .ok (.iaload, 1) := by decide +kernel
theorem dX7_problemOf_136 : decode cX7_problemOf 136 = .ok (.aload_n 2, 1) := by decide +kernel
theorem dX7_problemOf_137 : decode cX7_problemOf 137 = .ok (.iconst 1, 1) := by decide +kernel
theorem dX7_problemOf_138 : decode cX7_problemOf 138 = .ok (.iaload, 1) := by decide +kernel
theorem dX7_problemOf_139 : decode cX7_problemOf 139 = .ok (.invokevirtual 170, 3) := by decide +kernel
theorem dX7_problemOf_142 : decode cX7_problemOf 142 = .ok (.areturn, 1) := by decide +kernel
theorem dX7_problemOf_143 : decode cX7_problemOf 143 = .ok (.aload_n 0, 1) := by decide +kernel
theorem dX7_problemOf_144 : decode cX7_problemOf 144 = .ok (.aload_n 2, 1) := by decide +kernel
theorem dX7_problemOf_145 : decode cX7_problemOf 145 = .ok (.iconst 0, 1) := by decide +kernel
theorem dX7_problemOf_146 : decode cX7_problemOf 146 = .ok (.iaload, 1) := by decide +kernel
theorem dX7_problemOf_147 : decode cX7_problemOf 147 = .ok (.invokevirtual 173, 3) := by decide +kernel
theorem dX7_problemOf_150 : decode cX7_problemOf 150 = .ok (.areturn, 1) := by decide +kernel
theorem dX7_problemOf_151 : decode cX7_problemOf 151 = .ok (.getstatic 80, 3) := by decide +kernel
theorem dX7_problemOf_154 : decode cX7_problemOf 154 = .ok (.areturn, 1) := by decide +kernel
theorem dX7_carryOut_0 : decode cX7_carryOut 0 = .ok (.getstatic 139, 3) := by decide +kernel
theorem dX7_carryOut_3 : decode cX7_carryOut 3 = .ok (.aload_n 1, 1) := by decide +kernel
theorem dX7_carryOut_4 : decode cX7_carryOut 4 = .ok (.invokevirtual 144, 3) := by decide +kernel
theorem dX7_carryOut_7 : decode cX7_carryOut 7 = .ok (.iaload, 1) := by decide +kernel
theorem dX7_carryOut_8 : decode cX7_carryOut 8 = .ok (.tableswitch 185 1 9 #[52, 66, 83, 97, 126, 137, 160, 174, 115], 52) := by decide +kernel
theorem dX7_carryOut_60 : decode cX7_carryOut 60 = .ok (.aload_n 0, 1) := by decide +kernel
theorem dX7_carryOut_61 : decode cX7_carryOut 61 = .ok (.getfield 12, 3) := by decide +kernel
theorem dX7_carryOut_64 : decode cX7_carryOut 64 = .ok (.aload_n 2, 1) := by decide +kernel
theorem dX7_carryOut_65 : decode cX7_carryOut 65 = .ok (.iconst 0, 1) := by decide +kernel
theorem dX7_carryOut_66 : decode cX7_carryOut 66 = .ok (.iaload, 1) := by decide +kernel
theorem dX7_carryOut_67 : decode cX7_carryOut 67 = .ok (.invokevirtual 176, 3) := by decide +kernel
theorem dX7_carryOut_70 : decode cX7_carryOut 70 = .ok (.pop, 1) := by decide +kernel
theorem dX7_carryOut_71 : decode cX7_carryOut 71 = .ok (.goto 122, 3) := by decide +kernel
theorem dX7_carryOut_74 : decode cX7_carryOut 74 = .ok (.aload_n 0, 1) := by decide +kernel
theorem dX7_carryOut_75 : decode cX7_carryOut 75 = .ok (.getfield 12, 3) := by decide +kernel
theorem dX7_carryOut_78 : decode cX7_carryOut 78 = .ok (.aload_n 2, 1) := by decide +kernel
theorem dX7_carryOut_79 : decode cX7_carryOut 79 = .ok (.iconst 0, 1) := by decide +kernel
theorem dX7_carryOut_80 : decode cX7_carryOut 80 = .ok (.iaload, 1) := by decide +kernel
theorem dX7_carryOut_81 : decode cX7_carryOut 81 = .ok (.aload_n 2, 1) := by decide +kernel
theorem dX7_carryOut_82 : decode cX7_carryOut 82 = .ok (.iconst 1, 1) := by decide +kernel
theorem dX7_carryOut_83 : decode cX7_carryOut 83 = .ok (.iaload, 1) := by decide +kernel
theorem dX7_carryOut_84 : decode cX7_carryOut 84 = .ok (.invokevirtual 179, 3) := by decide +kernel
theorem dX7_carryOut_87 : decode cX7_carryOut 87 = .ok (.pop, 1) := by decide +kernel
theorem dX7_carryOut_88 : decode cX7_carryOut 88 = .ok (.goto 105, 3) := by decide +kernel
theorem dX7_carryOut_91 : decode cX7_carryOut 91 = .ok (.aload_n 0, 1) := by decide +kernel
theorem dX7_carryOut_92 : decode cX7_carryOut 92 = .ok (.getfield 12, 3) := by decide +kernel
theorem dX7_carryOut_95 : decode cX7_carryOut 95 = .ok (.aload_n 2, 1) := by decide +kernel
theorem dX7_carryOut_96 : decode cX7_carryOut 96 = .ok (.iconst 0, 1) := by decide +kernel
theorem dX7_carryOut_97 : decode cX7_carryOut 97 = .ok (.iaload, 1) := by decide +kernel
theorem dX7_carryOut_98 : decode cX7_carryOut 98 = .ok (.invokevirtual 182, 3) := by decide +kernel
theorem dX7_carryOut_101 : decode cX7_carryOut 101 = .ok (.pop, 1) := by decide +kernel
theorem dX7_carryOut_102 : decode cX7_carryOut 102 = .ok (.goto 91, 3) := by decide +kernel
theorem dX7_carryOut_105 : decode cX7_carryOut 105 = .ok (.aload_n 0, 1) := by decide +kernel
theorem dX7_carryOut_106 : decode cX7_carryOut 106 = .ok (.getfield 12, 3) := by decide +kernel
theorem dX7_carryOut_109 : decode cX7_carryOut 109 = .ok (.aload_n 2, 1) := by decide +kernel
theorem dX7_carryOut_110 : decode cX7_carryOut 110 = .ok (.iconst 0, 1) := by decide +kernel
theorem dX7_carryOut_111 : decode cX7_carryOut 111 = .ok (.iaload, 1) := by decide +kernel
theorem dX7_carryOut_112 : decode cX7_carryOut 112 = .ok (.aload_n 2, 1) := by decide +kernel
theorem dX7_carryOut_113 : decode cX7_carryOut 113 = .ok (.iconst 1, 1) := by decide +kernel
theorem dX7_carryOut_114 : decode cX7_carryOut 114 = .ok (.iaload, 1) := by decide +kernel
theorem dX7_carryOut_115 : decode cX7_carryOut 115 = .ok (.imul, 1) := by decide +kernel
theorem dX7_carryOut_116 : decode cX7_carryOut 116 = .ok (.invokevirtual 185, 3) := by decide +kernel
theorem dX7_carryOut_119 : decode cX7_carryOut 119 = .ok (.pop, 1) := by decide +kernel
theorem dX7_carryOut_120 : decode cX7_carryOut 120 = .ok (.goto 73, 3) := by decide +kernel
theorem dX7_carryOut_123 : decode cX7_carryOut 123 = .ok (.aload_n 0, 1) := by decide +kernel
theorem dX7_carryOut_124 : decode cX7_carryOut 124 = .ok (.getfield 12, 3) := by decide +kernel
theorem dX7_carryOut_127 : decode cX7_carryOut 127 = .ok (.invokevirtual 188, 3) := by decide +kernel
theorem dX7_carryOut_130 : decode cX7_carryOut 130 = .ok (.pop, 1) := by decide +kernel
theorem dX7_carryOut_131 : decode cX7_carryOut 131 = .ok (.goto 62, 3) := by decide +kernel
theorem dX7_carryOut_134 : decode cX7_carryOut 134 = .ok (.aload_n 0, 1) := by decide +kernel
theorem dX7_carryOut_135 : decode cX7_carryOut 135 = .ok (.getfield 21, 3) := by decide +kernel
theorem dX7_carryOut_138 : decode cX7_carryOut 138 = .ok (.invokevirtual 191, 3) := by decide +kernel
theorem dX7_carryOut_141 : decode cX7_carryOut 141 = .ok (.pop, 1) := by decide +kernel
theorem dX7_carryOut_142 : decode cX7_carryOut 142 = .ok (.goto 51, 3) := by decide +kernel
theorem dX7_carryOut_145 : decode cX7_carryOut 145 = .ok (.aload_n 0, 1) := by decide +kernel
theorem dX7_carryOut_146 : decode cX7_carryOut 146 = .ok (.getfield 21, 3) := by decide +kernel
theorem dX7_carryOut_149 : decode cX7_carryOut 149 = .ok (.aload_n 2, 1) := by decide +kernel
theorem dX7_carryOut_150 : decode cX7_carryOut 150 = .ok (.iconst 0, 1) := by decide +kernel
theorem dX7_carryOut_151 : decode cX7_carryOut 151 = .ok (.iaload, 1) := by decide +kernel
theorem dX7_carryOut_152 : decode cX7_carryOut 152 = .ok (.aload_n 2, 1) := by decide +kernel
theorem dX7_carryOut_153 : decode cX7_carryOut 153 = .ok (.iconst 1, 1) := by decide +kernel
theorem dX7_carryOut_154 : decode cX7_carryOut 154 = .ok (.iaload, 1) := by decide +kernel
theorem dX7_carryOut_155 : decode cX7_carryOut 155 = .ok (.aload_n 2, 1) := by decide +kernel
theorem dX7_carryOut_156 : decode cX7_carryOut 156 = .ok (.iconst 2, 1) := by decide +kernel
theorem dX7_carryOut_157 : decode cX7_carryOut 157 = .ok (.iaload, 1) := by decide +kernel
theorem dX7_carryOut_158 : decode cX7_carryOut 158 = .ok (.aload_n 2, 1) := by decide +kernel
theorem dX7_carryOut_159 : decode cX7_carryOut 159 = .ok (.iconst 3, 1) := by decide +kernel
theorem dX7_carryOut_160 : decode cX7_carryOut 160 = .ok (.iaload, 1) := by decide +kernel
theorem dX7_carryOut_161 : decode cX7_carryOut 161 = .ok (.invokevirtual 193, 3) := by decide +kernel
theorem dX7_carryOut_164 : decode cX7_carryOut 164 = .ok (.pop, 1) := by decide +kernel
theorem dX7_carryOut_165 : decode cX7_carryOut 165 = .ok (.goto 28, 3) := by decide +kernel
theorem dX7_carryOut_168 : decode cX7_carryOut 168 = .ok (.aload_n 0, 1) := by decide +kernel
theorem dX7_carryOut_169 : decode cX7_carryOut 169 = .ok (.aload_n 2, 1) := by decide +kernel
theorem dX7_carryOut_170 : decode cX7_carryOut 170 = .ok (.iconst 0, 1) := by decide +kernel
theorem dX7_carryOut_171 : decode cX7_carryOut 171 = .ok (.iaload, 1) := by decide +kernel
theorem dX7_carryOut_172 : decode cX7_carryOut 172 = .ok (.aload_n 2, 1) := by decide +kernel
theorem dX7_carryOut_173 : decode cX7_carryOut 173 = .ok (.iconst 1, 1) := by decide +kernel
theorem dX7_carryOut_174 : decode cX7_carryOut 174 = .ok (.iaload, 1) := by decide +kernel
theorem dX7_carryOut_175 : decode cX7_carryOut 175 = .ok (.invokevirtual 197, 3) := by decide +kernel
theorem dX7_carryOut_178 : decode cX7_carryOut 178 = .ok (.pop, 1) := by decide +kernel
theorem dX7_carryOut_179 : decode cX7_carryOut 179 = .ok (.goto 14, 3) := by decide +kernel
theorem dX7_carryOut_182 : decode cX7_carryOut 182 = .ok (.aload_n 0, 1) := by decide +kernel
theorem dX7_carryOut_183 : decode cX7_carryOut 183 = .ok (.aload_n 2, 1) := by decide +kernel
theorem dX7_carryOut_184 : decode cX7_carryOut 184 = .ok (.iconst 0, 1) := by decide +kernel
theorem dX7_carryOut_185 : decode cX7_carryOut 185 = .ok (.iaload, 1) := by decide +kernel
theorem dX7_carryOut_186 : decode cX7_carryOut 186 = .ok (.invokevirtual 200, 3) := by decide +kernel
theorem dX7_carryOut_189 : decode cX7_carryOut 189 = .ok (.pop, 1) := by decide +kernel
theorem dX7_carryOut_190 : decode cX7_carryOut 190 = .ok (.goto 3, 3) := by decide +kernel
theorem dX7_carryOut_193 : decode cX7_carryOut 193 = .ok (.return_, 1) := by decide +kernel
end
section
theorem dX8_init_0 : decode cX8_init 0 = .ok (.aload_n 0, 1) := by decide +kernel
theorem dX8_init_1 : decode cX8_init 1 = .ok (.invokespecial 1, 3) := by decide +kernel
theorem dX8_init_4 : decode cX8_init 4 = .ok (.aload_n 0, 1) := by decide +kernel
theorem dX8_init_5 : decode cX8_init 5 = .ok (.new 7, 3) := by decide +kernel
theorem dX8_init_8 : decode cX8_init 8 = .ok (.dup, 1) := by decide +kernel
theorem dX8_init_9 : decode cX8_init 9 = .ok (.invokespecial 9, 3) := by decide +kernel
theorem dX8_init_12 : decode cX8_init 12 = .ok (.putfield 10, 3) := by decide +kernel
theorem dX8_init_15 : decode cX8_init 15 = .ok (.aload_n 0, 1) := by decide +kernel
theorem dX8_init_16 : decode cX8_init 16 = .ok (.new 7, 3) := by decide +kernel
theorem dX8_init_19 : decode cX8_init 19 = .ok (.dup, 1) := by decide +kernel
theorem dX8_init_20 : decode cX8_init 20 = .ok (.invokespecial 9, 3) := by decide +kernel
theorem dX8_init_23 : decode cX8_init 23 = .ok (.putfield 16, 3) := by decide +kernel
theorem dX8_init_26 : decode cX8_init 26 = .ok (.aload_n 0, 1) := by decide +kernel
theorem dX8_init_27 : decode cX8_init 27 = .ok (.new 7, 3) := by decide +kernel
theorem dX8_init_30 : decode cX8_init 30 = .ok (.dup, 1) := by decide +kernel
theorem dX8_init_31 : decode cX8_init 31 = .ok (.invokespecial 9, 3) := by decide +kernel
theorem dX8_init_34 : decode cX8_init 34 = .ok (.putfield 19, 3) := by decide +kernel
theorem dX8_init_37 : decode cX8_init 37 = .ok (.aload_n 0, 1) := by decide +kernel
theorem dX8_init_38 : decode cX8_init 38 = .ok (.iconst 0, 1) := by decide +kernel
theorem dX8_init_39 : decode cX8_init 39 = .ok (.putfield 22, 3) := by decide +kernel
theorem dX8_init_42 : decode cX8_init 42 = .ok (.aload_n 0, 1) := by decide +kernel
theorem dX8_init_43 : decode cX8_init 43 = .ok (.bipush 8, 2) := by decide +kernel
theorem dX8_init_45 : decode cX8_init 45 = .ok (.anewarray 7, 3) := by decide +kernel
theorem dX8_init_48 : decode cX8_init 48 = .ok (.putfield 26, 3) := by decide +kernel
theorem dX8_init_51 : decode cX8_init 51 = .ok (.aload_n 0, 1) := by decide +kernel
theorem dX8_init_52 : decode cX8_init 52 = .ok (.iconst 0, 1) := by decide +kernel
theorem dX8_init_53 : decode cX8_init 53 = .ok (.putfield 30, 3) := by decide +kernel
theorem dX8_init_56 : decode cX8_init 56 = .ok (.aload_n 0, 1) := by decide +kernel
theorem dX8_init_57 : decode cX8_init 57 = .ok (.iconst 0, 1) := by decide +kernel
theorem dX8_init_58 : decode cX8_init 58 = .ok (.putfield 34, 3) := by decide +kernel
theorem dX8_init_61 : decode cX8_init 61 = .ok (.aload_n 0, 1) := by decide +kernel
theorem dX8_init_62 : decode cX8_init 62 = .ok (.new 37, 3) := by decide +kernel
theorem dX8_init_65 : decode cX8_init 65 = .ok (.dup, 1) := by decide +kernel
theorem dX8_init_66 : decode cX8_init 66 = .ok (.invokespecial 39, 3) := by decide +kernel
theorem dX8_init_69 : decode cX8_init 69 = .ok (.putfield 40, 3) := by decide +kernel
theorem dX8_init_72 : decode cX8_init 72 = .ok (.aload_n 0, 1) := by decide +kernel
theorem dX8_init_73 : decode cX8_init 73 = .ok (.new 44, 3) := by decide +kernel
theorem dX8_init_76 : decode cX8_init 76 = .ok (.dup, 1) := by decide +kernel
theorem dX8_init_77 : decode cX8_init 77 = .ok (.invokespecial 46, 3) := by decide +kernel
theorem dX8_init_80 : decode cX8_init 80 = .ok (.putfield 47, 3) := by decide +kernel
theorem dX8_init_83 : decode cX8_init 83 = .ok (.aload_n 0, 1) := by decide +kernel
theorem dX8_init_84 : decode cX8_init 84 = .ok (.new 51, 3) := by decide +kernel
theorem dX8_init_87 : decode cX8_init 87 = .ok (.dup, 1) := by decide +kernel
theorem dX8_init_88 : decode cX8_init 88 = .ok (.invokespecial 53, 3) := by decide +kernel
theorem dX8_init_91 : decode cX8_init 91 = .ok (.putfield 54, 3) := by decide +kernel
theorem dX8_init_94 : decode cX8_init 94 = .ok (.aload_n 0, 1) := by decide +kernel
theorem dX8_init_95 : decode cX8_init 95 = .ok (.iconst (-1), 1) := by decide +kernel
theorem dX8_init_96 : decode cX8_init 96 = .ok (.putfield 58, 3) := by decide +kernel
theorem dX8_init_99 : decode cX8_init 99 = .ok (.aload_n 0, 1) := by decide +kernel
theorem dX8_init_100 : decode cX8_init 100 = .ok (.iconst (-1), 1) := by decide +kernel
theorem dX8_init_101 : decode cX8_init 101 = .ok (.putfield 61, 3) := by decide +kernel
theorem dX8_init_104 : decode cX8_init 104 = .ok (.iconst 0, 1) := by decide +kernel
theorem dX8_init_105 : decode cX8_init 105 = .ok (.istore_n 1, 1) := by decide +kernel
theorem dX8_init_106 : decode cX8_init 106 = .ok (.iload_n 1, 1) := by decide +kernel
theorem dX8_init_107 : decode cX8_init 107 = .ok (.bipush 8, 2) := by decide +kernel
theorem dX8_init_109 : decode cX8_init 109 = .ok (.if_icmp .ge 22, 3) := by decide +kernel
theorem dX8_init_112 : decode cX8_init 112 = .ok (.aload_n 0, 1) := by decide +kernel
theorem dX8_init_113 : decode cX8_init 113 = .ok (.getfield 26, 3) := by decide +kernel
theorem dX8_init_116 : decode cX8_init 116 = .ok (.iload_n 1, 1) := by decide +kernel
theorem dX8_init_117 : decode cX8_init 117 = .ok (.new 7, 3) := by decide +kernel
theorem dX8_init_120 : decode cX8_init 120 = .ok (.dup, 1) := by decide +kernel
theorem dX8_init_121 : decode cX8_init 121 = .ok (.invokespecial 9, 3) := by decide +kernel
theorem dX8_init_124 : decode cX8_init 124 = .ok (.aastore, 1) := by decide +kernel
theorem dX8_init_125 : decode cX8_init 125 = .ok (.iinc 1 1, 3) := by decide +kernel
theorem dX8_init_128 : decode cX8_init 128 = .ok (.goto (-22), 3) := by decide +kernel
theorem dX8_init_131 : decode cX8_init 131 = .ok (.return_, 1) := by decide +kernel
theorem dX8_addJet_0 : decode cX8_addJet 0 = .ok (.aload_n 0, 1) := by decide +kernel
theorem dX8_addJet_1 : decode cX8_addJet 1 = .ok (.getfield 10, 3) := by decide +kernel
theorem dX8_addJet_4 : decode cX8_addJet 4 = .ok (.getfield 64, 3) := by decide +kernel
theorem dX8_addJet_7 : decode cX8_addJet 7 = .ok (.iload_n 1, 1) := by decide +kernel
theorem dX8_addJet_8 : decode cX8_addJet 8 = .ok (.invokevirtual 68, 3) := by decide +kernel
theorem dX8_addJet_11 : decode cX8_addJet 11 = .ok (.invokestatic 74, 3) := by decide +kernel
theorem dX8_addJet_14 : decode cX8_addJet 14 = .ok (.aload_n 0, 1) := by decide +kernel
theorem dX8_addJet_15 : decode cX8_addJet 15 = .ok (.invokevirtual 78, 3) := by decide +kernel
theorem dX8_addJet_18 : decode cX8_addJet 18 = .ok (.aload_n 0, 1) := by decide +kernel
theorem dX8_addJet_19 : decode cX8_addJet 19 = .ok (.getfield 10, 3) := by decide +kernel
theorem dX8_addJet_22 : decode cX8_addJet 22 = .ok (.getfield 64, 3) := by decide +kernel
theorem dX8_addJet_25 : decode cX8_addJet 25 = .ok (.iload_n 1, 1) := by decide +kernel
theorem dX8_addJet_26 : decode cX8_addJet 26 = .ok (.invokevirtual 81, 3) := by decide +kernel
theorem dX8_addJet_29 : decode cX8_addJet 29 = .ok (.ireturn, 1) := by decide +kernel
theorem dX8_removeJet_0 : decode cX8_removeJet 0 = .ok (.aload_n 0, 1) := by decide +kernel
theorem dX8_removeJet_1 : decode cX8_removeJet 1 = .ok (.iload_n 1, 1) := by decide +kernel
theorem dX8_removeJet_2 : decode cX8_removeJet 2 = .ok (.invokevirtual 85, 3) := by decide +kernel
theorem dX8_removeJet_5 : decode cX8_removeJet 5 = .ok (.aload_n 0, 1) := by decide +kernel
theorem dX8_removeJet_6 : decode cX8_removeJet 6 = .ok (.invokevirtual 78, 3) := by decide +kernel
theorem dX8_removeJet_9 : decode cX8_removeJet 9 = .ok (.aload_n 0, 1) := by decide +kernel
theorem dX8_removeJet_10 : decode cX8_removeJet 10 = .ok (.getfield 10, 3) := by decide +kernel
theorem dX8_removeJet_13 : decode cX8_removeJet 13 = .ok (.iload_n 1, 1) := by decide +kernel
theorem dX8_removeJet_14 : decode cX8_removeJet 14 = .ok (.invokevirtual 89, 3) := by decide +kernel
theorem dX8_removeJet_17 : decode cX8_removeJet 17 = .ok (.ireturn, 1) := by decide +kernel
theorem dX8_setOpening_0 : decode cX8_setOpening 0 = .ok (.aload_n 0, 1) := by decide +kernel
theorem dX8_setOpening_1 : decode cX8_setOpening 1 = .ok (.getfield 10, 3) := by decide +kernel
theorem dX8_setOpening_4 : decode cX8_setOpening 4 = .ok (.getfield 64, 3) := by decide +kernel
theorem dX8_setOpening_7 : decode cX8_setOpening 7 = .ok (.iload_n 1, 1) := by decide +kernel
theorem dX8_setOpening_8 : decode cX8_setOpening 8 = .ok (.iload_n 2, 1) := by decide +kernel
theorem dX8_setOpening_9 : decode cX8_setOpening 9 = .ok (.invokevirtual 92, 3) := by decide +kernel
theorem dX8_setOpening_12 : decode cX8_setOpening 12 = .ok (.invokestatic 74, 3) := by decide +kernel
theorem dX8_setOpening_15 : decode cX8_setOpening 15 = .ok (.aload_n 0, 1) := by decide +kernel
theorem dX8_setOpening_16 : decode cX8_setOpening 16 = .ok (.invokevirtual 78, 3) := by decide +kernel
theorem dX8_setOpening_19 : decode cX8_setOpening 19 = .ok (.aload_n 0, 1) := by decide +kernel
theorem dX8_setOpening_20 : decode cX8_setOpening 20 = .ok (.getfield 10, 3) := by decide +kernel
theorem dX8_setOpening_23 : decode cX8_setOpening 23 = .ok (.getfield 64, 3) := by decide +kernel
theorem dX8_setOpening_26 : decode cX8_setOpening 26 = .ok (.iload_n 1, 1) := by decide +kernel
theorem dX8_setOpening_27 : decode cX8_setOpening 27 = .ok (.iload_n 2, 1) := by decide +kernel
theorem dX8_setOpening_28 : decode cX8_setOpening 28 = .ok (.invokevirtual 96, 3) := by decide +kernel
theorem dX8_setOpening_31 : decode cX8_setOpening 31 = .ok (.ireturn, 1) := by decide +kernel
theorem dX8_jetCount_0 : decode cX8_jetCount 0 = .ok (.aload_n 0, 1) := by decide +kernel
theorem dX8_jetCount_1 : decode cX8_jetCount 1 = .ok (.getfield 10, 3) := by decide +kernel
theorem dX8_jetCount_4 : decode cX8_jetCount 4 = .ok (.getfield 64, 3) := by decide +kernel
theorem dX8_jetCount_7 : decode cX8_jetCount 7 = .ok (.getfield 100, 3) := by decide +kernel
theorem dX8_jetCount_10 : decode cX8_jetCount 10 = .ok (.ireturn, 1) := by decide +kernel
theorem dX8_position_0 : decode cX8_position 0 = .ok (.aload_n 0, 1) := by decide +kernel
theorem dX8_position_1 : decode cX8_position 1 = .ok (.iload_n 1, 1) := by decide +kernel
theorem dX8_position_2 : decode cX8_position 2 = .ok (.invokevirtual 85, 3) := by decide +kernel
theorem dX8_position_5 : decode cX8_position 5 = .ok (.aload_n 0, 1) := by decide +kernel
theorem dX8_position_6 : decode cX8_position 6 = .ok (.getfield 10, 3) := by decide +kernel
theorem dX8_position_9 : decode cX8_position 9 = .ok (.getfield 64, 3) := by decide +kernel
theorem dX8_position_12 : decode cX8_position 12 = .ok (.getfield 103, 3) := by decide +kernel
theorem dX8_position_15 : decode cX8_position 15 = .ok (.iload_n 1, 1) := by decide +kernel
theorem dX8_position_16 : decode cX8_position 16 = .ok (.iaload, 1) := by decide +kernel
theorem dX8_position_17 : decode cX8_position 17 = .ok (.ireturn, 1) := by decide +kernel
theorem dX8_opening_0 : decode cX8_opening 0 = .ok (.aload_n 0, 1) := by decide +kernel
theorem dX8_opening_1 : decode cX8_opening 1 = .ok (.iload_n 1, 1) := by decide +kernel
theorem dX8_opening_2 : decode cX8_opening 2 = .ok (.invokevirtual 85, 3) := by decide +kernel
theorem dX8_opening_5 : decode cX8_opening 5 = .ok (.aload_n 0, 1) := by decide +kernel
theorem dX8_opening_6 : decode cX8_opening 6 = .ok (.getfield 10, 3) := by decide +kernel
theorem dX8_opening_9 : decode cX8_opening 9 = .ok (.getfield 64, 3) := by decide +kernel
theorem dX8_opening_12 : decode cX8_opening 12 = .ok (.getfield 107, 3) := by decide +kernel
theorem dX8_opening_15 : decode cX8_opening 15 = .ok (.iload_n 1, 1) := by decide +kernel
theorem dX8_opening_16 : decode cX8_opening 16 = .ok (.iaload, 1) := by decide +kernel
theorem dX8_opening_17 : decode cX8_opening 17 = .ok (.ireturn, 1) := by decide +kernel
theorem dX8_height_0 : decode cX8_height 0 = .ok (.aload_n 0, 1) := by decide +kernel
theorem dX8_height_1 : decode cX8_height 1 = .ok (.iload_n 1, 1) := by decide +kernel
theorem dX8_height_2 : decode cX8_height 2 = .ok (.invokevirtual 85, 3) := by decide +kernel
theorem dX8_height_5 : decode cX8_height 5 = .ok (.aload_n 0, 1) := by decide +kernel
theorem dX8_height_6 : decode cX8_height 6 = .ok (.getfield 10, 3) := by decide +kernel
theorem dX8_height_9 : decode cX8_height 9 = .ok (.getfield 64, 3) := by decide +kernel
theorem dX8_height_12 : decode cX8_height 12 = .ok (.iload_n 1, 1) := by decide +kernel
theorem dX8_height_13 : decode cX8_height 13 = .ok (.aload_n 0, 1) := by decide +kernel
theorem dX8_height_14 : decode cX8_height 14 = .ok (.getfield 10, 3) := by decide +kernel
theorem dX8_height_17 : decode cX8_height 17 = .ok (.getfield 64, 3) := by decide +kernel
theorem dX8_height_20 : decode cX8_height 20 = .ok (.invokevirtual 110, 3) := by decide +kernel
theorem dX8_height_23 : decode cX8_height 23 = .ok (.invokevirtual 114, 3) := by decide +kernel
theorem dX8_height_26 : decode cX8_height 26 = .ok (.ireturn, 1) := by decide +kernel
theorem dX8_landing_0 : decode cX8_landing 0 = .ok (.aload_n 0, 1) := by decide +kernel
theorem dX8_landing_1 : decode cX8_landing 1 = .ok (.iload_n 1, 1) := by decide +kernel
theorem dX8_landing_2 : decode cX8_landing 2 = .ok (.invokevirtual 85, 3) := by decide +kernel
theorem dX8_landing_5 : decode cX8_landing 5 = .ok (.aload_n 0, 1) := by decide +kernel
theorem dX8_landing_6 : decode cX8_landing 6 = .ok (.getfield 10, 3) := by decide +kernel
theorem dX8_landing_9 : decode cX8_landing 9 = .ok (.getfield 64, 3) := by decide +kernel
theorem dX8_landing_12 : decode cX8_landing 12 = .ok (.iload_n 1, 1) := by decide +kernel
theorem dX8_landing_13 : decode cX8_landing 13 = .ok (.aload_n 0, 1) := by decide +kernel
theorem dX8_landing_14 : decode cX8_landing 14 = .ok (.getfield 10, 3) := by decide +kernel
theorem dX8_landing_17 : decode cX8_landing 17 = .ok (.getfield 64, 3) := by decide +kernel
theorem dX8_landing_20 : decode cX8_landing 20 = .ok (.invokevirtual 110, 3) := by decide +kernel
theorem dX8_landing_23 : decode cX8_landing 23 = .ok (.invokevirtual 117, 3) := by decide +kernel
theorem dX8_landing_26 : decode cX8_landing 26 = .ok (.ireturn, 1) := by decide +kernel
theorem dX8_isWild_0 : decode cX8_isWild 0 = .ok (.aload_n 0, 1) := by decide +kernel
theorem dX8_isWild_1 : decode cX8_isWild 1 = .ok (.iload_n 1, 1) := by decide +kernel
theorem dX8_isWild_2 : decode cX8_isWild 2 = .ok (.invokevirtual 85, 3) := by decide +kernel
theorem dX8_isWild_5 : decode cX8_isWild 5 = .ok (.aload_n 0, 1) := by decide +kernel
theorem dX8_isWild_6 : decode cX8_isWild 6 = .ok (.getfield 10, 3) := by decide +kernel
theorem dX8_isWild_9 : decode cX8_isWild 9 = .ok (.getfield 64, 3) := by decide +kernel
theorem dX8_isWild_12 : decode cX8_isWild 12 = .ok (.iload_n 1, 1) := by decide +kernel
theorem dX8_isWild_13 : decode cX8_isWild 13 = .ok (.aload_n 0, 1) := by decide +kernel
theorem dX8_isWild_14 : decode cX8_isWild 14 = .ok (.getfield 10, 3) := by decide +kernel
theorem dX8_isWild_17 : decode cX8_isWild 17 = .ok (.getfield 64, 3) := by decide +kernel
theorem dX8_isWild_20 : decode cX8_isWild 20 = .ok (.invokevirtual 110, 3) := by decide +kernel
theorem dX8_isWild_23 : decode cX8_isWild 23 = .ok (.invokevirtual 117, 3) := by decide +kernel
theorem dX8_isWild_26 : decode cX8_isWild 26 = .ok (.invokestatic 120, 3) := by decide +kernel
theorem dX8_isWild_29 : decode cX8_isWild 29 = .ok (.ireturn, 1) := by decide +kernel
theorem dX8_wildCount_0 : decode cX8_wildCount 0 = .ok (.aload_n 0, 1) := by decide +kernel
theorem dX8_wildCount_1 : decode cX8_wildCount 1 = .ok (.getfield 10, 3) := by decide +kernel
theorem dX8_wildCount_4 : decode cX8_wildCount 4 = .ok (.getfield 64, 3) := by decide +kernel
theorem dX8_wildCount_7 : decode cX8_wildCount 7 = .ok (.invokevirtual 124, 3) := by decide +kernel
theorem dX8_wildCount_10 : decode cX8_wildCount 10 = .ok (.ireturn, 1) := by decide +kernel
theorem dX8_highestJet_0 : decode cX8_highestJet 0 = .ok (.aload_n 0, 1) := by decide +kernel
theorem dX8_highestJet_1 : decode cX8_highestJet 1 = .ok (.invokevirtual 127, 3) := by decide +kernel
theorem dX8_highestJet_4 : decode cX8_highestJet 4 = .ok (.aload_n 0, 1) := by decide +kernel
theorem dX8_highestJet_5 : decode cX8_highestJet 5 = .ok (.getfield 10, 3) := by decide +kernel
theorem dX8_highestJet_8 : decode cX8_highestJet 8 = .ok (.getfield 64, 3) := by decide +kernel
theorem dX8_highestJet_11 : decode cX8_highestJet 11 = .ok (.invokevirtual 130, 3) := by decide +kernel
theorem dX8_highestJet_14 : decode cX8_highestJet 14 = .ok (.ireturn, 1) := by decide +kernel
theorem dX8_jetByPosition_0 : decode cX8_jetByPosition 0 = .ok (.aload_n 0, 1) := by decide +kernel
theorem dX8_jetByPosition_1 : decode cX8_jetByPosition 1 = .ok (.getfield 10, 3) := by decide +kernel
theorem dX8_jetByPosition_4 : decode cX8_jetByPosition 4 = .ok (.getfield 64, 3) := by decide +kernel
theorem dX8_jetByPosition_7 : decode cX8_jetByPosition 7 = .ok (.iload_n 1, 1) := by decide +kernel
theorem dX8_jetByPosition_8 : decode cX8_jetByPosition 8 = .ok (.invokevirtual 133, 3) := by decide +kernel
theorem dX8_jetByPosition_11 : decode cX8_jetByPosition 11 = .ok (.ifCond .ne 13, 3) := by decide +kernel
theorem dX8_jetByPosition_14 : decode cX8_jetByPosition 14 = .ok (.new 136, 3) := by decide +kernel
theorem dX8_jetByPosition_17 : decode cX8_jetByPosition 17 = .ok (.dup, 1) := by decide +kernel
theorem dX8_jetByPosition_18 : decode cX8_jetByPosition 18 = .ok (.ldc 138, 2) := by decide +kernel
theorem dX8_jetByPosition_20 : decode cX8_jetByPosition 20 = .ok (.invokespecial 140, 3) := by decide +kernel
theorem dX8_jetByPosition_23 : decode cX8_jetByPosition 23 = .ok (.athrow, 1) := by decide +kernel
theorem dX8_jetByPosition_24 : decode cX8_jetByPosition 24 = .ok (.aload_n 0, 1) := by decide +kernel
theorem dX8_jetByPosition_25 : decode cX8_jetByPosition 25 = .ok (.getfield 10, 3) := by decide +kernel
theorem dX8_jetByPosition_28 : decode cX8_jetByPosition 28 = .ok (.getfield 64, 3) := by decide +kernel
theorem dX8_jetByPosition_31 : decode cX8_jetByPosition 31 = .ok (.iload_n 1, 1) := by decide +kernel
theorem dX8_jetByPosition_32 : decode cX8_jetByPosition 32 = .ok (.invokevirtual 143, 3) := by decide +kernel
theorem dX8_jetByPosition_35 : decode cX8_jetByPosition 35 = .ok (.ireturn, 1) := by decide +kernel
theorem dX8_nearestLanding_0 : decode cX8_nearestLanding 0 = .ok (.aload_n 0, 1) := by decide +kernel
theorem dX8_nearestLanding_1 : decode cX8_nearestLanding 1 = .ok (.invokevirtual 127, 3) := by decide +kernel
theorem dX8_nearestLanding_4 : decode cX8_nearestLanding 4 = .ok (.aload_n 0, 1) := by decide +kernel
theorem dX8_nearestLanding_5 : decode cX8_nearestLanding 5 = .ok (.getfield 10, 3) := by decide +kernel
theorem dX8_nearestLanding_8 : decode cX8_nearestLanding 8 = .ok (.getfield 64, 3) := by decide +kernel
theorem dX8_nearestLanding_11 : decode cX8_nearestLanding 11 = .ok (.iload_n 1, 1) := by decide +kernel
theorem dX8_nearestLanding_12 : decode cX8_nearestLanding 12 = .ok (.invokevirtual 146, 3) := by decide +kernel
theorem dX8_nearestLanding_15 : decode cX8_nearestLanding 15 = .ok (.ireturn, 1) := by decide +kernel
theorem dX8_crossings_0 : decode cX8_crossings 0 = .ok (.aload_n 0, 1) := by decide +kernel
theorem dX8_crossings_1 : decode cX8_crossings 1 = .ok (.getfield 10, 3) := by decide +kernel
theorem dX8_crossings_4 : decode cX8_crossings 4 = .ok (.getfield 64, 3) := by decide +kernel
theorem dX8_crossings_7 : decode cX8_crossings 7 = .ok (.invokevirtual 149, 3) := by decide +kernel
theorem dX8_crossings_10 : decode cX8_crossings 10 = .ok (.ireturn, 1) := by decide +kernel
theorem dX8_crossingsByMerging_0 : decode cX8_crossingsByMerging 0 = .ok (.aload_n 0, 1) := by decide +kernel
theorem dX8_crossingsByMerging_1 : decode cX8_crossingsByMerging 1 = .ok (.getfield 40, 3) := by decide +kernel
theorem dX8_crossingsByMerging_4 : decode cX8_crossingsByMerging 4 = .ok (.aload_n 0, 1) := by decide +kernel
theorem dX8_crossingsByMerging_5 : decode cX8_crossingsByMerging 5 = .ok (.getfield 10, 3) := by decide +kernel
theorem dX8_crossingsByMerging_8 : decode cX8_crossingsByMerging 8 = .ok (.getfield 64, 3) := by decide +kernel
theorem dX8_crossingsByMerging_11 : decode cX8_crossingsByMerging 11 = .ok (.invokevirtual 152, 3) := by decide +kernel
theorem dX8_crossingsByMerging_14 : decode cX8_crossingsByMerging 14 = .ok (.ireturn, 1) := by decide +kernel
theorem dX8_setCapacity_0 : decode cX8_setCapacity 0 = .ok (.aload_n 0, 1) := by decide +kernel
theorem dX8_setCapacity_1 : decode cX8_setCapacity 1 = .ok (.getfield 10, 3) := by decide +kernel
theorem dX8_setCapacity_4 : decode cX8_setCapacity 4 = .ok (.getfield 64, 3) := by decide +kernel
theorem dX8_setCapacity_7 : decode cX8_setCapacity 7 = .ok (.iload_n 1, 1) := by decide +kernel
theorem dX8_setCapacity_8 : decode cX8_setCapacity 8 = .ok (.invokevirtual 156, 3) := by decide +kernel
theorem dX8_setCapacity_11 : decode cX8_setCapacity 11 = .ok (.invokestatic 74, 3) := by decide +kernel
theorem dX8_setCapacity_14 : decode cX8_setCapacity 14 = .ok (.aload_n 0, 1) := by decide +kernel
theorem dX8_setCapacity_15 : decode cX8_setCapacity 15 = .ok (.invokevirtual 78, 3) := by decide +kernel
theorem dX8_setCapacity_18 : decode cX8_setCapacity 18 = .ok (.aload_n 0, 1) := by decide +kernel
theorem dX8_setCapacity_19 : decode cX8_setCapacity 19 = .ok (.getfield 10, 3) := by decide +kernel
theorem dX8_setCapacity_22 : decode cX8_setCapacity 22 = .ok (.getfield 64, 3) := by decide +kernel
theorem dX8_setCapacity_25 : decode cX8_setCapacity 25 = .ok (.iload_n 1, 1) := by decide +kernel
theorem dX8_setCapacity_26 : decode cX8_setCapacity 26 = .ok (.invokevirtual 159, 3) := by decide +kernel
theorem dX8_setCapacity_29 : decode cX8_setCapacity 29 = .ok (.ireturn, 1) := by decide +kernel
theorem dX8_setWind_0 : decode cX8_setWind 0 = .ok (.aload_n 0, 1) := by decide +kernel
theorem dX8_setWind_1 : decode cX8_setWind 1 = .ok (.getfield 10, 3) := by decide +kernel
theorem dX8_setWind_4 : decode cX8_setWind 4 = .ok (.getfield 64, 3) := by decide +kernel
theorem dX8_setWind_7 : decode cX8_setWind 7 = .ok (.iload_n 1, 1) := by decide +kernel
theorem dX8_setWind_8 : decode cX8_setWind 8 = .ok (.invokevirtual 162, 3) := by decide +kernel
theorem dX8_setWind_11 : decode cX8_setWind 11 = .ok (.invokestatic 74, 3) := by decide +kernel
theorem dX8_setWind_14 : decode cX8_setWind 14 = .ok (.aload_n 0, 1) := by decide +kernel
theorem dX8_setWind_15 : decode cX8_setWind 15 = .ok (.invokevirtual 78, 3) := by decide +kernel
theorem dX8_setWind_18 : decode cX8_setWind 18 = .ok (.aload_n 0, 1) := by decide +kernel
theorem dX8_setWind_19 : decode cX8_setWind 19 = .ok (.getfield 10, 3) := by decide +kernel
theorem dX8_setWind_22 : decode cX8_setWind 22 = .ok (.getfield 64, 3) := by decide +kernel
theorem dX8_setWind_25 : decode cX8_setWind 25 = .ok (.iload_n 1, 1) := by decide +kernel
theorem dX8_setWind_26 : decode cX8_setWind 26 = .ok (.invokevirtual 165, 3) := by decide +kernel
theorem dX8_setWind_29 : decode cX8_setWind 29 = .ok (.ireturn, 1) := by decide +kernel
theorem dX8_trim_0 : decode cX8_trim 0 = .ok (.aload_n 0, 1) := by decide +kernel
theorem dX8_trim_1 : decode cX8_trim 1 = .ok (.invokevirtual 78, 3) := by decide +kernel
theorem dX8_trim_4 : decode cX8_trim 4 = .ok (.aload_n 0, 1) := by decide +kernel
theorem dX8_trim_5 : decode cX8_trim 5 = .ok (.getfield 10, 3) := by decide +kernel
theorem dX8_trim_8 : decode cX8_trim 8 = .ok (.getfield 64, 3) := by decide +kernel
theorem dX8_trim_11 : decode cX8_trim 11 = .ok (.invokevirtual 168, 3) := by decide +kernel
theorem dX8_trim_14 : decode cX8_trim 14 = .ok (.ireturn, 1) := by decide +kernel
theorem dX8_capacity_0 : decode cX8_capacity 0 = .ok (.aload_n 0, 1) := by decide +kernel
theorem dX8_capacity_1 : decode cX8_capacity 1 = .ok (.getfield 10, 3) := by decide +kernel
theorem dX8_capacity_4 : decode cX8_capacity 4 = .ok (.getfield 64, 3) := by decide +kernel
theorem dX8_capacity_7 : decode cX8_capacity 7 = .ok (.getfield 171, 3) := by decide +kernel
theorem dX8_capacity_10 : decode cX8_capacity 10 = .ok (.ireturn, 1) := by decide +kernel
theorem dX8_wind_0 : decode cX8_wind 0 = .ok (.aload_n 0, 1) := by decide +kernel
theorem dX8_wind_1 : decode cX8_wind 1 = .ok (.getfield 10, 3) := by decide +kernel
theorem dX8_wind_4 : decode cX8_wind 4 = .ok (.getfield 64, 3) := by decide +kernel
theorem dX8_wind_7 : decode cX8_wind 7 = .ok (.getfield 174, 3) := by decide +kernel
theorem dX8_wind_10 : decode cX8_wind 10 = .ok (.ireturn, 1) := by decide +kernel
theorem dX8_demand_0 : decode cX8_demand 0 = .ok (.aload_n 0, 1) := by decide +kernel
theorem dX8_demand_1 : decode cX8_demand 1 = .ok (.getfield 10, 3) := by decide +kernel
theorem dX8_demand_4 : decode cX8_demand 4 = .ok (.getfield 64, 3) := by decide +kernel
theorem dX8_demand_7 : decode cX8_demand 7 = .ok (.invokevirtual 110, 3) := by decide +kernel
theorem dX8_demand_10 : decode cX8_demand 10 = .ok (.ireturn, 1) := by decide +kernel
theorem dX8_supply_0 : decode cX8_supply 0 = .ok (.aload_n 0, 1) := by decide +kernel
theorem dX8_supply_1 : decode cX8_supply 1 = .ok (.getfield 10, 3) := by decide +kernel
theorem dX8_supply_4 : decode cX8_supply 4 = .ok (.getfield 64, 3) := by decide +kernel
theorem dX8_supply_7 : decode cX8_supply 7 = .ok (.aload_n 0, 1) := by decide +kernel
theorem dX8_supply_8 : decode cX8_supply 8 = .ok (.getfield 10, 3) := by decide +kernel
theorem dX8_supply_11 : decode cX8_supply 11 = .ok (.getfield 64, 3) := by decide +kernel
theorem dX8_supply_14 : decode cX8_supply 14 = .ok (.invokevirtual 110, 3) := by decide +kernel
theorem dX8_supply_17 : decode cX8_supply 17 = .ok (.invokevirtual 177, 3) := by decide +kernel
theorem dX8_supply_20 : decode cX8_supply 20 = .ok (.ireturn, 1) := by decide +kernel
theorem dX8_pumped_0 : decode cX8_pumped 0 = .ok (.aload_n 0, 1) := by decide +kernel
theorem dX8_pumped_1 : decode cX8_pumped 1 = .ok (.getfield 10, 3) := by decide +kernel
theorem dX8_pumped_4 : decode cX8_pumped 4 = .ok (.getfield 180, 3) := by decide +kernel
theorem dX8_pumped_7 : decode cX8_pumped 7 = .ok (.lreturn, 1) := by decide +kernel
theorem dX8_shortage_0 : decode cX8_shortage 0 = .ok (.aload_n 0, 1) := by decide +kernel
theorem dX8_shortage_1 : decode cX8_shortage 1 = .ok (.getfield 10, 3) := by decide +kernel
theorem dX8_shortage_4 : decode cX8_shortage 4 = .ok (.getfield 184, 3) := by decide +kernel
theorem dX8_shortage_7 : decode cX8_shortage 7 = .ok (.lreturn, 1) := by decide +kernel
theorem dX8_addFigure_0 : decode cX8_addFigure 0 = .ok (.aload_n 0, 1) := by decide +kernel
theorem dX8_addFigure_1 : decode cX8_addFigure 1 = .ok (.getfield 10, 3) := by decide +kernel
theorem dX8_addFigure_4 : decode cX8_addFigure 4 = .ok (.getfield 187, 3) := by decide +kernel
theorem dX8_addFigure_7 : decode cX8_addFigure 7 = .ok (.invokevirtual 191, 3) := by decide +kernel
theorem dX8_addFigure_10 : decode cX8_addFigure 10 = .ok (.invokestatic 74, 3) := by decide +kernel
theorem dX8_addFigure_13 : decode cX8_addFigure 13 = .ok (.aload_n 0, 1) := by decide +kernel
theorem dX8_addFigure_14 : decode cX8_addFigure 14 = .ok (.invokevirtual 78, 3) := by decide +kernel
theorem dX8_addFigure_17 : decode cX8_addFigure 17 = .ok (.aload_n 0, 1) := by decide +kernel
theorem dX8_addFigure_18 : decode cX8_addFigure 18 = .ok (.getfield 10, 3) := by decide +kernel
theorem dX8_addFigure_21 : decode cX8_addFigure 21 = .ok (.getfield 187, 3) := by decide +kernel
theorem dX8_addFigure_24 : decode cX8_addFigure 24 = .ok (.invokevirtual 196, 3) := by decide +kernel
theorem dX8_addFigure_27 : decode cX8_addFigure 27 = .ok (.ireturn, 1) := by decide +kernel
theorem dX8_removeFigure_0 : decode cX8_removeFigure 0 = .ok (.aload_n 0, 1) := by decide +kernel
theorem dX8_removeFigure_1 : decode cX8_removeFigure 1 = .ok (.getfield 10, 3) := by decide +kernel
theorem dX8_removeFigure_4 : decode cX8_removeFigure 4 = .ok (.iload_n 1, 1) := by decide +kernel
theorem dX8_removeFigure_5 : decode cX8_removeFigure 5 = .ok (.invokevirtual 198, 3) := by decide +kernel
theorem dX8_removeFigure_8 : decode cX8_removeFigure 8 = .ok (.invokestatic 74, 3) := by decide +kernel
theorem dX8_removeFigure_11 : decode cX8_removeFigure 11 = .ok (.aload_n 0, 1) := by decide +kernel
theorem dX8_removeFigure_12 : decode cX8_removeFigure 12 = .ok (.invokevirtual 78, 3) := by decide +kernel
theorem dX8_removeFigure_15 : decode cX8_removeFigure 15 = .ok (.aload_n 0, 1) := by decide +kernel
theorem dX8_removeFigure_16 : decode cX8_removeFigure 16 = .ok (.getfield 10, 3) := by decide +kernel
theorem dX8_removeFigure_19 : decode cX8_removeFigure 19 = .ok (.iload_n 1, 1) := by decide +kernel
theorem dX8_removeFigure_20 : decode cX8_removeFigure 20 = .ok (.invokevirtual 201, 3) := by decide +kernel
theorem dX8_removeFigure_23 : decode cX8_removeFigure 23 = .ok (.ireturn, 1) := by decide +kernel
theorem dX8_addStep_0 : decode cX8_addStep 0 = .ok (.aload_n 0, 1) := by decide +kernel
theorem dX8_addStep_1 : decode cX8_addStep 1 = .ok (.getfield 10, 3) := by decide +kernel
theorem dX8_addStep_4 : decode cX8_addStep 4 = .ok (.iload_n 1, 1) := by decide +kernel
theorem dX8_addStep_5 : decode cX8_addStep 5 = .ok (.iload_n 2, 1) := by decide +kernel
theorem dX8_addStep_6 : decode cX8_addStep 6 = .ok (.iload_n 3, 1) := by decide +kernel
theorem dX8_addStep_7 : decode cX8_addStep 7 = .ok (.iload 4, 2) := by decide +kernel
theorem dX8_addStep_9 : decode cX8_addStep 9 = .ok (.invokevirtual 204, 3) := by decide +kernel
theorem dX8_addStep_12 : decode cX8_addStep 12 = .ok (.invokestatic 74, 3) := by decide +kernel
theorem dX8_addStep_15 : decode cX8_addStep 15 = .ok (.aload_n 0, 1) := by decide +kernel
theorem dX8_addStep_16 : decode cX8_addStep 16 = .ok (.invokevirtual 78, 3) := by decide +kernel
theorem dX8_addStep_19 : decode cX8_addStep 19 = .ok (.aload_n 0, 1) := by decide +kernel
theorem dX8_addStep_20 : decode cX8_addStep 20 = .ok (.getfield 10, 3) := by decide +kernel
theorem dX8_addStep_23 : decode cX8_addStep 23 = .ok (.getfield 187, 3) := by decide +kernel
theorem dX8_addStep_26 : decode cX8_addStep 26 = .ok (.iload_n 1, 1) := by decide +kernel
theorem dX8_addStep_27 : decode cX8_addStep 27 = .ok (.iload_n 2, 1) := by decide +kernel
theorem dX8_addStep_28 : decode cX8_addStep 28 = .ok (.iload_n 3, 1) := by decide +kernel
theorem dX8_addStep_29 : decode cX8_addStep 29 = .ok (.iload 4, 2) := by decide +kernel
theorem dX8_addStep_31 : decode cX8_addStep 31 = .ok (.invokevirtual 208, 3) := by decide +kernel
theorem dX8_addStep_34 : decode cX8_addStep 34 = .ok (.ireturn, 1) := by decide +kernel
theorem dX8_removeStep_0 : decode cX8_removeStep 0 = .ok (.aload_n 0, 1) := by decide +kernel
theorem dX8_removeStep_1 : decode cX8_removeStep 1 = .ok (.iload_n 1, 1) := by decide +kernel
theorem dX8_removeStep_2 : decode cX8_removeStep 2 = .ok (.iload_n 2, 1) := by decide +kernel
theorem dX8_removeStep_3 : decode cX8_removeStep 3 = .ok (.invokevirtual 212, 3) := by decide +kernel
theorem dX8_removeStep_6 : decode cX8_removeStep 6 = .ok (.aload_n 0, 1) := by decide +kernel
theorem dX8_removeStep_7 : decode cX8_removeStep 7 = .ok (.invokevirtual 78, 3) := by decide +kernel
theorem dX8_removeStep_10 : decode cX8_removeStep 10 = .ok (.aload_n 0, 1) := by decide +kernel
theorem dX8_removeStep_11 : decode cX8_removeStep 11 = .ok (.getfield 10, 3) := by decide +kernel
theorem dX8_removeStep_14 : decode cX8_removeStep 14 = .ok (.getfield 187, 3) := by decide +kernel
theorem dX8_removeStep_17 : decode cX8_removeStep 17 = .ok (.iload_n 1, 1) := by decide +kernel
theorem dX8_removeStep_18 : decode cX8_removeStep 18 = .ok (.iload_n 2, 1) := by decide +kernel
theorem dX8_removeStep_19 : decode cX8_removeStep 19 = .ok (.invokevirtual 216, 3) := by decide +kernel
theorem dX8_removeStep_22 : decode cX8_removeStep 22 = .ok (.ireturn, 1) := by decide +kernel
theorem dX8_figureCount_0 : decode cX8_figureCount 0 = .ok (.aload_n 0, 1) := by decide +kernel
theorem dX8_figureCount_1 : decode cX8_figureCount 1 = .ok (.getfield 10, 3) := by decide +kernel
theorem dX8_figureCount_4 : decode cX8_figureCount 4 = .ok (.getfield 187, 3) := by decide +kernel
theorem dX8_figureCount_7 : decode cX8_figureCount 7 = .ok (.getfield 219, 3) := by decide +kernel
theorem dX8_figureCount_10 : decode cX8_figureCount 10 = .ok (.ireturn, 1) := by decide +kernel
theorem dX8_stepCount_0 : decode cX8_stepCount 0 = .ok (.aload_n 0, 1) := by decide +kernel
theorem dX8_stepCount_1 : decode cX8_stepCount 1 = .ok (.iload_n 1, 1) := by decide +kernel
theorem dX8_stepCount_2 : decode cX8_stepCount 2 = .ok (.invokevirtual 220, 3) := by decide +kernel
theorem dX8_stepCount_5 : decode cX8_stepCount 5 = .ok (.aload_n 0, 1) := by decide +kernel
theorem dX8_stepCount_6 : decode cX8_stepCount 6 = .ok (.getfield 10, 3) := by decide +kernel
theorem dX8_stepCount_9 : decode cX8_stepCount 9 = .ok (.getfield 187, 3) := by decide +kernel
theorem dX8_stepCount_12 : decode cX8_stepCount 12 = .ok (.getfield 223, 3) := by decide +kernel
theorem dX8_stepCount_15 : decode cX8_stepCount 15 = .ok (.iload_n 1, 1) := by decide +kernel
theorem dX8_stepCount_16 : decode cX8_stepCount 16 = .ok (.iaload, 1) := by decide +kernel
theorem dX8_stepCount_17 : decode cX8_stepCount 17 = .ok (.ireturn, 1) := by decide +kernel
theorem dX8_stepDelay_0 : decode cX8_stepDelay 0 = .ok (.aload_n 0, 1) := by decide +kernel
theorem dX8_stepDelay_1 : decode cX8_stepDelay 1 = .ok (.iload_n 1, 1) := by decide +kernel
theorem dX8_stepDelay_2 : decode cX8_stepDelay 2 = .ok (.iload_n 2, 1) := by decide +kernel
theorem dX8_stepDelay_3 : decode cX8_stepDelay 3 = .ok (.invokevirtual 212, 3) := by decide +kernel
theorem dX8_stepDelay_6 : decode cX8_stepDelay 6 = .ok (.aload_n 0, 1) := by decide +kernel
theorem dX8_stepDelay_7 : decode cX8_stepDelay 7 = .ok (.getfield 10, 3) := by decide +kernel
theorem dX8_stepDelay_10 : decode cX8_stepDelay 10 = .ok (.getfield 187, 3) := by decide +kernel
theorem dX8_stepDelay_13 : decode cX8_stepDelay 13 = .ok (.getfield 226, 3) := by decide +kernel
theorem dX8_stepDelay_16 : decode cX8_stepDelay 16 = .ok (.iload_n 1, 1) := by decide +kernel
theorem dX8_stepDelay_17 : decode cX8_stepDelay 17 = .ok (.iload_n 2, 1) := by decide +kernel
theorem dX8_stepDelay_18 : decode cX8_stepDelay 18 = .ok (.invokestatic 229, 3) := by decide +kernel
theorem dX8_stepDelay_21 : decode cX8_stepDelay 21 = .ok (.iaload, 1) := by decide +kernel
theorem dX8_stepDelay_22 : decode cX8_stepDelay 22 = .ok (.ireturn, 1) := by decide +kernel
theorem dX8_stepJet_0 : decode cX8_stepJet 0 = .ok (.aload_n 0, 1) := by decide +kernel
theorem dX8_stepJet_1 : decode cX8_stepJet 1 = .ok (.iload_n 1, 1) := by decide +kernel
theorem dX8_stepJet_2 : decode cX8_stepJet 2 = .ok (.iload_n 2, 1) := by decide +kernel
theorem dX8_stepJet_3 : decode cX8_stepJet 3 = .ok (.invokevirtual 212, 3) := by decide +kernel
theorem dX8_stepJet_6 : decode cX8_stepJet 6 = .ok (.aload_n 0, 1) := by decide +kernel
theorem dX8_stepJet_7 : decode cX8_stepJet 7 = .ok (.getfield 10, 3) := by decide +kernel
theorem dX8_stepJet_10 : decode cX8_stepJet 10 = .ok (.getfield 187, 3) := by decide +kernel
theorem dX8_stepJet_13 : decode cX8_stepJet 13 = .ok (.getfield 232, 3) := by decide +kernel
theorem dX8_stepJet_16 : decode cX8_stepJet 16 = .ok (.iload_n 1, 1) := by decide +kernel
theorem dX8_stepJet_17 : decode cX8_stepJet 17 = .ok (.iload_n 2, 1) := by decide +kernel
theorem dX8_stepJet_18 : decode cX8_stepJet 18 = .ok (.invokestatic 229, 3) := by decide +kernel
theorem dX8_stepJet_21 : decode cX8_stepJet 21 = .ok (.iaload, 1) := by decide +kernel
theorem dX8_stepJet_22 : decode cX8_stepJet 22 = .ok (.ireturn, 1) := by decide +kernel
theorem dX8_stepOpening_0 : decode cX8_stepOpening 0 = .ok (.aload_n 0, 1) := by decide +kernel
theorem dX8_stepOpening_1 : decode cX8_stepOpening 1 = .ok (.iload_n 1, 1) := by decide +kernel
theorem dX8_stepOpening_2 : decode cX8_stepOpening 2 = .ok (.iload_n 2, 1) := by decide +kernel
theorem dX8_stepOpening_3 : decode cX8_stepOpening 3 = .ok (.invokevirtual 212, 3) := by decide +kernel
theorem dX8_stepOpening_6 : decode cX8_stepOpening 6 = .ok (.aload_n 0, 1) := by decide +kernel
theorem dX8_stepOpening_7 : decode cX8_stepOpening 7 = .ok (.getfield 10, 3) := by decide +kernel
theorem dX8_stepOpening_10 : decode cX8_stepOpening 10 = .ok (.getfield 187, 3) := by decide +kernel
theorem dX8_stepOpening_13 : decode cX8_stepOpening 13 = .ok (.getfield 234, 3) := by decide +kernel
theorem dX8_stepOpening_16 : decode cX8_stepOpening 16 = .ok (.iload_n 1, 1) := by decide +kernel
theorem dX8_stepOpening_17 : decode cX8_stepOpening 17 = .ok (.iload_n 2, 1) := by decide +kernel
theorem dX8_stepOpening_18 : decode cX8_stepOpening 18 = .ok (.invokestatic 229, 3) := by decide +kernel
theorem dX8_stepOpening_21 : decode cX8_stepOpening 21 = .ok (.iaload, 1) := by decide +kernel
theorem dX8_stepOpening_22 : decode cX8_stepOpening 22 = .ok (.ireturn, 1) := by decide +kernel
theorem dX8_figureLength_0 : decode cX8_figureLength 0 = .ok (.aload_n 0, 1) := by decide +kernel
theorem dX8_figureLength_1 : decode cX8_figureLength 1 = .ok (.iload_n 1, 1) := by decide +kernel
theorem dX8_figureLength_2 : decode cX8_figureLength 2 = .ok (.invokevirtual 220, 3) := by decide +kernel
theorem dX8_figureLength_5 : decode cX8_figureLength 5 = .ok (.aload_n 0, 1) := by decide +kernel
theorem dX8_figureLength_6 : decode cX8_figureLength 6 = .ok (.getfield 10, 3) := by decide +kernel
theorem dX8_figureLength_9 : decode cX8_figureLength 9 = .ok (.getfield 187, 3) := by decide +kernel
theorem dX8_figureLength_12 : decode cX8_figureLength 12 = .ok (.iload_n 1, 1) := by decide +kernel
theorem dX8_figureLength_13 : decode cX8_figureLength 13 = .ok (.invokevirtual 235, 3) := by decide +kernel
theorem dX8_figureLength_16 : decode cX8_figureLength 16 = .ok (.ireturn, 1) := by decide +kernel
theorem dX8_figuresUsing_0 : decode cX8_figuresUsing 0 = .ok (.aload_n 0, 1) := by decide +kernel
theorem dX8_figuresUsing_1 : decode cX8_figuresUsing 1 = .ok (.iload_n 1, 1) := by decide +kernel
theorem dX8_figuresUsing_2 : decode cX8_figuresUsing 2 = .ok (.invokevirtual 85, 3) := by decide +kernel
theorem dX8_figuresUsing_5 : decode cX8_figuresUsing 5 = .ok (.aload_n 0, 1) := by decide +kernel
theorem dX8_figuresUsing_6 : decode cX8_figuresUsing 6 = .ok (.getfield 10, 3) := by decide +kernel
theorem dX8_figuresUsing_9 : decode cX8_figuresUsing 9 = .ok (.getfield 187, 3) := by decide +kernel
theorem dX8_figuresUsing_12 : decode cX8_figuresUsing 12 = .ok (.iload_n 1, 1) := by decide +kernel
theorem dX8_figuresUsing_13 : decode cX8_figuresUsing 13 = .ok (.invokevirtual 238, 3) := by decide +kernel
theorem dX8_figuresUsing_16 : decode cX8_figuresUsing 16 = .ok (.ireturn, 1) := by decide +kernel
theorem dX8_play_0 : decode cX8_play 0 = .ok (.aload_n 0, 1) := by decide +kernel
theorem dX8_play_1 : decode cX8_play 1 = .ok (.getfield 10, 3) := by decide +kernel
theorem dX8_play_4 : decode cX8_play 4 = .ok (.iload_n 1, 1) := by decide +kernel
theorem dX8_play_5 : decode cX8_play 5 = .ok (.iload_n 2, 1) := by decide +kernel
theorem dX8_play_6 : decode cX8_play 6 = .ok (.invokevirtual 241, 3) := by decide +kernel
theorem dX8_play_9 : decode cX8_play 9 = .ok (.invokestatic 74, 3) := by decide +kernel
theorem dX8_play_12 : decode cX8_play 12 = .ok (.aload_n 0, 1) := by decide +kernel
theorem dX8_play_13 : decode cX8_play 13 = .ok (.invokevirtual 78, 3) := by decide +kernel
theorem dX8_play_16 : decode cX8_play 16 = .ok (.aload_n 0, 1) := by decide +kernel
theorem dX8_play_17 : decode cX8_play 17 = .ok (.getfield 10, 3) := by decide +kernel
theorem dX8_play_20 : decode cX8_play 20 = .ok (.iload_n 1, 1) := by decide +kernel
theorem dX8_play_21 : decode cX8_play 21 = .ok (.iload_n 2, 1) := by decide +kernel
theorem dX8_play_22 : decode cX8_play 22 = .ok (.invokevirtual 244, 3) := by decide +kernel
theorem dX8_play_25 : decode cX8_play 25 = .ok (.ireturn, 1) := by decide +kernel
theorem dX8_cancel_0 : decode cX8_cancel 0 = .ok (.aload_n 0, 1) := by decide +kernel
theorem dX8_cancel_1 : decode cX8_cancel 1 = .ok (.iload_n 1, 1) := by decide +kernel
theorem dX8_cancel_2 : decode cX8_cancel 2 = .ok (.invokevirtual 247, 3) := by decide +kernel
theorem dX8_cancel_5 : decode cX8_cancel 5 = .ok (.aload_n 0, 1) := by decide +kernel
theorem dX8_cancel_6 : decode cX8_cancel 6 = .ok (.invokevirtual 78, 3) := by decide +kernel
theorem dX8_cancel_9 : decode cX8_cancel 9 = .ok (.aload_n 0, 1) := by decide +kernel
theorem dX8_cancel_10 : decode cX8_cancel 10 = .ok (.getfield 10, 3) := by decide +kernel
theorem dX8_cancel_13 : decode cX8_cancel 13 = .ok (.iload_n 1, 1) := by decide +kernel
theorem dX8_cancel_14 : decode cX8_cancel 14 = .ok (.invokevirtual 250, 3) := by decide +kernel
theorem dX8_cancel_17 : decode cX8_cancel 17 = .ok (.ireturn, 1) := by decide +kernel
theorem dX8_pass_0 : decode cX8_pass 0 = .ok (.aload_n 0, 1) := by decide +kernel
theorem dX8_pass_1 : decode cX8_pass 1 = .ok (.getfield 10, 3) := by decide +kernel
theorem dX8_pass_4 : decode cX8_pass 4 = .ok (.iload_n 1, 1) := by decide +kernel
theorem dX8_pass_5 : decode cX8_pass 5 = .ok (.invokevirtual 253, 3) := by decide +kernel
theorem dX8_pass_8 : decode cX8_pass 8 = .ok (.invokestatic 74, 3) := by decide +kernel
theorem dX8_pass_11 : decode cX8_pass 11 = .ok (.aload_n 0, 1) := by decide +kernel
theorem dX8_pass_12 : decode cX8_pass 12 = .ok (.invokevirtual 78, 3) := by decide +kernel
theorem dX8_pass_15 : decode cX8_pass 15 = .ok (.aload_n 0, 1) := by decide +kernel
theorem dX8_pass_16 : decode cX8_pass 16 = .ok (.getfield 10, 3) := by decide +kernel
theorem dX8_pass_19 : decode cX8_pass 19 = .ok (.iload_n 1, 1) := by decide +kernel
theorem dX8_pass_20 : decode cX8_pass 20 = .ok (.invokevirtual 256, 3) := by decide +kernel
theorem dX8_pass_23 : decode cX8_pass 23 = .ok (.ireturn, 1) := by decide +kernel
theorem dX8_beat_0 : decode cX8_beat 0 = .ok (.aload_n 0, 1) := by decide +kernel
theorem dX8_beat_1 : decode cX8_beat 1 = .ok (.getfield 10, 3) := by decide +kernel
theorem dX8_beat_4 : decode cX8_beat 4 = .ok (.getfield 259, 3) := by decide +kernel
theorem dX8_beat_7 : decode cX8_beat 7 = .ok (.ireturn, 1) := by decide +kernel
theorem dX8_queueLength_0 : decode cX8_queueLength 0 = .ok (.aload_n 0, 1) := by decide +kernel
theorem dX8_queueLength_1 : decode cX8_queueLength 1 = .ok (.getfield 10, 3) := by decide +kernel
theorem dX8_queueLength_4 : decode cX8_queueLength 4 = .ok (.getfield 262, 3) := by decide +kernel
theorem dX8_queueLength_7 : decode cX8_queueLength 7 = .ok (.ireturn, 1) := by decide +kernel
theorem dX8_entryFigure_0 : decode cX8_entryFigure 0 = .ok (.aload_n 0, 1) := by decide +kernel
theorem dX8_entryFigure_1 : decode cX8_entryFigure 1 = .ok (.iload_n 1, 1) := by decide +kernel
theorem dX8_entryFigure_2 : decode cX8_entryFigure 2 = .ok (.invokevirtual 247, 3) := by decide +kernel
theorem dX8_entryFigure_5 : decode cX8_entryFigure 5 = .ok (.aload_n 0, 1) := by decide +kernel
theorem dX8_entryFigure_6 : decode cX8_entryFigure 6 = .ok (.getfield 10, 3) := by decide +kernel
theorem dX8_entryFigure_9 : decode cX8_entryFigure 9 = .ok (.getfield 265, 3) := by decide +kernel
theorem dX8_entryFigure_12 : decode cX8_entryFigure 12 = .ok (.iload_n 1, 1) := by decide +kernel
theorem dX8_entryFigure_13 : decode cX8_entryFigure 13 = .ok (.iaload, 1) := by decide +kernel
theorem dX8_entryFigure_14 : decode cX8_entryFigure 14 = .ok (.ireturn, 1) := by decide +kernel
theorem dX8_entryStart_0 : decode cX8_entryStart 0 = .ok (.aload_n 0, 1) := by decide +kernel
theorem dX8_entryStart_1 : decode cX8_entryStart 1 = .ok (.iload_n 1, 1) := by decide +kernel
theorem dX8_entryStart_2 : decode cX8_entryStart 2 = .ok (.invokevirtual 247, 3) := by decide +kernel
theorem dX8_entryStart_5 : decode cX8_entryStart 5 = .ok (.aload_n 0, 1) := by decide +kernel
theorem dX8_entryStart_6 : decode cX8_entryStart 6 = .ok (.getfield 10, 3) := by decide +kernel
theorem dX8_entryStart_9 : decode cX8_entryStart 9 = .ok (.getfield 268, 3) := by decide +kernel
theorem dX8_entryStart_12 : decode cX8_entryStart 12 = .ok (.iload_n 1, 1) := by decide +kernel
theorem dX8_entryStart_13 : decode cX8_entryStart 13 = .ok (.iaload, 1) := by decide +kernel
theorem dX8_entryStart_14 : decode cX8_entryStart 14 = .ok (.ireturn, 1) := by decide +kernel
theorem dX8_beatsUntilEmpty_0 : decode cX8_beatsUntilEmpty 0 = .ok (.aload_n 0, 1) := by decide +kernel
theorem dX8_beatsUntilEmpty_1 : decode cX8_beatsUntilEmpty 1 = .ok (.getfield 10, 3) := by decide +kernel
theorem dX8_beatsUntilEmpty_4 : decode cX8_beatsUntilEmpty 4 = .ok (.invokevirtual 271, 3) := by decide +kernel
theorem dX8_beatsUntilEmpty_7 : decode cX8_beatsUntilEmpty 7 = .ok (.ireturn, 1) := by decide +kernel
theorem dX8_demandAfter_0 : decode cX8_demandAfter 0 = .ok (.iload_n 1, 1) := by decide +kernel
theorem dX8_demandAfter_1 : decode cX8_demandAfter 1 = .ok (.invokestatic 274, 3) := by decide +kernel
theorem dX8_demandAfter_4 : decode cX8_demandAfter 4 = .ok (.aload_n 0, 1) := by decide +kernel
theorem dX8_demandAfter_5 : decode cX8_demandAfter 5 = .ok (.getfield 16, 3) := by decide +kernel
theorem dX8_demandAfter_8 : decode cX8_demandAfter 8 = .ok (.aload_n 0, 1) := by decide +kernel
theorem dX8_demandAfter_9 : decode cX8_demandAfter 9 = .ok (.getfield 10, 3) := by decide +kernel
theorem dX8_demandAfter_12 : decode cX8_demandAfter 12 = .ok (.invokevirtual 277, 3) := by decide +kernel
theorem dX8_demandAfter_15 : decode cX8_demandAfter 15 = .ok (.aload_n 0, 1) := by decide +kernel
theorem dX8_demandAfter_16 : decode cX8_demandAfter 16 = .ok (.getfield 16, 3) := by decide +kernel
theorem dX8_demandAfter_19 : decode cX8_demandAfter 19 = .ok (.iload_n 1, 1) := by decide +kernel
theorem dX8_demandAfter_20 : decode cX8_demandAfter 20 = .ok (.invokevirtual 256, 3) := by decide +kernel
theorem dX8_demandAfter_23 : decode cX8_demandAfter 23 = .ok (.pop, 1) := by decide +kernel
theorem dX8_demandAfter_24 : decode cX8_demandAfter 24 = .ok (.aload_n 0, 1) := by decide +kernel
theorem dX8_demandAfter_25 : decode cX8_demandAfter 25 = .ok (.getfield 16, 3) := by decide +kernel
theorem dX8_demandAfter_28 : decode cX8_demandAfter 28 = .ok (.getfield 64, 3) := by decide +kernel
theorem dX8_demandAfter_31 : decode cX8_demandAfter 31 = .ok (.invokevirtual 110, 3) := by decide +kernel
theorem dX8_demandAfter_34 : decode cX8_demandAfter 34 = .ok (.ireturn, 1) := by decide +kernel
theorem dX8_demandAfterBySteps_0 : decode cX8_demandAfterBySteps 0 = .ok (.iload_n 1, 1) := by decide +kernel
theorem dX8_demandAfterBySteps_1 : decode cX8_demandAfterBySteps 1 = .ok (.invokestatic 274, 3) := by decide +kernel
theorem dX8_demandAfterBySteps_4 : decode cX8_demandAfterBySteps 4 = .ok (.aload_n 0, 1) := by decide +kernel
theorem dX8_demandAfterBySteps_5 : decode cX8_demandAfterBySteps 5 = .ok (.getfield 10, 3) := by decide +kernel
theorem dX8_demandAfterBySteps_8 : decode cX8_demandAfterBySteps 8 = .ok (.iload_n 1, 1) := by decide +kernel
theorem dX8_demandAfterBySteps_9 : decode cX8_demandAfterBySteps 9 = .ok (.invokevirtual 281, 3) := by decide +kernel
theorem dX8_demandAfterBySteps_12 : decode cX8_demandAfterBySteps 12 = .ok (.ireturn, 1) := by decide +kernel
theorem dX8_firstOverload_0 : decode cX8_firstOverload 0 = .ok (.iload_n 1, 1) := by decide +kernel
theorem dX8_firstOverload_1 : decode cX8_firstOverload 1 = .ok (.invokestatic 274, 3) := by decide +kernel
theorem dX8_firstOverload_4 : decode cX8_firstOverload 4 = .ok (.aload_n 0, 1) := by decide +kernel
theorem dX8_firstOverload_5 : decode cX8_firstOverload 5 = .ok (.getfield 16, 3) := by decide +kernel
theorem dX8_firstOverload_8 : decode cX8_firstOverload 8 = .ok (.aload_n 0, 1) := by decide +kernel
theorem dX8_firstOverload_9 : decode cX8_firstOverload 9 = .ok (.getfield 10, 3) := by decide +kernel
theorem dX8_firstOverload_12 : decode cX8_firstOverload 12 = .ok (.invokevirtual 277, 3) := by decide +kernel
theorem dX8_firstOverload_15 : decode cX8_firstOverload 15 = .ok (.iconst 1, 1) := by decide +kernel
theorem dX8_firstOverload_16 : decode cX8_firstOverload 16 = .ok (.istore_n 2, 1) := by decide +kernel
theorem dX8_firstOverload_17 : decode cX8_firstOverload 17 = .ok (.iload_n 2, 1) := by decide +kernel
theorem dX8_firstOverload_18 : decode cX8_firstOverload 18 = .ok (.iload_n 1, 1) := by decide +kernel
theorem dX8_firstOverload_19 : decode cX8_firstOverload 19 = .ok (.if_icmp .gt 42, 3) := by decide +kernel
theorem dX8_firstOverload_22 : decode cX8_firstOverload 22 = .ok (.aload_n 0, 1) := by decide +kernel
theorem dX8_firstOverload_23 : decode cX8_firstOverload 23 = .ok (.getfield 16, 3) := by decide +kernel
theorem dX8_firstOverload_26 : decode cX8_firstOverload 26 = .ok (.invokevirtual 284, 3) := by decide +kernel
theorem dX8_firstOverload_29 : decode cX8_firstOverload 29 = .ok (.pop, 1) := by decide +kernel
theorem dX8_firstOverload_30 : decode cX8_firstOverload 30 = .ok (.aload_n 0, 1) := by decide +kernel
theorem dX8_firstOverload_31 : decode cX8_firstOverload 31 = .ok (.getfield 16, 3) := by decide +kernel
theorem dX8_firstOverload_34 : decode cX8_firstOverload 34 = .ok (.getfield 64, 3) := by decide +kernel
theorem dX8_firstOverload_37 : decode cX8_firstOverload 37 = .ok (.invokevirtual 110, 3) := by decide +kernel
theorem dX8_firstOverload_40 : decode cX8_firstOverload 40 = .ok (.aload_n 0, 1) := by decide +kernel
theorem dX8_firstOverload_41 : decode cX8_firstOverload 41 = .ok (.getfield 16, 3) := by decide +kernel
theorem dX8_firstOverload_44 : decode cX8_firstOverload 44 = .ok (.getfield 64, 3) := by decide +kernel
theorem dX8_firstOverload_47 : decode cX8_firstOverload 47 = .ok (.getfield 171, 3) := by decide +kernel
theorem dX8_firstOverload_50 : decode cX8_firstOverload 50 = .ok (.if_icmp .le 5, 3) := by decide +kernel
theorem dX8_firstOverload_53 : decode cX8_firstOverload 53 = .ok (.iload_n 2, 1) := by decide +kernel
theorem dX8_firstOverload_54 : decode cX8_firstOverload 54 = .ok (.ireturn, 1) := by decide +kernel
theorem dX8_firstOverload_55 : decode cX8_firstOverload 55 = .ok (.iinc 2 1, 3) := by decide +kernel
theorem dX8_firstOverload_58 : decode cX8_firstOverload 58 = .ok (.goto (-41), 3) := by decide +kernel
theorem dX8_firstOverload_61 : decode cX8_firstOverload 61 = .ok (.new 136, 3) := by decide +kernel
theorem dX8_firstOverload_64 : decode cX8_firstOverload 64 = .ok (.dup, 1) := by decide +kernel
theorem dX8_firstOverload_65 : decode cX8_firstOverload 65 = .ok (.ldc_w 287, 3) := by decide +kernel
theorem dX8_firstOverload_68 : decode cX8_firstOverload 68 = .ok (.invokespecial 140, 3) := by decide +kernel
theorem dX8_firstOverload_71 : decode cX8_firstOverload 71 = .ok (.athrow, 1) := by decide +kernel
theorem dX8_meanOpening_0 : decode cX8_meanOpening 0 = .ok (.aload_n 0, 1) := by decide +kernel
theorem dX8_meanOpening_1 : decode cX8_meanOpening 1 = .ok (.getfield 10, 3) := by decide +kernel
theorem dX8_meanOpening_4 : decode cX8_meanOpening 4 = .ok (.getfield 64, 3) := by decide +kernel
theorem dX8_meanOpening_7 : decode cX8_meanOpening 7 = .ok (.getfield 100, 3) := by decide +kernel
theorem dX8_meanOpening_10 : decode cX8_meanOpening 10 = .ok (.istore_n 1, 1) := by decide +kernel
theorem dX8_meanOpening_11 : decode cX8_meanOpening 11 = .ok (.iload_n 1, 1) := by decide +kernel
theorem dX8_meanOpening_12 : decode cX8_meanOpening 12 = .ok (.ifCond .ne 14, 3) := by decide +kernel
theorem dX8_meanOpening_15 : decode cX8_meanOpening 15 = .ok (.new 289, 3) := by decide +kernel
theorem dX8_meanOpening_18 : decode cX8_meanOpening 18 = .ok (.dup, 1) := by decide +kernel
theorem dX8_meanOpening_19 : decode cX8_meanOpening 19 = .ok (.ldc_w 291, 3) := by decide +kernel
theorem dX8_meanOpening_22 : decode cX8_meanOpening 22 = .ok (.invokespecial 293, 3) := by decide +kernel
theorem dX8_meanOpening_25 : decode cX8_meanOpening 25 = .ok (.athrow, 1) := by decide +kernel
theorem dX8_meanOpening_26 : decode cX8_meanOpening 26 = .ok (.aload_n 0, 1) := by decide +kernel
theorem dX8_meanOpening_27 : decode cX8_meanOpening 27 = .ok (.getfield 10, 3) := by decide +kernel
theorem dX8_meanOpening_30 : decode cX8_meanOpening 30 = .ok (.getfield 64, 3) := by decide +kernel
theorem dX8_meanOpening_33 : decode cX8_meanOpening 33 = .ok (.invokevirtual 110, 3) := by decide +kernel
theorem dX8_meanOpening_36 : decode cX8_meanOpening 36 = .ok (.i2d, 1) := by decide +kernel
theorem dX8_meanOpening_37 : decode cX8_meanOpening 37 = .ok (.iload_n 1, 1) := by decide +kernel
theorem dX8_meanOpening_38 : decode cX8_meanOpening 38 = .ok (.i2d, 1) := by decide +kernel
theorem dX8_meanOpening_39 : decode cX8_meanOpening 39 = .ok (.ddiv, 1) := by decide +kernel
theorem dX8_meanOpening_40 : decode cX8_meanOpening 40 = .ok (.dreturn, 1) := by decide +kernel
theorem dX8_supplyFraction_0 : decode cX8_supplyFraction 0 = .ok (.aload_n 0, 1) := by decide +kernel
theorem dX8_supplyFraction_1 : decode cX8_supplyFraction 1 = .ok (.getfield 10, 3) := by decide +kernel
theorem dX8_supplyFraction_4 : decode cX8_supplyFraction 4 = .ok (.getfield 64, 3) := by decide +kernel
theorem dX8_supplyFraction_7 : decode cX8_supplyFraction 7 = .ok (.invokevirtual 110, 3) := by decide +kernel
theorem dX8_supplyFraction_10 : decode cX8_supplyFraction 10 = .ok (.istore_n 1, 1) := by decide +kernel
theorem dX8_supplyFraction_11 : decode cX8_supplyFraction 11 = .ok (.iload_n 1, 1) := by decide +kernel
theorem dX8_supplyFraction_12 : decode cX8_supplyFraction 12 = .ok (.ifCond .ne 14, 3) := by decide +kernel
theorem dX8_supplyFraction_15 : decode cX8_supplyFraction 15 = .ok (.new 289, 3) := by decide +kernel
theorem dX8_supplyFraction_18 : decode cX8_supplyFraction 18 = .ok (.dup, 1) := by decide +kernel
theorem dX8_supplyFraction_19 : decode cX8_supplyFraction 19 = .ok (.ldc_w 294, 3) := by decide +kernel
theorem dX8_supplyFraction_22 : decode cX8_supplyFraction 22 = .ok (.invokespecial 293, 3) := by decide +kernel
theorem dX8_supplyFraction_25 : decode cX8_supplyFraction 25 = .ok (.athrow, 1) := by decide +kernel
theorem dX8_supplyFraction_26 : decode cX8_supplyFraction 26 = .ok (.aload_n 0, 1) := by decide +kernel
theorem dX8_supplyFraction_27 : decode cX8_supplyFraction 27 = .ok (.getfield 10, 3) := by decide +kernel
theorem dX8_supplyFraction_30 : decode cX8_supplyFraction 30 = .ok (.getfield 64, 3) := by decide +kernel
theorem dX8_supplyFraction_33 : decode cX8_supplyFraction 33 = .ok (.iload_n 1, 1) := by decide +kernel
theorem dX8_supplyFraction_34 : decode cX8_supplyFraction 34 = .ok (.invokevirtual 177, 3) := by decide +kernel
theorem dX8_supplyFraction_37 : decode cX8_supplyFraction 37 = .ok (.i2f, 1) := by decide +kernel
theorem dX8_supplyFraction_38 : decode cX8_supplyFraction 38 = .ok (.iload_n 1, 1) := by decide +kernel
theorem dX8_supplyFraction_39 : decode cX8_supplyFraction 39 = .ok (.i2f, 1) := by decide +kernel
theorem dX8_supplyFraction_40 : decode cX8_supplyFraction 40 = .ok (.fdiv, 1) := by decide +kernel
theorem dX8_supplyFraction_41 : decode cX8_supplyFraction 41 = .ok (.freturn, 1) := by decide +kernel
theorem dX8_writeFigure_0 : decode cX8_writeFigure 0 = .ok (.aload_n 0, 1) := by decide +kernel
theorem dX8_writeFigure_1 : decode cX8_writeFigure 1 = .ok (.iload_n 1, 1) := by decide +kernel
theorem dX8_writeFigure_2 : decode cX8_writeFigure 2 = .ok (.invokevirtual 220, 3) := by decide +kernel
theorem dX8_writeFigure_5 : decode cX8_writeFigure 5 = .ok (.aload_n 0, 1) := by decide +kernel
theorem dX8_writeFigure_6 : decode cX8_writeFigure 6 = .ok (.getfield 54, 3) := by decide +kernel
theorem dX8_writeFigure_9 : decode cX8_writeFigure 9 = .ok (.iconst 0, 1) := by decide +kernel
theorem dX8_writeFigure_10 : decode cX8_writeFigure 10 = .ok (.invokevirtual 296, 3) := by decide +kernel
theorem dX8_writeFigure_13 : decode cX8_writeFigure 13 = .ok (.iconst 0, 1) := by decide +kernel
theorem dX8_writeFigure_14 : decode cX8_writeFigure 14 = .ok (.istore_n 2, 1) := by decide +kernel
theorem dX8_writeFigure_15 : decode cX8_writeFigure 15 = .ok (.iload_n 2, 1) := by decide +kernel
theorem dX8_writeFigure_16 : decode cX8_writeFigure 16 = .ok (.aload_n 0, 1) := by decide +kernel
theorem dX8_writeFigure_17 : decode cX8_writeFigure 17 = .ok (.getfield 10, 3) := by decide +kernel
theorem dX8_writeFigure_20 : decode cX8_writeFigure 20 = .ok (.getfield 187, 3) := by decide +kernel
theorem dX8_writeFigure_23 : decode cX8_writeFigure 23 = .ok (.getfield 223, 3) := by decide +kernel
theorem dX8_writeFigure_26 : decode cX8_writeFigure 26 = .ok (.iload_n 1, 1) := by decide +kernel
theorem dX8_writeFigure_27 : decode cX8_writeFigure 27 = .ok (.iaload, 1) := by decide +kernel
theorem dX8_writeFigure_28 : decode cX8_writeFigure 28 = .ok (.if_icmp .ge 18, 3) := by decide +kernel
theorem dX8_writeFigure_31 : decode cX8_writeFigure 31 = .ok (.aload_n 0, 1) := by decide +kernel
theorem dX8_writeFigure_32 : decode cX8_writeFigure 32 = .ok (.iload_n 1, 1) := by decide +kernel
theorem dX8_writeFigure_33 : decode cX8_writeFigure 33 = .ok (.iload_n 2, 1) := by decide +kernel
theorem dX8_writeFigure_34 : decode cX8_writeFigure 34 = .ok (.invokestatic 229, 3) := by decide +kernel
theorem dX8_writeFigure_37 : decode cX8_writeFigure 37 = .ok (.invokevirtual 299, 3) := by decide +kernel
theorem dX8_writeFigure_40 : decode cX8_writeFigure 40 = .ok (.iinc 2 1, 3) := by decide +kernel
theorem dX8_writeFigure_43 : decode cX8_writeFigure 43 = .ok (.goto (-28), 3) := by decide +kernel
theorem dX8_writeFigure_46 : decode cX8_writeFigure 46 = .ok (.aload_n 0, 1) := by decide +kernel
theorem dX8_writeFigure_47 : decode cX8_writeFigure 47 = .ok (.getfield 54, 3) := by decide +kernel
theorem dX8_writeFigure_50 : decode cX8_writeFigure 50 = .ok (.invokevirtual 302, 3) := by decide +kernel
theorem dX8_writeFigure_53 : decode cX8_writeFigure 53 = .ok (.ireturn, 1) := by decide +kernel
theorem dX8_outputCharacter_0 : decode cX8_outputCharacter 0 = .ok (.iload_n 1, 1) := by decide +kernel
theorem dX8_outputCharacter_1 : decode cX8_outputCharacter 1 = .ok (.ifCond .lt 14, 3) := by decide +kernel
theorem dX8_outputCharacter_4 : decode cX8_outputCharacter 4 = .ok (.iload_n 1, 1) := by decide +kernel
theorem dX8_outputCharacter_5 : decode cX8_outputCharacter 5 = .ok (.aload_n 0, 1) := by decide +kernel
theorem dX8_outputCharacter_6 : decode cX8_outputCharacter 6 = .ok (.getfield 54, 3) := by decide +kernel
theorem dX8_outputCharacter_9 : decode cX8_outputCharacter 9 = .ok (.invokevirtual 302, 3) := by decide +kernel
theorem dX8_outputCharacter_12 : decode cX8_outputCharacter 12 = .ok (.if_icmp .lt 14, 3) := by decide +kernel
theorem dX8_outputCharacter_15 : decode cX8_outputCharacter 15 = .ok (.new 305, 3) := by decide +kernel
theorem dX8_outputCharacter_18 : decode cX8_outputCharacter 18 = .ok (.dup, 1) := by decide +kernel
theorem dX8_outputCharacter_19 : decode cX8_outputCharacter 19 = .ok (.ldc_w 307, 3) := by decide +kernel
theorem dX8_outputCharacter_22 : decode cX8_outputCharacter 22 = .ok (.invokespecial 309, 3) := by decide +kernel
theorem dX8_outputCharacter_25 : decode cX8_outputCharacter 25 = .ok (.athrow, 1) := by decide +kernel
theorem dX8_outputCharacter_26 : decode cX8_outputCharacter 26 = .ok (.aload_n 0, 1) := by decide +kernel
theorem dX8_outputCharacter_27 : decode cX8_outputCharacter 27 = .ok (.getfield 54, 3) := by decide +kernel
theorem dX8_outputCharacter_30 : decode cX8_outputCharacter 30 = .ok (.iload_n 1, 1) := by decide +kernel
theorem dX8_outputCharacter_31 : decode cX8_outputCharacter 31 = .ok (.invokevirtual 310, 3) := by decide +kernel
theorem dX8_outputCharacter_34 : decode cX8_outputCharacter 34 = .ok (.ireturn, 1) := by decide +kernel
theorem dX8_isConsistent_0 : decode cX8_isConsistent 0 = .ok (.aload_n 0, 1) := by decide +kernel
theorem dX8_isConsistent_1 : decode cX8_isConsistent 1 = .ok (.getfield 10, 3) := by decide +kernel
theorem dX8_isConsistent_4 : decode cX8_isConsistent 4 = .ok (.getfield 64, 3) := by decide +kernel
theorem dX8_isConsistent_7 : decode cX8_isConsistent 7 = .ok (.invokevirtual 149, 3) := by decide +kernel
theorem dX8_isConsistent_10 : decode cX8_isConsistent 10 = .ok (.aload_n 0, 1) := by decide +kernel
theorem dX8_isConsistent_11 : decode cX8_isConsistent 11 = .ok (.getfield 40, 3) := by decide +kernel
theorem dX8_isConsistent_14 : decode cX8_isConsistent 14 = .ok (.aload_n 0, 1) := by decide +kernel
theorem dX8_isConsistent_15 : decode cX8_isConsistent 15 = .ok (.getfield 10, 3) := by decide +kernel
theorem dX8_isConsistent_18 : decode cX8_isConsistent 18 = .ok (.getfield 64, 3) := by decide +kernel
theorem dX8_isConsistent_21 : decode cX8_isConsistent 21 = .ok (.invokevirtual 152, 3) := by decide +kernel
theorem dX8_isConsistent_24 : decode cX8_isConsistent 24 = .ok (.if_icmp .eq 5, 3) := by decide +kernel
theorem dX8_isConsistent_27 : decode cX8_isConsistent 27 = .ok (.iconst 0, 1) := by decide +kernel
theorem dX8_isConsistent_28 : decode cX8_isConsistent 28 = .ok (.ireturn, 1) := by decide +kernel
theorem dX8_isConsistent_29 : decode cX8_isConsistent 29 = .ok (.aload_n 0, 1) := by decide +kernel
theorem dX8_isConsistent_30 : decode cX8_isConsistent 30 = .ok (.getfield 16, 3) := by decide +kernel
theorem dX8_isConsistent_33 : decode cX8_isConsistent 33 = .ok (.aload_n 0, 1) := by decide +kernel
theorem dX8_isConsistent_34 : decode cX8_isConsistent 34 = .ok (.getfield 10, 3) := by decide +kernel
theorem dX8_isConsistent_37 : decode cX8_isConsistent 37 = .ok (.invokevirtual 277, 3) := by decide +kernel
theorem dX8_isConsistent_40 : decode cX8_isConsistent 40 = .ok (.iconst 0, 1) := by decide +kernel
theorem dX8_isConsistent_41 : decode cX8_isConsistent 41 = .ok (.istore_n 1, 1) := by decide +kernel
theorem dX8_isConsistent_42 : decode cX8_isConsistent 42 = .ok (.iload_n 1, 1) := by decide +kernel
theorem dX8_isConsistent_43 : decode cX8_isConsistent 43 = .ok (.bipush 40, 2) := by decide +kernel
theorem dX8_isConsistent_45 : decode cX8_isConsistent 45 = .ok (.if_icmp .gt 40, 3) := by decide +kernel
theorem dX8_isConsistent_48 : decode cX8_isConsistent 48 = .ok (.aload_n 0, 1) := by decide +kernel
theorem dX8_isConsistent_49 : decode cX8_isConsistent 49 = .ok (.getfield 16, 3) := by decide +kernel
theorem dX8_isConsistent_52 : decode cX8_isConsistent 52 = .ok (.getfield 64, 3) := by decide +kernel
theorem dX8_isConsistent_55 : decode cX8_isConsistent 55 = .ok (.invokevirtual 110, 3) := by decide +kernel
theorem dX8_isConsistent_58 : decode cX8_isConsistent 58 = .ok (.aload_n 0, 1) := by decide +kernel
theorem dX8_isConsistent_59 : decode cX8_isConsistent 59 = .ok (.getfield 10, 3) := by decide +kernel
theorem dX8_isConsistent_62 : decode cX8_isConsistent 62 = .ok (.iload_n 1, 1) := by decide +kernel
theorem dX8_isConsistent_63 : decode cX8_isConsistent 63 = .ok (.invokevirtual 281, 3) := by decide +kernel
theorem dX8_isConsistent_66 : decode cX8_isConsistent 66 = .ok (.if_icmp .eq 5, 3) := by decide +kernel
theorem dX8_isConsistent_69 : decode cX8_isConsistent 69 = .ok (.iconst 0, 1) := by decide +kernel
theorem dX8_isConsistent_70 : decode cX8_isConsistent 70 = .ok (.ireturn, 1) := by decide +kernel
theorem dX8_isConsistent_71 : decode cX8_isConsistent 71 = .ok (.aload_n 0, 1) := by decide +kernel
theorem dX8_isConsistent_72 : decode cX8_isConsistent 72 = .ok (.getfield 16, 3) := by decide +kernel
theorem dX8_isConsistent_75 : decode cX8_isConsistent 75 = .ok (.invokevirtual 284, 3) := by decide +kernel
theorem dX8_isConsistent_78 : decode cX8_isConsistent 78 = .ok (.pop, 1) := by decide +kernel
theorem dX8_isConsistent_79 : decode cX8_isConsistent 79 = .ok (.iinc 1 1, 3) := by decide +kernel
theorem dX8_isConsistent_82 : decode cX8_isConsistent 82 = .ok (.goto (-40), 3) := by decide +kernel
theorem dX8_isConsistent_85 : decode cX8_isConsistent 85 = .ok (.iconst 1, 1) := by decide +kernel
theorem dX8_isConsistent_86 : decode cX8_isConsistent 86 = .ok (.ireturn, 1) := by decide +kernel
theorem dX8_feed_0 : decode cX8_feed 0 = .ok (.aload_n 0, 1) := by decide +kernel
theorem dX8_feed_1 : decode cX8_feed 1 = .ok (.getfield 47, 3) := by decide +kernel
theorem dX8_feed_4 : decode cX8_feed 4 = .ok (.invokevirtual 314, 3) := by decide +kernel
theorem dX8_feed_7 : decode cX8_feed 7 = .ok (.ifCond .eq 14, 3) := by decide +kernel
theorem dX8_feed_10 : decode cX8_feed 10 = .ok (.new 318, 3) := by decide +kernel
theorem dX8_feed_13 : decode cX8_feed 13 = .ok (.dup, 1) := by decide +kernel
theorem dX8_feed_14 : decode cX8_feed 14 = .ok (.ldc_w 320, 3) := by decide +kernel
theorem dX8_feed_17 : decode cX8_feed 17 = .ok (.invokespecial 322, 3) := by decide +kernel
theorem dX8_feed_20 : decode cX8_feed 20 = .ok (.athrow, 1) := by decide +kernel
theorem dX8_feed_21 : decode cX8_feed 21 = .ok (.aload_n 0, 1) := by decide +kernel
theorem dX8_feed_22 : decode cX8_feed 22 = .ok (.getfield 47, 3) := by decide +kernel
theorem dX8_feed_25 : decode cX8_feed 25 = .ok (.iload_n 1, 1) := by decide +kernel
theorem dX8_feed_26 : decode cX8_feed 26 = .ok (.invokevirtual 323, 3) := by decide +kernel
theorem dX8_feed_29 : decode cX8_feed 29 = .ok (.ireturn, 1) := by decide +kernel
theorem dX8_execute_0 : decode cX8_execute 0 = .ok (.aload_n 0, 1) := by decide +kernel
theorem dX8_execute_1 : decode cX8_execute 1 = .ok (.getfield 47, 3) := by decide +kernel
theorem dX8_execute_4 : decode cX8_execute 4 = .ok (.invokevirtual 326, 3) := by decide +kernel
theorem dX8_execute_7 : decode cX8_execute 7 = .ok (.istore_n 1, 1) := by decide +kernel
theorem dX8_execute_8 : decode cX8_execute 8 = .ok (.iload_n 1, 1) := by decide +kernel
theorem dX8_execute_9 : decode cX8_execute 9 = .ok (.iconst (-1), 1) := by decide +kernel
theorem dX8_execute_10 : decode cX8_execute 10 = .ok (.if_icmp .eq 27, 3) := by decide +kernel
theorem dX8_execute_13 : decode cX8_execute 13 = .ok (.aload_n 0, 1) := by decide +kernel
theorem dX8_execute_14 : decode cX8_execute 14 = .ok (.getfield 47, 3) := by decide +kernel
theorem dX8_execute_17 : decode cX8_execute 17 = .ok (.iconst 0, 1) := by decide +kernel
theorem dX8_execute_18 : decode cX8_execute 18 = .ok (.putfield 329, 3) := by decide +kernel
theorem dX8_execute_21 : decode cX8_execute 21 = .ok (.aload_n 0, 1) := by decide +kernel
theorem dX8_execute_22 : decode cX8_execute 22 = .ok (.iload_n 1, 1) := by decide +kernel
theorem dX8_execute_23 : decode cX8_execute 23 = .ok (.putfield 58, 3) := by decide +kernel
theorem dX8_execute_26 : decode cX8_execute 26 = .ok (.new 331, 3) := by decide +kernel
theorem dX8_execute_29 : decode cX8_execute 29 = .ok (.dup, 1) := by decide +kernel
theorem dX8_execute_30 : decode cX8_execute 30 = .ok (.ldc_w 333, 3) := by decide +kernel
theorem dX8_execute_33 : decode cX8_execute 33 = .ok (.invokespecial 335, 3) := by decide +kernel
theorem dX8_execute_36 : decode cX8_execute 36 = .ok (.athrow, 1) := by decide +kernel
theorem dX8_execute_37 : decode cX8_execute 37 = .ok (.aload_n 0, 1) := by decide +kernel
theorem dX8_execute_38 : decode cX8_execute 38 = .ok (.getfield 16, 3) := by decide +kernel
theorem dX8_execute_41 : decode cX8_execute 41 = .ok (.aload_n 0, 1) := by decide +kernel
theorem dX8_execute_42 : decode cX8_execute 42 = .ok (.getfield 10, 3) := by decide +kernel
theorem dX8_execute_45 : decode cX8_execute 45 = .ok (.invokevirtual 277, 3) := by decide +kernel
theorem dX8_execute_48 : decode cX8_execute 48 = .ok (.aload_n 0, 1) := by decide +kernel
theorem dX8_execute_49 : decode cX8_execute 49 = .ok (.invokevirtual 336, 3) := by decide +kernel
theorem dX8_execute_52 : decode cX8_execute 52 = .ok (.istore_n 2, 1) := by decide +kernel
theorem dX8_execute_53 : decode cX8_execute 53 = .ok (.aload_n 0, 1) := by decide +kernel
theorem dX8_execute_54 : decode cX8_execute 54 = .ok (.getfield 47, 3) := by decide +kernel
theorem dX8_execute_57 : decode cX8_execute 57 = .ok (.iconst 0, 1) := by decide +kernel
theorem dX8_execute_58 : decode cX8_execute 58 = .ok (.putfield 329, 3) := by decide +kernel
theorem dX8_execute_61 : decode cX8_execute 61 = .ok (.iload_n 2, 1) := by decide +kernel
theorem dX8_execute_62 : decode cX8_execute 62 = .ok (.aload_n 0, 1) := by decide +kernel
theorem dX8_execute_63 : decode cX8_execute 63 = .ok (.getfield 47, 3) := by decide +kernel
theorem dX8_execute_66 : decode cX8_execute 66 = .ok (.getfield 339, 3) := by decide +kernel
theorem dX8_execute_69 : decode cX8_execute 69 = .ok (.if_icmp .ge 19, 3) := by decide +kernel
theorem dX8_execute_72 : decode cX8_execute 72 = .ok (.aload_n 0, 1) := by decide +kernel
theorem dX8_execute_73 : decode cX8_execute 73 = .ok (.iload_n 2, 1) := by decide +kernel
theorem dX8_execute_74 : decode cX8_execute 74 = .ok (.putfield 61, 3) := by decide +kernel
theorem dX8_execute_77 : decode cX8_execute 77 = .ok (.new 342, 3) := by decide +kernel
theorem dX8_execute_80 : decode cX8_execute 80 = .ok (.dup, 1) := by decide +kernel
theorem dX8_execute_81 : decode cX8_execute 81 = .ok (.ldc_w 344, 3) := by decide +kernel
theorem dX8_execute_84 : decode cX8_execute 84 = .ok (.invokespecial 346, 3) := by decide +kernel
theorem dX8_execute_87 : decode cX8_execute 87 = .ok (.athrow, 1) := by decide +kernel
theorem dX8_execute_88 : decode cX8_execute 88 = .ok (.aload_n 0, 1) := by decide +kernel
theorem dX8_execute_89 : decode cX8_execute 89 = .ok (.invokevirtual 78, 3) := by decide +kernel
theorem dX8_execute_92 : decode cX8_execute 92 = .ok (.aload_n 0, 1) := by decide +kernel
theorem dX8_execute_93 : decode cX8_execute 93 = .ok (.getfield 10, 3) := by decide +kernel
theorem dX8_execute_96 : decode cX8_execute 96 = .ok (.aload_n 0, 1) := by decide +kernel
theorem dX8_execute_97 : decode cX8_execute 97 = .ok (.getfield 16, 3) := by decide +kernel
theorem dX8_execute_100 : decode cX8_execute 100 = .ok (.invokevirtual 277, 3) := by decide +kernel
theorem dX8_execute_103 : decode cX8_execute 103 = .ok (.iload_n 2, 1) := by decide +kernel
theorem dX8_execute_104 : decode cX8_execute 104 = .ok (.ireturn, 1) := by decide +kernel
theorem dX8_errorPosition_0 : decode cX8_errorPosition 0 = .ok (.aload_n 0, 1) := by decide +kernel
theorem dX8_errorPosition_1 : decode cX8_errorPosition 1 = .ok (.getfield 58, 3) := by decide +kernel
theorem dX8_errorPosition_4 : decode cX8_errorPosition 4 = .ok (.iconst (-1), 1) := by decide +kernel
theorem dX8_errorPosition_5 : decode cX8_errorPosition 5 = .ok (.if_icmp .ne 14, 3) := by decide +kernel
theorem dX8_errorPosition_8 : decode cX8_errorPosition 8 = .ok (.new 136, 3) := by decide +kernel
theorem dX8_errorPosition_11 : decode cX8_errorPosition 11 = .ok (.dup, 1) := by decide +kernel
theorem dX8_errorPosition_12 : decode cX8_errorPosition 12 = .ok (.ldc_w 347, 3) := by decide +kernel
theorem dX8_errorPosition_15 : decode cX8_errorPosition 15 = .ok (.invokespecial 140, 3) := by decide +kernel
theorem dX8_errorPosition_18 : decode cX8_errorPosition 18 = .ok (.athrow, 1) := by decide +kernel
theorem dX8_errorPosition_19 : decode cX8_errorPosition 19 = .ok (.aload_n 0, 1) := by decide +kernel
theorem dX8_errorPosition_20 : decode cX8_errorPosition 20 = .ok (.getfield 58, 3) := by decide +kernel
theorem dX8_errorPosition_23 : decode cX8_errorPosition 23 = .ok (.ireturn, 1) := by decide +kernel
theorem dX8_failedCommand_0 : decode cX8_failedCommand 0 = .ok (.aload_n 0, 1) := by decide +kernel
theorem dX8_failedCommand_1 : decode cX8_failedCommand 1 = .ok (.getfield 61, 3) := by decide +kernel
theorem dX8_failedCommand_4 : decode cX8_failedCommand 4 = .ok (.iconst (-1), 1) := by decide +kernel
theorem dX8_failedCommand_5 : decode cX8_failedCommand 5 = .ok (.if_icmp .ne 14, 3) := by decide +kernel
theorem dX8_failedCommand_8 : decode cX8_failedCommand 8 = .ok (.new 136, 3) := by decide +kernel
theorem dX8_failedCommand_11 : decode cX8_failedCommand 11 = .ok (.dup, 1) := by decide +kernel
theorem dX8_failedCommand_12 : decode cX8_failedCommand 12 = .ok (.ldc_w 349, 3) := by decide +kernel
theorem dX8_failedCommand_15 : decode cX8_failedCommand 15 = .ok (.invokespecial 140, 3) := by decide +kernel
theorem dX8_failedCommand_18 : decode cX8_failedCommand 18 = .ok (.athrow, 1) := by decide +kernel
theorem dX8_failedCommand_19 : decode cX8_failedCommand 19 = .ok (.aload_n 0, 1) := by decide +kernel
theorem dX8_failedCommand_20 : decode cX8_failedCommand 20 = .ok (.getfield 61, 3) := by decide +kernel
theorem dX8_failedCommand_23 : decode cX8_failedCommand 23 = .ok (.ireturn, 1) := by decide +kernel
theorem dX8_undo_0 : decode cX8_undo 0 = .ok (.aload_n 0, 1) := by decide +kernel
theorem dX8_undo_1 : decode cX8_undo 1 = .ok (.getfield 34, 3) := by decide +kernel
theorem dX8_undo_4 : decode cX8_undo 4 = .ok (.ifCond .ne 14, 3) := by decide +kernel
theorem dX8_undo_7 : decode cX8_undo 7 = .ok (.new 318, 3) := by decide +kernel
theorem dX8_undo_10 : decode cX8_undo 10 = .ok (.dup, 1) := by decide +kernel
theorem dX8_undo_11 : decode cX8_undo 11 = .ok (.ldc_w 351, 3) := by decide +kernel
theorem dX8_undo_14 : decode cX8_undo 14 = .ok (.invokespecial 322, 3) := by decide +kernel
theorem dX8_undo_17 : decode cX8_undo 17 = .ok (.athrow, 1) := by decide +kernel
theorem dX8_undo_18 : decode cX8_undo 18 = .ok (.aload_n 0, 1) := by decide +kernel
theorem dX8_undo_19 : decode cX8_undo 19 = .ok (.aload_n 0, 1) := by decide +kernel
theorem dX8_undo_20 : decode cX8_undo 20 = .ok (.getfield 30, 3) := by decide +kernel
theorem dX8_undo_23 : decode cX8_undo 23 = .ok (.ifCond .ne 8, 3) := by decide +kernel
theorem dX8_undo_26 : decode cX8_undo 26 = .ok (.bipush 7, 2) := by decide +kernel
theorem dX8_undo_28 : decode cX8_undo 28 = .ok (.goto 9, 3) := by decide +kernel
theorem dX8_undo_31 : decode cX8_undo 31 = .ok (.aload_n 0, 1) := by decide +kernel
theorem dX8_undo_32 : decode cX8_undo 32 = .ok (.getfield 30, 3) := by decide +kernel
theorem dX8_undo_35 : decode cX8_undo 35 = .ok (.iconst 1, 1) := by decide +kernel
theorem dX8_undo_36 : decode cX8_undo 36 = .ok (.isub, 1) := by decide +kernel
theorem dX8_undo_37 : decode cX8_undo 37 = .ok (.putfield 30, 3) := by decide +kernel
theorem dX8_undo_40 : decode cX8_undo 40 = .ok (.aload_n 0, 1) := by decide +kernel
theorem dX8_undo_41 : decode cX8_undo 41 = .ok (.dup, 1) := by decide +kernel
theorem dX8_undo_42 : decode cX8_undo 42 = .ok (.getfield 34, 3) := by decide +kernel
theorem dX8_undo_45 : decode cX8_undo 45 = .ok (.iconst 1, 1) := by decide +kernel
theorem dX8_undo_46 : decode cX8_undo 46 = .ok (.isub, 1) := by decide +kernel
theorem dX8_undo_47 : decode cX8_undo 47 = .ok (.putfield 34, 3) := by decide +kernel
theorem dX8_undo_50 : decode cX8_undo 50 = .ok (.aload_n 0, 1) := by decide +kernel
theorem dX8_undo_51 : decode cX8_undo 51 = .ok (.getfield 10, 3) := by decide +kernel
theorem dX8_undo_54 : decode cX8_undo 54 = .ok (.aload_n 0, 1) := by decide +kernel
theorem dX8_undo_55 : decode cX8_undo 55 = .ok (.getfield 26, 3) := by decide +kernel
theorem dX8_undo_58 : decode cX8_undo 58 = .ok (.aload_n 0, 1) := by decide +kernel
theorem dX8_undo_59 : decode cX8_undo 59 = .ok (.getfield 30, 3) := by decide +kernel
theorem dX8_undo_62 : decode cX8_undo 62 = .ok (.aaload, 1) := by decide +kernel
theorem dX8_undo_63 : decode cX8_undo 63 = .ok (.invokevirtual 277, 3) := by decide +kernel
theorem dX8_undo_66 : decode cX8_undo 66 = .ok (.aload_n 0, 1) := by decide +kernel
theorem dX8_undo_67 : decode cX8_undo 67 = .ok (.getfield 34, 3) := by decide +kernel
theorem dX8_undo_70 : decode cX8_undo 70 = .ok (.ireturn, 1) := by decide +kernel
theorem dX8_undoCount_0 : decode cX8_undoCount 0 = .ok (.aload_n 0, 1) := by decide +kernel
theorem dX8_undoCount_1 : decode cX8_undoCount 1 = .ok (.getfield 34, 3) := by decide +kernel
theorem dX8_undoCount_4 : decode cX8_undoCount 4 = .ok (.ireturn, 1) := by decide +kernel
theorem dX8_save_0 : decode cX8_save 0 = .ok (.aload_n 0, 1) := by decide +kernel
theorem dX8_save_1 : decode cX8_save 1 = .ok (.getfield 19, 3) := by decide +kernel
theorem dX8_save_4 : decode cX8_save 4 = .ok (.aload_n 0, 1) := by decide +kernel
theorem dX8_save_5 : decode cX8_save 5 = .ok (.getfield 10, 3) := by decide +kernel
theorem dX8_save_8 : decode cX8_save 8 = .ok (.invokevirtual 277, 3) := by decide +kernel
theorem dX8_save_11 : decode cX8_save 11 = .ok (.aload_n 0, 1) := by decide +kernel
theorem dX8_save_12 : decode cX8_save 12 = .ok (.iconst 1, 1) := by decide +kernel
theorem dX8_save_13 : decode cX8_save 13 = .ok (.putfield 22, 3) := by decide +kernel
theorem dX8_save_16 : decode cX8_save 16 = .ok (.aload_n 0, 1) := by decide +kernel
theorem dX8_save_17 : decode cX8_save 17 = .ok (.getfield 10, 3) := by decide +kernel
theorem dX8_save_20 : decode cX8_save 20 = .ok (.getfield 64, 3) := by decide +kernel
theorem dX8_save_23 : decode cX8_save 23 = .ok (.getfield 100, 3) := by decide +kernel
theorem dX8_save_26 : decode cX8_save 26 = .ok (.ireturn, 1) := by decide +kernel
theorem dX8_restore_0 : decode cX8_restore 0 = .ok (.aload_n 0, 1) := by decide +kernel
theorem dX8_restore_1 : decode cX8_restore 1 = .ok (.getfield 22, 3) := by decide +kernel
theorem dX8_restore_4 : decode cX8_restore 4 = .ok (.ifCond .ne 14, 3) := by decide +kernel
theorem dX8_restore_7 : decode cX8_restore 7 = .ok (.new 318, 3) := by decide +kernel
theorem dX8_restore_10 : decode cX8_restore 10 = .ok (.dup, 1) := by decide +kernel
theorem dX8_restore_11 : decode cX8_restore 11 = .ok (.ldc_w 353, 3) := by decide +kernel
theorem dX8_restore_14 : decode cX8_restore 14 = .ok (.invokespecial 322, 3) := by decide +kernel
theorem dX8_restore_17 : decode cX8_restore 17 = .ok (.athrow, 1) := by decide +kernel
theorem dX8_restore_18 : decode cX8_restore 18 = .ok (.aload_n 0, 1) := by decide +kernel
theorem dX8_restore_19 : decode cX8_restore 19 = .ok (.getfield 10, 3) := by decide +kernel
theorem dX8_restore_22 : decode cX8_restore 22 = .ok (.aload_n 0, 1) := by decide +kernel
theorem dX8_restore_23 : decode cX8_restore 23 = .ok (.getfield 19, 3) := by decide +kernel
theorem dX8_restore_26 : decode cX8_restore 26 = .ok (.invokevirtual 277, 3) := by decide +kernel
theorem dX8_restore_29 : decode cX8_restore 29 = .ok (.aload_n 0, 1) := by decide +kernel
theorem dX8_restore_30 : decode cX8_restore 30 = .ok (.iconst 0, 1) := by decide +kernel
theorem dX8_restore_31 : decode cX8_restore 31 = .ok (.putfield 34, 3) := by decide +kernel
theorem dX8_restore_34 : decode cX8_restore 34 = .ok (.aload_n 0, 1) := by decide +kernel
theorem dX8_restore_35 : decode cX8_restore 35 = .ok (.getfield 10, 3) := by decide +kernel
theorem dX8_restore_38 : decode cX8_restore 38 = .ok (.getfield 64, 3) := by decide +kernel
theorem dX8_restore_41 : decode cX8_restore 41 = .ok (.getfield 100, 3) := by decide +kernel
theorem dX8_restore_44 : decode cX8_restore 44 = .ok (.ireturn, 1) := by decide +kernel
theorem dX8_remember_0 : decode cX8_remember 0 = .ok (.aload_n 0, 1) := by decide +kernel
theorem dX8_remember_1 : decode cX8_remember 1 = .ok (.getfield 26, 3) := by decide +kernel
theorem dX8_remember_4 : decode cX8_remember 4 = .ok (.aload_n 0, 1) := by decide +kernel
theorem dX8_remember_5 : decode cX8_remember 5 = .ok (.getfield 30, 3) := by decide +kernel
theorem dX8_remember_8 : decode cX8_remember 8 = .ok (.aaload, 1) := by decide +kernel
theorem dX8_remember_9 : decode cX8_remember 9 = .ok (.aload_n 0, 1) := by decide +kernel
theorem dX8_remember_10 : decode cX8_remember 10 = .ok (.getfield 10, 3) := by decide +kernel
theorem dX8_remember_13 : decode cX8_remember 13 = .ok (.invokevirtual 277, 3) := by decide +kernel
theorem dX8_remember_16 : decode cX8_remember 16 = .ok (.aload_n 0, 1) := by decide +kernel
theorem dX8_remember_17 : decode cX8_remember 17 = .ok (.aload_n 0, 1) := by decide +kernel
theorem dX8_remember_18 : decode cX8_remember 18 = .ok (.getfield 30, 3) := by decide +kernel
theorem dX8_remember_21 : decode cX8_remember 21 = .ok (.bipush 7, 2) := by decide +kernel
theorem dX8_remember_23 : decode cX8_remember 23 = .ok (.if_icmp .ne 7, 3) := by decide +kernel
theorem dX8_remember_26 : decode cX8_remember 26 = .ok (.iconst 0, 1) := by decide +kernel
theorem dX8_remember_27 : decode cX8_remember 27 = .ok (.goto 9, 3) := by decide +kernel
theorem dX8_remember_30 : decode cX8_remember 30 = .ok (.aload_n 0, 1) := by decide +kernel
theorem dX8_remember_31 : decode cX8_remember 31 = .ok (.getfield 30, 3) := by decide +kernel
theorem dX8_remember_34 : decode cX8_remember 34 = .ok (.iconst 1, 1) := by decide +kernel
theorem dX8_remember_35 : decode cX8_remember 35 = .ok (.iadd, 1) := by decide +kernel
theorem dX8_remember_36 : decode cX8_remember 36 = .ok (.putfield 30, 3) := by decide +kernel
theorem dX8_remember_39 : decode cX8_remember 39 = .ok (.aload_n 0, 1) := by decide +kernel
theorem dX8_remember_40 : decode cX8_remember 40 = .ok (.aload_n 0, 1) := by decide +kernel
theorem dX8_remember_41 : decode cX8_remember 41 = .ok (.getfield 34, 3) := by decide +kernel
theorem dX8_remember_44 : decode cX8_remember 44 = .ok (.iconst 1, 1) := by decide +kernel
theorem dX8_remember_45 : decode cX8_remember 45 = .ok (.iadd, 1) := by decide +kernel
theorem dX8_remember_46 : decode cX8_remember 46 = .ok (.bipush 8, 2) := by decide +kernel
theorem dX8_remember_48 : decode cX8_remember 48 = .ok (.invokestatic 355, 3) := by decide +kernel
theorem dX8_remember_51 : decode cX8_remember 51 = .ok (.putfield 34, 3) := by decide +kernel
theorem dX8_remember_54 : decode cX8_remember 54 = .ok (.return_, 1) := by decide +kernel
theorem dX8_refuse_0 : decode cX8_refuse 0 = .ok (.getstatic 360, 3) := by decide +kernel
theorem dX8_refuse_3 : decode cX8_refuse 3 = .ok (.aload_n 0, 1) := by decide +kernel
theorem dX8_refuse_4 : decode cX8_refuse 4 = .ok (.invokevirtual 365, 3) := by decide +kernel
theorem dX8_refuse_7 : decode cX8_refuse 7 = .ok (.iaload, 1) := by decide +kernel
theorem dX8_refuse_8 : decode cX8_refuse 8 = .ok (.tableswitch 76 1 4 #[32, 43, 54, 65], 32) := by decide +kernel
theorem dX8_refuse_40 : decode cX8_refuse 40 = .ok (.new 305, 3) := by decide +kernel
theorem dX8_refuse_43 : decode cX8_refuse 43 = .ok (.dup, 1) := by decide +kernel
theorem dX8_refuse_44 : decode cX8_refuse 44 = .ok (.ldc_w 370, 3) := by decide +kernel
theorem dX8_refuse_47 : decode cX8_refuse 47 = .ok (.invokespecial 309, 3) := by decide +kernel
theorem dX8_refuse_50 : decode cX8_refuse 50 = .ok (.athrow, 1) := by decide +kernel
theorem dX8_refuse_51 : decode cX8_refuse 51 = .ok (.new 331, 3) := by decide +kernel
theorem dX8_refuse_54 : decode cX8_refuse 54 = .ok (.dup, 1) := by decide +kernel
theorem dX8_refuse_55 : decode cX8_refuse 55 = .ok (.ldc_w 372, 3) := by decide +kernel
theorem dX8_refuse_58 : decode cX8_refuse 58 = .ok (.invokespecial 335, 3) := by decide +kernel
theorem dX8_refuse_61 : decode cX8_refuse 61 = .ok (.athrow, 1) := by decide +kernel
theorem dX8_refuse_62 : decode cX8_refuse 62 = .ok (.new 342, 3) := by decide +kernel
theorem dX8_refuse_65 : decode cX8_refuse 65 = .ok (.dup, 1) := by decide +kernel
theorem dX8_refuse_66 : decode cX8_refuse 66 = .ok (.ldc_w 374, 3) := by decide +kernel
theorem dX8_refuse_69 : decode cX8_refuse 69 = .ok (.invokespecial 346, 3) := by decide +kernel
theorem dX8_refuse_72 : decode cX8_refuse 72 = .ok (.athrow, 1) := by decide +kernel
theorem dX8_refuse_73 : decode cX8_refuse 73 = .ok (.new 318, 3) := by decide +kernel
theorem dX8_refuse_76 : decode cX8_refuse 76 = .ok (.dup, 1) := by decide +kernel
theorem dX8_refuse_77 : decode cX8_refuse 77 = .ok (.ldc_w 376, 3) := by decide +kernel
theorem dX8_refuse_80 : decode cX8_refuse 80 = .ok (.invokespecial 322, 3) := by decide +kernel
theorem dX8_refuse_83 : decode cX8_refuse 83 = .ok (.athrow, 1) := by decide +kernel
theorem dX8_refuse_84 : decode cX8_refuse 84 = .ok (.return_, 1) := by decide +kernel
theorem dX8_requireJet_0 : decode cX8_requireJet 0 = .ok (.aload_n 0, 1) := by decide +kernel
theorem dX8_requireJet_1 : decode cX8_requireJet 1 = .ok (.getfield 10, 3) := by decide +kernel
theorem dX8_requireJet_4 : decode cX8_requireJet 4 = .ok (.getfield 64, 3) := by decide +kernel
theorem dX8_requireJet_7 : decode cX8_requireJet 7 = .ok (.iload_n 1, 1) := by decide +kernel
theorem dX8_requireJet_8 : decode cX8_requireJet 8 = .ok (.invokevirtual 133, 3) := by decide +kernel
theorem dX8_requireJet_11 : decode cX8_requireJet 11 = .ok (.ifCond .ne 14, 3) := by decide +kernel
theorem dX8_requireJet_14 : decode cX8_requireJet 14 = .ok (.new 305, 3) := by decide +kernel
theorem dX8_requireJet_17 : decode cX8_requireJet 17 = .ok (.dup, 1) := by decide +kernel
theorem dX8_requireJet_18 : decode cX8_requireJet 18 = .ok (.ldc_w 378, 3) := by decide +kernel
theorem dX8_requireJet_21 : decode cX8_requireJet 21 = .ok (.invokespecial 309, 3) := by decide +kernel
theorem dX8_requireJet_24 : decode cX8_requireJet 24 = .ok (.athrow, 1) := by decide +kernel
theorem dX8_requireJet_25 : decode cX8_requireJet 25 = .ok (.return_, 1) := by decide +kernel
theorem dX8_requireAnyJet_0 : decode cX8_requireAnyJet 0 = .ok (.aload_n 0, 1) := by decide +kernel
theorem dX8_requireAnyJet_1 : decode cX8_requireAnyJet 1 = .ok (.getfield 10, 3) := by decide +kernel
theorem dX8_requireAnyJet_4 : decode cX8_requireAnyJet 4 = .ok (.getfield 64, 3) := by decide +kernel
theorem dX8_requireAnyJet_7 : decode cX8_requireAnyJet 7 = .ok (.getfield 100, 3) := by decide +kernel
theorem dX8_requireAnyJet_10 : decode cX8_requireAnyJet 10 = .ok (.ifCond .ne 14, 3) := by decide +kernel
theorem dX8_requireAnyJet_13 : decode cX8_requireAnyJet 13 = .ok (.new 136, 3) := by decide +kernel
theorem dX8_requireAnyJet_16 : decode cX8_requireAnyJet 16 = .ok (.dup, 1) := by decide +kernel
theorem dX8_requireAnyJet_17 : decode cX8_requireAnyJet 17 = .ok (.ldc_w 291, 3) := by decide +kernel
theorem dX8_requireAnyJet_20 : decode cX8_requireAnyJet 20 = .ok (.invokespecial 140, 3) := by decide +kernel
theorem dX8_requireAnyJet_23 : decode cX8_requireAnyJet 23 = .ok (.athrow, 1) := by decide +kernel
theorem dX8_requireAnyJet_24 : decode cX8_requireAnyJet 24 = .ok (.return_, 1) := by decide +kernel
theorem dX8_requireFigure_0 : decode cX8_requireFigure 0 = .ok (.aload_n 0, 1) := by decide +kernel
theorem dX8_requireFigure_1 : decode cX8_requireFigure 1 = .ok (.getfield 10, 3) := by decide +kernel
theorem dX8_requireFigure_4 : decode cX8_requireFigure 4 = .ok (.getfield 187, 3) := by decide +kernel
theorem dX8_requireFigure_7 : decode cX8_requireFigure 7 = .ok (.iload_n 1, 1) := by decide +kernel
theorem dX8_requireFigure_8 : decode cX8_requireFigure 8 = .ok (.invokevirtual 380, 3) := by decide +kernel
theorem dX8_requireFigure_11 : decode cX8_requireFigure 11 = .ok (.ifCond .ne 14, 3) := by decide +kernel
theorem dX8_requireFigure_14 : decode cX8_requireFigure 14 = .ok (.new 305, 3) := by decide +kernel
theorem dX8_requireFigure_17 : decode cX8_requireFigure 17 = .ok (.dup, 1) := by decide +kernel
theorem dX8_requireFigure_18 : decode cX8_requireFigure 18 = .ok (.ldc_w 381, 3) := by decide +kernel
theorem dX8_requireFigure_21 : decode cX8_requireFigure 21 = .ok (.invokespecial 309, 3) := by decide +kernel
theorem dX8_requireFigure_24 : decode cX8_requireFigure 24 = .ok (.athrow, 1) := by decide +kernel
theorem dX8_requireFigure_25 : decode cX8_requireFigure 25 = .ok (.return_, 1) := by decide +kernel
theorem dX8_requireStep_0 : decode cX8_requireStep 0 = .ok (.aload_n 0, 1) := by decide +kernel
theorem dX8_requireStep_1 : decode cX8_requireStep 1 = .ok (.getfield 10, 3) := by decide +kernel
theorem dX8_requireStep_4 : decode cX8_requireStep 4 = .ok (.getfield 187, 3) := by decide +kernel
theorem dX8_requireStep_7 : decode cX8_requireStep 7 = .ok (.iload_n 1, 1) := by decide +kernel
theorem dX8_requireStep_8 : decode cX8_requireStep 8 = .ok (.iload_n 2, 1) := by decide +kernel
theorem dX8_requireStep_9 : decode cX8_requireStep 9 = .ok (.invokevirtual 383, 3) := by decide +kernel
theorem dX8_requireStep_12 : decode cX8_requireStep 12 = .ok (.ifCond .ne 14, 3) := by decide +kernel
theorem dX8_requireStep_15 : decode cX8_requireStep 15 = .ok (.new 305, 3) := by decide +kernel
theorem dX8_requireStep_18 : decode cX8_requireStep 18 = .ok (.dup, 1) := by decide +kernel
theorem dX8_requireStep_19 : decode cX8_requireStep 19 = .ok (.ldc_w 387, 3) := by decide +kernel
theorem dX8_requireStep_22 : decode cX8_requireStep 22 = .ok (.invokespecial 309, 3) := by decide +kernel
theorem dX8_requireStep_25 : decode cX8_requireStep 25 = .ok (.athrow, 1) := by decide +kernel
theorem dX8_requireStep_26 : decode cX8_requireStep 26 = .ok (.return_, 1) := by decide +kernel
theorem dX8_requireEntry_0 : decode cX8_requireEntry 0 = .ok (.iload_n 1, 1) := by decide +kernel
theorem dX8_requireEntry_1 : decode cX8_requireEntry 1 = .ok (.ifCond .lt 14, 3) := by decide +kernel
theorem dX8_requireEntry_4 : decode cX8_requireEntry 4 = .ok (.iload_n 1, 1) := by decide +kernel
theorem dX8_requireEntry_5 : decode cX8_requireEntry 5 = .ok (.aload_n 0, 1) := by decide +kernel
theorem dX8_requireEntry_6 : decode cX8_requireEntry 6 = .ok (.getfield 10, 3) := by decide +kernel
theorem dX8_requireEntry_9 : decode cX8_requireEntry 9 = .ok (.getfield 262, 3) := by decide +kernel
theorem dX8_requireEntry_12 : decode cX8_requireEntry 12 = .ok (.if_icmp .lt 14, 3) := by decide +kernel
theorem dX8_requireEntry_15 : decode cX8_requireEntry 15 = .ok (.new 305, 3) := by decide +kernel
theorem dX8_requireEntry_18 : decode cX8_requireEntry 18 = .ok (.dup, 1) := by decide +kernel
theorem dX8_requireEntry_19 : decode cX8_requireEntry 19 = .ok (.ldc_w 389, 3) := by decide +kernel
theorem dX8_requireEntry_22 : decode cX8_requireEntry 22 = .ok (.invokespecial 309, 3) := by decide +kernel
theorem dX8_requireEntry_25 : decode cX8_requireEntry 25 = .ok (.athrow, 1) := by decide +kernel
theorem dX8_requireEntry_26 : decode cX8_requireEntry 26 = .ok (.return_, 1) := by decide +kernel
theorem dX8_requireForecast_0 : decode cX8_requireForecast 0 = .ok (.iload_n 0, 1) := by decide +kernel
theorem dX8_requireForecast_1 : decode cX8_requireForecast 1 = .ok (.ifCond .lt 9, 3) := by decide +kernel
theorem dX8_requireForecast_4 : decode cX8_requireForecast 4 = .ok (.iload_n 0, 1) := by decide +kernel
theorem dX8_requireForecast_5 : decode cX8_requireForecast 5 = .ok (.bipush 40, 2) := by decide +kernel
theorem dX8_requireForecast_7 : decode cX8_requireForecast 7 = .ok (.if_icmp .le 14, 3) := by decide +kernel
theorem dX8_requireForecast_10 : decode cX8_requireForecast 10 = .ok (.new 331, 3) := by decide +kernel
theorem dX8_requireForecast_13 : decode cX8_requireForecast 13 = .ok (.dup, 1) := by decide +kernel
theorem dX8_requireForecast_14 : decode cX8_requireForecast 14 = .ok (.ldc_w 391, 3) := by decide +kernel
theorem dX8_requireForecast_17 : decode cX8_requireForecast 17 = .ok (.invokespecial 335, 3) := by decide +kernel
theorem dX8_requireForecast_20 : decode cX8_requireForecast 20 = .ok (.athrow, 1) := by decide +kernel
theorem dX8_requireForecast_21 : decode cX8_requireForecast 21 = .ok (.return_, 1) := by decide +kernel
theorem dX8_slot_0 : decode cX8_slot 0 = .ok (.iload_n 0, 1) := by decide +kernel
theorem dX8_slot_1 : decode cX8_slot 1 = .ok (.bipush 8, 2) := by decide +kernel
theorem dX8_slot_3 : decode cX8_slot 3 = .ok (.imul, 1) := by decide +kernel
theorem dX8_slot_4 : decode cX8_slot 4 = .ok (.iload_n 1, 1) := by decide +kernel
theorem dX8_slot_5 : decode cX8_slot 5 = .ok (.iadd, 1) := by decide +kernel
theorem dX8_slot_6 : decode cX8_slot 6 = .ok (.ireturn, 1) := by decide +kernel
theorem dX8_writeStep_0 : decode cX8_writeStep 0 = .ok (.aload_n 0, 1) := by decide +kernel
theorem dX8_writeStep_1 : decode cX8_writeStep 1 = .ok (.getfield 54, 3) := by decide +kernel
theorem dX8_writeStep_4 : decode cX8_writeStep 4 = .ok (.invokevirtual 302, 3) := by decide +kernel
theorem dX8_writeStep_7 : decode cX8_writeStep 7 = .ok (.ifCond .le 13, 3) := by decide +kernel
theorem dX8_writeStep_10 : decode cX8_writeStep 10 = .ok (.aload_n 0, 1) := by decide +kernel
theorem dX8_writeStep_11 : decode cX8_writeStep 11 = .ok (.getfield 54, 3) := by decide +kernel
theorem dX8_writeStep_14 : decode cX8_writeStep 14 = .ok (.bipush 32, 2) := by decide +kernel
theorem dX8_writeStep_16 : decode cX8_writeStep 16 = .ok (.invokevirtual 393, 3) := by decide +kernel
theorem dX8_writeStep_19 : decode cX8_writeStep 19 = .ok (.pop, 1) := by decide +kernel
theorem dX8_writeStep_20 : decode cX8_writeStep 20 = .ok (.aload_n 0, 1) := by decide +kernel
theorem dX8_writeStep_21 : decode cX8_writeStep 21 = .ok (.getfield 54, 3) := by decide +kernel
theorem dX8_writeStep_24 : decode cX8_writeStep 24 = .ok (.aload_n 0, 1) := by decide +kernel
theorem dX8_writeStep_25 : decode cX8_writeStep 25 = .ok (.getfield 10, 3) := by decide +kernel
theorem dX8_writeStep_28 : decode cX8_writeStep 28 = .ok (.getfield 187, 3) := by decide +kernel
theorem dX8_writeStep_31 : decode cX8_writeStep 31 = .ok (.getfield 226, 3) := by decide +kernel
theorem dX8_writeStep_34 : decode cX8_writeStep 34 = .ok (.iload_n 1, 1) := by decide +kernel
theorem dX8_writeStep_35 : decode cX8_writeStep 35 = .ok (.iaload, 1) := by decide +kernel
theorem dX8_writeStep_36 : decode cX8_writeStep 36 = .ok (.invokevirtual 396, 3) := by decide +kernel
theorem dX8_writeStep_39 : decode cX8_writeStep 39 = .ok (.bipush 58, 2) := by decide +kernel
theorem dX8_writeStep_41 : decode cX8_writeStep 41 = .ok (.invokevirtual 393, 3) := by decide +kernel
theorem dX8_writeStep_44 : decode cX8_writeStep 44 = .ok (.pop, 1) := by decide +kernel
theorem dX8_writeStep_45 : decode cX8_writeStep 45 = .ok (.aload_n 0, 1) := by decide +kernel
theorem dX8_writeStep_46 : decode cX8_writeStep 46 = .ok (.getfield 54, 3) := by decide +kernel
theorem dX8_writeStep_49 : decode cX8_writeStep 49 = .ok (.aload_n 0, 1) := by decide +kernel
theorem dX8_writeStep_50 : decode cX8_writeStep 50 = .ok (.getfield 10, 3) := by decide +kernel
theorem dX8_writeStep_53 : decode cX8_writeStep 53 = .ok (.getfield 187, 3) := by decide +kernel
theorem dX8_writeStep_56 : decode cX8_writeStep 56 = .ok (.getfield 232, 3) := by decide +kernel
theorem dX8_writeStep_59 : decode cX8_writeStep 59 = .ok (.iload_n 1, 1) := by decide +kernel
theorem dX8_writeStep_60 : decode cX8_writeStep 60 = .ok (.iaload, 1) := by decide +kernel
theorem dX8_writeStep_61 : decode cX8_writeStep 61 = .ok (.invokevirtual 396, 3) := by decide +kernel
theorem dX8_writeStep_64 : decode cX8_writeStep 64 = .ok (.bipush 61, 2) := by decide +kernel
theorem dX8_writeStep_66 : decode cX8_writeStep 66 = .ok (.invokevirtual 393, 3) := by decide +kernel
theorem dX8_writeStep_69 : decode cX8_writeStep 69 = .ok (.pop, 1) := by decide +kernel
theorem dX8_writeStep_70 : decode cX8_writeStep 70 = .ok (.aload_n 0, 1) := by decide +kernel
theorem dX8_writeStep_71 : decode cX8_writeStep 71 = .ok (.getfield 54, 3) := by decide +kernel
theorem dX8_writeStep_74 : decode cX8_writeStep 74 = .ok (.aload_n 0, 1) := by decide +kernel
theorem dX8_writeStep_75 : decode cX8_writeStep 75 = .ok (.getfield 10, 3) := by decide +kernel
theorem dX8_writeStep_78 : decode cX8_writeStep 78 = .ok (.getfield 187, 3) := by decide +kernel
theorem dX8_writeStep_81 : decode cX8_writeStep 81 = .ok (.getfield 234, 3) := by decide +kernel
theorem dX8_writeStep_84 : decode cX8_writeStep 84 = .ok (.iload_n 1, 1) := by decide +kernel
theorem dX8_writeStep_85 : decode cX8_writeStep 85 = .ok (.iaload, 1) := by decide +kernel
theorem dX8_writeStep_86 : decode cX8_writeStep 86 = .ok (.invokevirtual 396, 3) := by decide +kernel
theorem dX8_writeStep_89 : decode cX8_writeStep 89 = .ok (.pop, 1) := by decide +kernel
theorem dX8_writeStep_90 : decode cX8_writeStep 90 = .ok (.return_, 1) := by decide +kernel
theorem dX8_performUntilProblem_0 : decode cX8_performUntilProblem 0 = .ok (.aload_n 0, 1) := by decide +kernel
theorem dX8_performUntilProblem_1 : decode cX8_performUntilProblem 1 = .ok (.getfield 47, 3) := by decide +kernel
theorem dX8_performUntilProblem_4 : decode cX8_performUntilProblem 4 = .ok (.iconst 0, 1) := by decide +kernel
theorem dX8_performUntilProblem_5 : decode cX8_performUntilProblem 5 = .ok (.putfield 399, 3) := by decide +kernel
theorem dX8_performUntilProblem_8 : decode cX8_performUntilProblem 8 = .ok (.iconst 0, 1) := by decide +kernel
theorem dX8_performUntilProblem_9 : decode cX8_performUntilProblem 9 = .ok (.istore_n 1, 1) := by decide +kernel
theorem dX8_performUntilProblem_10 : decode cX8_performUntilProblem 10 = .ok (.iload_n 1, 1) := by decide +kernel
theorem dX8_performUntilProblem_11 : decode cX8_performUntilProblem 11 = .ok (.aload_n 0, 1) := by decide +kernel
theorem dX8_performUntilProblem_12 : decode cX8_performUntilProblem 12 = .ok (.getfield 47, 3) := by decide +kernel
theorem dX8_performUntilProblem_15 : decode cX8_performUntilProblem 15 = .ok (.getfield 339, 3) := by decide +kernel
theorem dX8_performUntilProblem_18 : decode cX8_performUntilProblem 18 = .ok (.if_icmp .ge 75, 3) := by decide +kernel
theorem dX8_performUntilProblem_21 : decode cX8_performUntilProblem 21 = .ok (.aload_n 0, 1) := by decide +kernel
theorem dX8_performUntilProblem_22 : decode cX8_performUntilProblem 22 = .ok (.getfield 47, 3) := by decide +kernel
theorem dX8_performUntilProblem_25 : decode cX8_performUntilProblem 25 = .ok (.invokevirtual 402, 3) := by decide +kernel
theorem dX8_performUntilProblem_28 : decode cX8_performUntilProblem 28 = .ok (.pop, 1) := by decide +kernel
theorem dX8_performUntilProblem_29 : decode cX8_performUntilProblem 29 = .ok (.aload_n 0, 1) := by decide +kernel
theorem dX8_performUntilProblem_30 : decode cX8_performUntilProblem 30 = .ok (.getfield 16, 3) := by decide +kernel
theorem dX8_performUntilProblem_33 : decode cX8_performUntilProblem 33 = .ok (.aload_n 0, 1) := by decide +kernel
theorem dX8_performUntilProblem_34 : decode cX8_performUntilProblem 34 = .ok (.getfield 47, 3) := by decide +kernel
theorem dX8_performUntilProblem_37 : decode cX8_performUntilProblem 37 = .ok (.getfield 405, 3) := by decide +kernel
theorem dX8_performUntilProblem_40 : decode cX8_performUntilProblem 40 = .ok (.aload_n 0, 1) := by decide +kernel
theorem dX8_performUntilProblem_41 : decode cX8_performUntilProblem 41 = .ok (.getfield 47, 3) := by decide +kernel
theorem dX8_performUntilProblem_44 : decode cX8_performUntilProblem 44 = .ok (.getfield 409, 3) := by decide +kernel
theorem dX8_performUntilProblem_47 : decode cX8_performUntilProblem 47 = .ok (.invokevirtual 412, 3) := by decide +kernel
theorem dX8_performUntilProblem_50 : decode cX8_performUntilProblem 50 = .ok (.getstatic 416, 3) := by decide +kernel
theorem dX8_performUntilProblem_53 : decode cX8_performUntilProblem 53 = .ok (.if_acmp .eq 5, 3) := by decide +kernel
theorem dX8_performUntilProblem_56 : decode cX8_performUntilProblem 56 = .ok (.iload_n 1, 1) := by decide +kernel
theorem dX8_performUntilProblem_57 : decode cX8_performUntilProblem 57 = .ok (.ireturn, 1) := by decide +kernel
theorem dX8_performUntilProblem_58 : decode cX8_performUntilProblem 58 = .ok (.aload_n 0, 1) := by decide +kernel
theorem dX8_performUntilProblem_59 : decode cX8_performUntilProblem 59 = .ok (.getfield 16, 3) := by decide +kernel
theorem dX8_performUntilProblem_62 : decode cX8_performUntilProblem 62 = .ok (.aload_n 0, 1) := by decide +kernel
theorem dX8_performUntilProblem_63 : decode cX8_performUntilProblem 63 = .ok (.getfield 47, 3) := by decide +kernel
theorem dX8_performUntilProblem_66 : decode cX8_performUntilProblem 66 = .ok (.getfield 405, 3) := by decide +kernel
theorem dX8_performUntilProblem_69 : decode cX8_performUntilProblem 69 = .ok (.aload_n 0, 1) := by decide +kernel
theorem dX8_performUntilProblem_70 : decode cX8_performUntilProblem 70 = .ok (.getfield 47, 3) := by decide +kernel
theorem dX8_performUntilProblem_73 : decode cX8_performUntilProblem 73 = .ok (.getfield 409, 3) := by decide +kernel
theorem dX8_performUntilProblem_76 : decode cX8_performUntilProblem 76 = .ok (.invokevirtual 420, 3) := by decide +kernel
theorem dX8_performUntilProblem_79 : decode cX8_performUntilProblem 79 = .ok (.aload_n 0, 1) := by decide +kernel
theorem dX8_performUntilProblem_80 : decode cX8_performUntilProblem 80 = .ok (.getfield 47, 3) := by decide +kernel
theorem dX8_performUntilProblem_83 : decode cX8_performUntilProblem 83 = .ok (.invokevirtual 424, 3) := by decide +kernel
theorem dX8_performUntilProblem_86 : decode cX8_performUntilProblem 86 = .ok (.pop, 1) := by decide +kernel
theorem dX8_performUntilProblem_87 : decode cX8_performUntilProblem 87 = .ok (.iinc 1 1, 3) := by decide +kernel
theorem dX8_performUntilProblem_90 : decode cX8_performUntilProblem 90 = .ok (.goto (-80), 3) := by decide +kernel
theorem dX8_performUntilProblem_93 : decode cX8_performUntilProblem 93 = .ok (.aload_n 0, 1) := by decide +kernel
theorem dX8_performUntilProblem_94 : decode cX8_performUntilProblem 94 = .ok (.getfield 47, 3) := by decide +kernel
theorem dX8_performUntilProblem_97 : decode cX8_performUntilProblem 97 = .ok (.getfield 339, 3) := by decide +kernel
theorem dX8_performUntilProblem_100 : decode cX8_performUntilProblem 100 = .ok (.ireturn, 1) := by decide +kernel
end
section
/-! The fountain's state in numbers and lists; what the loops compute. -/
abbrev Jt : Type := Nat × Nat
abbrev Sp : Type := Nat × Nat × Nat
abbrev En : Type := Nat × Nat
def jp (J : List Jt) (j : Nat) : Nat := (J.getD j (0, 0)).1
def jo (J : List Jt) (j : Nat) : Nat := (J.getD j (0, 0)).2
def sumN (g : Nat → Nat) : Nat → Nat
  | 0 => 0
  | n + 1 => sumN g n + g n
def cntB (P : Nat → Bool) : Nat → Nat
  | 0 => 0
  | n + 1 => cntB P n + (if P n = true then 1 else 0)
/-- the first of them that is better than all before it, from 0 on -/
def bst (P : Nat → Nat → Bool) : Nat → Nat
  | 0 => 0
  | n + 1 => if P n (bst P n) = true then n else bst P n
def fnd (P : Nat → Bool) (n : Nat) : Option Nat := (List.range n).find? P
theorem fnd_some {P : Nat → Bool} {n j : Nat} (h : P j = true) (hj : j < n) (hb : ∀ i, i < j → P i = false) : fnd P n = some j := by
  unfold fnd
  rw [List.find?_range_eq_some]
  exact ⟨h, List.mem_range.mpr hj, fun i hi => by simp [hb i hi]⟩
theorem fnd_none {P : Nat → Bool} {n : Nat} (hb : ∀ i, i < n → P i = false) : fnd P n = none := by
  unfold fnd
  rw [List.find?_range_eq_none]
  exact fun i hi => by simp [hb i hi]
theorem cntB_le {P : Nat → Bool} : ∀ n, cntB P n ≤ n
  | 0 => Nat.le_refl _
  | n + 1 => by
    have := cntB_le (P := P) n
    simp only [cntB]
    split <;> omega
theorem bst_lt {P : Nat → Nat → Bool} : ∀ n, 0 < n → bst P n < n
  | 0, h => absurd h (by omega)
  | n + 1, _ => by
    simp only [bst]
    split
    · omega
    · cases n with
      | zero => simp [bst]
      | succ n => have := bst_lt (P := P) (n + 1) (by omega); omega
theorem sumN_le {g : Nat → Nat} {b : Nat} (h : ∀ j, g j ≤ b) : ∀ n, sumN g n ≤ b * n
  | 0 => Nat.le_refl _
  | n + 1 => by
    have := sumN_le h n
    have := h n
    simp only [sumN, Nat.mul_succ]
    omega
def dem (J : List Jt) : Nat := sumN (jo J) J.length
def hgt (cap D o : Nat) : Nat := if cap < D then 10 * o * cap / D else 10 * o
def lan (J : List Jt) (cap : Nat) (w : Int32) (D j : Nat) : Int32 := nI (jp J j) + nI (hgt cap D (jo J j)) * w / 20
def wil (x : Int32) : Bool := decide (x < 0) || decide (99 < x)
def bI (b : Bool) : Int32 := if b = true then 1 else 0
/-- positions and openings are within their ranges -/
def JI (J : List Jt) : Prop := ∀ j, jp J j ≤ 99 ∧ jo J j ≤ 10
theorem dem_le {J : List Jt} (h : JI J) (hn : J.length ≤ 10) : dem J ≤ 100 := by
  have := sumN_le (fun j => (h j).2) J.length
  unfold dem
  omega
theorem hgt_le {cap D o : Nat} (ho : o ≤ 10) : hgt cap D o ≤ 100 := by
  unfold hgt
  split
  · rename_i h
    have h1 : 10 * o * cap / D ≤ 10 * o := by
      apply Nat.div_le_of_le_mul
      rw [Nat.mul_comm D]
      exact Nat.mul_le_mul_left _ (by omega)
    omega
  · omega
/-- the jets' three cells at a -/
def JA0 (G : GA) (F : AH) (a n : Nat) (f g : Nat → Int32) (cap : Nat) (w : Int32) : Prop :=
  F.2 a = some (.inr (1, [.ref (a + 1), .ref (a + 2), .int (nI n), .int (nI cap), .int w])) ∧ F.2 (a + 1) = some (.inl (gC G 0, 10, .inl f)) ∧ F.2 (a + 2) = some (.inl (gC G 0, 10, .inl g))
def JR (J : List Jt) (f g : Nat → Int32) : Prop := J.length ≤ 10 ∧ ∀ j, j < J.length → f j = nI (jp J j) ∧ g j = nI (jo J j)
def JA (G : GA) (F : AH) (a : Nat) (J : List Jt) (cap : Nat) (w : Int32) : Prop := ∃ f g, JA0 G F a J.length f g cap w ∧ JR J f g
theorem JA.kept {G : GA} {F F' : AH} {a : Nat} {J : List Jt} {cap : Nat} {w : Int32} (h : JA G F a J cap w) (e : ∀ q, a ≤ q → q < a + 3 → F'.2 q = F.2 q) : JA G F' a J cap w := by
  obtain ⟨f, g, ⟨h1, h2, h3⟩, h4⟩ := h
  exact ⟨f, g, ⟨(e a (by omega) (by omega)).trans h1, (e (a + 1) (by omega) (by omega)).trans h2, (e (a + 2) (by omega) (by omega)).trans h3⟩, h4⟩
end
section
/-! Jets: the methods that read. -/
section
variable {G : GA} {F : AH} {a : Nat} {J : List Jt} {cap : Nat} {w : Int32}
set_option maxRecDepth 100000 in
theorem X3_sum_ok (hJ : JA G F a J cap w) : AC G mX3_sumOfOpenings 0 0 0 [.ref a] F (AV (some (.int (nI (dem J)))) F) := by
  obtain ⟨f, g, ⟨h0, h1, h2⟩, hn, hr⟩ := hJ
  refine AC.of [some (.ref a), none, none] rfl (by decide) (Nat.le_of_ble_eq_true rfl) rfl ?_
  have loop : ∀ k j, j + k = J.length → AF G mX3_sumOfOpenings 0 0 0 (AV (some (.int (nI (dem J)))) F) F 4 [some (.ref a), some (.int (nI (sumN (jo J) j))), some (.int (nI j))] [] := by
    intro k
    induction k with
    | zero =>
      intro j hj
      refine AF.iload_n dX3_sumOfOpenings_4 rfl ?_
      refine AF.aload_n dX3_sumOfOpenings_5 rfl ?_
      refine AF.getfield dX3_sumOfOpenings_6 fl_X3_18 (by assumption) rfl ?_
      refine AF.icmp_ge 27 dX3_sumOfOpenings_9 (by decide) (fun hb => ?_) (fun hb => ?_)
      · refine AF.iload_n dX3_sumOfOpenings_27 rfl ?_
        exact AF.ireturn dX3_sumOfOpenings_28 rfl ⟨by rw [show j = J.length by omega]; rfl, rfl⟩
      · exact absurd (by rw [nI_leI (by omega) (by omega)]; omega) hb
    | succ k ih =>
      intro j hj
      refine AF.iload_n dX3_sumOfOpenings_4 rfl ?_
      refine AF.aload_n dX3_sumOfOpenings_5 rfl ?_
      refine AF.getfield dX3_sumOfOpenings_6 fl_X3_18 (by assumption) rfl ?_
      refine AF.icmp_ge 27 dX3_sumOfOpenings_9 (by decide) (fun hb => ?_) (fun hb => ?_)
      · rw [nI_leI (by omega) (by omega)] at hb
        omega
      · refine AF.iload_n dX3_sumOfOpenings_12 rfl ?_
        refine AF.aload_n dX3_sumOfOpenings_13 rfl ?_
        refine AF.getfield dX3_sumOfOpenings_14 fl_X3_15 (by assumption) rfl ?_
        refine AF.iload_n dX3_sumOfOpenings_17 rfl ?_
        refine AF.iaload (_) dX3_sumOfOpenings_18 (by assumption) rfl (by omega) (by decide) ?_
        rw [(hr j (by omega)).2, ]
        refine AF.iadd dX3_sumOfOpenings_19 ?_
        rw [nI_add]
        refine AF.istore_n dX3_sumOfOpenings_20 (by decide) ?_
        refine AF.inc1 dX3_sumOfOpenings_21 rfl (by decide) ?_
        refine AF.goto 4 dX3_sumOfOpenings_24 (by decide) ?_
        exact ih (j + 1) (by omega)
  refine AF.iconst (0) dX3_sumOfOpenings_0 (by decide) ?_
  refine AF.istore_n dX3_sumOfOpenings_1 (by decide) ?_
  refine AF.iconst (0) dX3_sumOfOpenings_2 (by decide) ?_
  refine AF.istore_n dX3_sumOfOpenings_3 (by decide) ?_
  exact loop J.length 0 (by omega)
set_option maxRecDepth 100000 in
theorem X3_has_ok (hJ : JA G F a J cap w) (x : Int32) : AC G mX3_has 0 0 0 [.ref a, .int x] F (AV (some (.int (bI (decide (0 ≤ x) && decide (x < nI J.length))))) F) := by
  obtain ⟨f, g, ⟨h0, h1, h2⟩, hn, hr⟩ := hJ
  refine AC.of [some (.ref a), some (.int x)] rfl (by decide) (Nat.le_of_ble_eq_true rfl) rfl ?_
  refine AF.iload_n dX3_has_0 rfl ?_
  refine AF.if_lt 16 dX3_has_1 (by decide) (fun c1 => ?_) (fun c1 => ?_)
  · refine AF.iconst (0) dX3_has_16 (by decide) ?_
    exact AF.zreturn dX3_has_17 rfl rfl ⟨by rw [decide_eq_false (Int32.not_le.mpr c1)]; rfl, rfl⟩
  · refine AF.iload_n dX3_has_4 rfl ?_
    refine AF.aload_n dX3_has_5 rfl ?_
    refine AF.getfield dX3_has_6 fl_X3_18 (by assumption) rfl ?_
    refine AF.icmp_ge 16 dX3_has_9 (by decide) (fun c2 => ?_) (fun c2 => ?_)
    · refine AF.iconst (0) dX3_has_16 (by decide) ?_
      exact AF.zreturn dX3_has_17 rfl rfl ⟨by rw [decide_eq_false (Int32.not_lt.mpr c2), Bool.and_false]; rfl, rfl⟩
    · refine AF.iconst (1) dX3_has_12 (by decide) ?_
      refine AF.goto 17 dX3_has_13 (by decide) ?_
      exact AF.zreturn dX3_has_17 rfl rfl ⟨by rw [decide_eq_true (Int32.not_lt.mp c1), decide_eq_true (Int32.not_le.mp c2)]; rfl, rfl⟩
set_option maxRecDepth 100000 in
theorem X3_isTaken_ok (hJ : JA G F a J cap w) (x : Int32) : AC G mX3_isTaken 0 0 0 [.ref a, .int x] F (AV (some (.int (bI (fnd (fun j => decide (nI (jp J j) = x)) J.length).isSome))) F) := by
  obtain ⟨f, g, ⟨h0, h1, h2⟩, hn, hr⟩ := hJ
  refine AC.of [some (.ref a), some (.int x), none] rfl (by decide) (Nat.le_of_ble_eq_true rfl) rfl ?_
  have loop : ∀ k j, j + k = J.length → (∀ i, i < j → decide (nI (jp J i) = x) = false) → AF G mX3_isTaken 0 0 0 (AV (some (.int (bI (fnd (fun j => decide (nI (jp J j) = x)) J.length).isSome))) F) F 2 [some (.ref a), some (.int x), some (.int (nI j))] [] := by
    intro k
    induction k with
    | zero =>
      intro j hj hb9
      refine AF.iload_n dX3_isTaken_2 rfl ?_
      refine AF.aload_n dX3_isTaken_3 rfl ?_
      refine AF.getfield dX3_isTaken_4 fl_X3_18 (by assumption) rfl ?_
      refine AF.icmp_ge 28 dX3_isTaken_7 (by decide) (fun hb => ?_) (fun hb => ?_)
      · refine AF.iconst (0) dX3_isTaken_28 (by decide) ?_
        exact AF.zreturn dX3_isTaken_29 rfl rfl ⟨by rw [fnd_none (fun i hi => hb9 i (by omega))]; rfl, rfl⟩
      · exact absurd (by rw [nI_leI (by omega) (by omega)]; omega) hb
    | succ k ih =>
      intro j hj hb9
      refine AF.iload_n dX3_isTaken_2 rfl ?_
      refine AF.aload_n dX3_isTaken_3 rfl ?_
      refine AF.getfield dX3_isTaken_4 fl_X3_18 (by assumption) rfl ?_
      refine AF.icmp_ge 28 dX3_isTaken_7 (by decide) (fun hb => ?_) (fun hb => ?_)
      · rw [nI_leI (by omega) (by omega)] at hb
        omega
      · refine AF.aload_n dX3_isTaken_10 rfl ?_
        refine AF.getfield dX3_isTaken_11 fl_X3_9 (by assumption) rfl ?_
        refine AF.iload_n dX3_isTaken_14 rfl ?_
        refine AF.iaload (_) dX3_isTaken_15 (by assumption) rfl (by omega) (by decide) ?_
        refine AF.iload_n dX3_isTaken_16 rfl ?_
        rw [(hr j (by omega)).1]
        refine AF.icmp_ne 22 dX3_isTaken_17 (by decide) (fun hc => ?_) (fun hc => ?_)
        · refine AF.inc1 dX3_isTaken_22 rfl (by decide) ?_
          refine AF.goto 2 dX3_isTaken_25 (by decide) ?_
          refine ih (j + 1) (by omega) (fun i hi => ?_)
          by_cases e : i = j
          · rw [e]; exact decide_eq_false hc
          · exact hb9 i (by omega)
        · refine AF.iconst (1) dX3_isTaken_20 (by decide) ?_
          exact AF.zreturn dX3_isTaken_21 rfl rfl ⟨by rw [fnd_some (decide_eq_true hc) (by omega) hb9]; rfl, rfl⟩
  refine AF.iconst (0) dX3_isTaken_0 (by decide) ?_
  refine AF.istore_n dX3_isTaken_1 (by decide) ?_
  exact loop J.length 0 (by omega) (fun i hi => by omega)
set_option maxRecDepth 100000 in
theorem X3_supplyFor_ok (hJ : JA G F a J cap w) (D : Nat) (hD : D < 2 ^ 31) (hc : cap < 2 ^ 31) : AC G mX3_supplyFor 1 0 0 [.ref a, .int (nI D)] F (AV (some (.int (nI (if cap < D then cap else D)))) F) := by
  obtain ⟨f, g, ⟨h0, h1, h2⟩, hn, hr⟩ := hJ
  refine AC.of [some (.ref a), some (.int (nI D))] rfl (by decide) (Nat.le_of_ble_eq_true rfl) rfl ?_
  refine AF.iload_n dX3_supplyFor_0 rfl ?_
  refine AF.aload_n dX3_supplyFor_1 rfl ?_
  refine AF.getfield dX3_supplyFor_2 fl_X3_22 (by assumption) rfl ?_
  refine AF.min dX3_supplyFor_5 km_X3_59 (Nat.le_of_ble_eq_true rfl) (by decide) ?_
  refine AF.ireturn dX3_supplyFor_8 rfl ⟨?_, rfl⟩
  by_cases h : cap < D
  · rw [if_pos h, if_pos ((nI_ltI hc hD).mpr h)]
  · rw [if_neg h, if_neg (fun q => h ((nI_ltI hc hD).mp q))]
set_option maxRecDepth 100000 in
theorem X3_heightOf_ok (hJ : JA G F a J cap w) (hI : JI J) (hcap : cap ≤ 100) (D j : Nat) (hD : D ≤ 100) (hj : j < J.length) : AC G mX3_heightOf 0 0 0 [.ref a, .int (nI j), .int (nI D)] F (AV (some (.int (nI (hgt cap D (jo J j))))) F) := by
  obtain ⟨f, g, ⟨h0, h1, h2⟩, hn, hr⟩ := hJ
  have ho := (hI j).2
  refine AC.of [some (.ref a), some (.int (nI j)), some (.int (nI D)), none] rfl (by decide) (Nat.le_of_ble_eq_true rfl) rfl ?_
  refine AF.bipush (nI 10) dX3_heightOf_0 (by decide) ?_
  refine AF.aload_n dX3_heightOf_2 rfl ?_
  refine AF.getfield dX3_heightOf_3 fl_X3_15 (by assumption) rfl ?_
  refine AF.iload_n dX3_heightOf_6 rfl ?_
  refine AF.iaload (_) dX3_heightOf_7 (by assumption) rfl (by omega) (by decide) ?_
  rw [(hr j hj).2]
  refine AF.imul dX3_heightOf_8 ?_
  rw [pk_mul]
  refine AF.istore_n dX3_heightOf_9 (by decide) ?_
  refine AF.iload_n dX3_heightOf_10 rfl ?_
  refine AF.if_le 33 dX3_heightOf_11 (by decide) (fun c1 => ?_) (fun c1 => ?_)
  · refine AF.iload_n dX3_heightOf_33 rfl ?_
    refine AF.ireturn dX3_heightOf_34 rfl ⟨?_, rfl⟩
    have : ¬ 0 < D := fun h => absurd c1 (nI_nle h (by omega))
    rw [hgt, if_neg (by omega)]
  · refine AF.iload_n dX3_heightOf_14 rfl ?_
    refine AF.aload_n dX3_heightOf_15 rfl ?_
    refine AF.getfield dX3_heightOf_16 fl_X3_22 (by assumption) rfl ?_
    refine AF.icmp_le 33 dX3_heightOf_19 (by decide) (fun c2 => ?_) (fun c2 => ?_)
    · refine AF.iload_n dX3_heightOf_33 rfl ?_
      rw [nI_leI (by omega) (by omega)] at c2
      exact AF.ireturn dX3_heightOf_34 rfl ⟨by rw [hgt, if_neg (by omega)], rfl⟩
    · rw [nI_leI (by omega) (by omega)] at c2
      refine AF.iload_n dX3_heightOf_22 rfl ?_
      refine AF.aload_n dX3_heightOf_23 rfl ?_
      refine AF.getfield dX3_heightOf_24 fl_X3_22 (by assumption) rfl ?_
      have hb : 10 * jo J j * cap ≤ 100 * 100 := Nat.mul_le_mul (by omega) hcap
      refine AF.imul dX3_heightOf_27 ?_
      rw [pk_mul]
      refine AF.iload_n dX3_heightOf_28 rfl ?_
      refine AF.idiv dX3_heightOf_29 (nI_ne0 (by omega) (by omega)) ?_
      rw [pk_div (by omega) (by omega) (by omega)]
      refine AF.goto 34 dX3_heightOf_30 (by decide) ?_
      exact AF.ireturn dX3_heightOf_34 rfl ⟨by rw [hgt, if_pos (by omega)], rfl⟩
set_option maxRecDepth 100000 in
theorem X3_landingOf_ok (hJ : JA G F a J cap w) (hI : JI J) (hcap : cap ≤ 100) (D j : Nat) (hD : D ≤ 100) (hj : j < J.length) : AC G mX3_landingOf 1 0 0 [.ref a, .int (nI j), .int (nI D)] F (AV (some (.int (lan J cap w D j))) F) := by
  have hh := X3_heightOf_ok hJ hI hcap D j hD hj
  obtain ⟨f, g, ⟨h0, h1, h2⟩, hn, hr⟩ := hJ
  refine AC.of [some (.ref a), some (.int (nI j)), some (.int (nI D))] rfl (by decide) (Nat.le_of_ble_eq_true rfl) rfl ?_
  refine AF.aload_n dX3_landingOf_0 rfl ?_
  refine AF.getfield dX3_landingOf_1 fl_X3_9 (by assumption) rfl ?_
  refine AF.iload_n dX3_landingOf_4 rfl ?_
  refine AF.iaload (_) dX3_landingOf_5 (by assumption) rfl (by omega) (by decide) ?_
  rw [(hr j hj).1]
  refine AF.aload_n dX3_landingOf_6 rfl ?_
  refine AF.iload_n dX3_landingOf_7 rfl ?_
  refine AF.iload_n dX3_landingOf_8 rfl ?_
  refine AF.v1 dX3_landingOf_9 kv_X3_65 (hh) (by assumption) rfl rfl rfl (Nat.le_of_ble_eq_true rfl) (by decide) rfl ?_
  refine AF.aload_n dX3_landingOf_12 rfl ?_
  refine AF.getfield dX3_landingOf_13 fl_X3_25 (by assumption) rfl ?_
  refine AF.imul dX3_landingOf_16 ?_
  refine AF.bipush (20) dX3_landingOf_17 (by decide) ?_
  refine AF.idiv dX3_landingOf_19 (by decide) ?_
  refine AF.iadd dX3_landingOf_20 ?_
  exact AF.ireturn dX3_landingOf_21 rfl ⟨rfl, rfl⟩
set_option maxRecDepth 100000 in
theorem X3_isOutside_ok (x : Int32) : AC G mX3_isOutside 0 0 0 [.int x] F (AV (some (.int (bI (wil x)))) F) := by
  refine AC.of [some (.int x)] rfl (by decide) (Nat.le_of_ble_eq_true rfl) rfl ?_
  unfold wil
  refine AF.iload_n dX3_isOutside_0 rfl ?_
  refine AF.if_lt 10 dX3_isOutside_1 (by decide) (fun c1 => ?_) (fun c1 => ?_)
  · refine AF.iconst (1) dX3_isOutside_10 (by decide) ?_
    refine AF.goto 15 dX3_isOutside_11 (by decide) ?_
    exact AF.zreturn dX3_isOutside_15 rfl rfl ⟨by rw [decide_eq_true c1]; rfl, rfl⟩
  · refine AF.iload_n dX3_isOutside_4 rfl ?_
    refine AF.bipush (99) dX3_isOutside_5 (by decide) ?_
    refine AF.icmp_le 14 dX3_isOutside_7 (by decide) (fun c2 => ?_) (fun c2 => ?_)
    · refine AF.iconst (0) dX3_isOutside_14 (by decide) ?_
      exact AF.zreturn dX3_isOutside_15 rfl rfl ⟨by rw [decide_eq_false c1, decide_eq_false (Int32.not_lt.mpr c2)]; rfl, rfl⟩
    · refine AF.iconst (1) dX3_isOutside_10 (by decide) ?_
      refine AF.goto 15 dX3_isOutside_11 (by decide) ?_
      exact AF.zreturn dX3_isOutside_15 rfl rfl ⟨by rw [decide_eq_true (Int32.not_le.mp c2), Bool.or_true]; rfl, rfl⟩
end
end
section
/-! Jets: wild jets, ranks, landings, crossings; what a change is refused for. -/
theorem bst_1 {P : Nat → Nat → Bool} : bst P 1 = 0 := by
  have h := bst_lt (P := P) 1 (by omega)
  omega
theorem bI_0 {b : Bool} : bI b = 0 ↔ b = false := by cases b <;> simp [bI] 
theorem bI_n {b : Bool} (h : ¬ bI b = 0) : b = true := by cases b <;> simp_all [bI]
theorem bI_z {b : Bool} (h : bI b = 0) : b = false := bI_0.mp h
def wld (J : List Jt) (cap : Nat) (w : Int32) (j : Nat) : Bool := wil (lan J cap w (dem J) j)
def wfst (J : List Jt) (cap : Nat) (w : Int32) : Option Nat := fnd (wld J cap w) J.length
def hasB (n : Nat) (x : Int32) : Bool := decide (0 ≤ x) && decide (x < nI n)
def rnk (J : List Jt) (j : Nat) : Nat := cntB (fun o => decide (jp J o < jp J j)) J.length
def dst (x p : Int32) : Int64 := if 0 < x.toInt64 - p.toInt64 then x.toInt64 - p.toInt64 else -(x.toInt64 - p.toInt64)
def nrst (J : List Jt) (cap : Nat) (w : Int32) (p : Int32) : Nat := bst (fun j b => decide (dst (lan J cap w (dem J) j) p < dst (lan J cap w (dem J) b) p)) J.length
def hghst (J : List Jt) (cap : Nat) : Nat := bst (fun j b => decide (hgt cap (dem J) (jo J b) < hgt cap (dem J) (jo J j))) J.length
def crs (J : List Jt) (cap : Nat) (w : Int32) (j o : Nat) : Bool := decide (jp J j < jp J o) && decide (lan J cap w (dem J) o < lan J cap w (dem J) j)
def prs (J : List Jt) (cap : Nat) (w : Int32) : Nat := sumN (fun j => cntB (crs J cap w j) J.length) J.length
theorem pz {G : GA} (hG : GOK G) (i : Nat) (hi : i < 5) : va_Z "FountainShow$Problem" (pnm.getD i "") "LFountainShow$Problem;" (.ref (gk G i)) (gA G) G.2.1 G.2.1.heap := (hG.2.2.2.2.2.2.1.1 i hi).1
section
variable {G : GA} {F : AH} {a : Nat} {J : List Jt} {cap : Nat} {w : Int32}
set_option maxRecDepth 100000 in
theorem X3_countWild_ok (hJ : JA G F a J cap w) (hI : JI J) (hcap : cap ≤ 100) : AC G mX3_countWild 2 0 0 [.ref a] F (AV (some (.int (nI (cntB (wld J cap w) J.length)))) F) := by
  have hs := X3_sum_ok hJ
  have hL := fun j hj => X3_landingOf_ok hJ hI hcap (dem J) j (dem_le hI hJ.choose_spec.choose_spec.2.1) hj
  obtain ⟨f, g, ⟨h0, h1, h2⟩, hn, hr⟩ := hJ
  refine AC.of [some (.ref a), none, none, none] rfl (by decide) (Nat.le_of_ble_eq_true rfl) rfl ?_
  have loop : ∀ k j, j + k = J.length → AF G mX3_countWild 2 0 0 (AV (some (.int (nI (cntB (wld J cap w) J.length)))) F) F 9 [some (.ref a), some (.int (nI (dem J))), some (.int (nI (cntB (wld J cap w) j))), some (.int (nI j))] [] := by
    intro k
    induction k with
    | zero =>
      intro j hj
      refine AF.iload_n dX3_countWild_9 rfl ?_
      refine AF.aload_n dX3_countWild_10 rfl ?_
      refine AF.getfield dX3_countWild_11 fl_X3_18 (by assumption) rfl ?_
      refine AF.icmp_ge 38 dX3_countWild_14 (by decide) (fun hb => ?_) (fun hb => ?_)
      · refine AF.iload_n dX3_countWild_38 rfl ?_
        exact AF.ireturn dX3_countWild_39 rfl ⟨by rw [show j = J.length by omega], rfl⟩
      · exact absurd (by rw [nI_leI (by omega) (by omega)]; omega) hb
    | succ k ih =>
      intro j hj
      refine AF.iload_n dX3_countWild_9 rfl ?_
      refine AF.aload_n dX3_countWild_10 rfl ?_
      refine AF.getfield dX3_countWild_11 fl_X3_18 (by assumption) rfl ?_
      refine AF.icmp_ge 38 dX3_countWild_14 (by decide) (fun hb => ?_) (fun hb => ?_)
      · rw [nI_leI (by omega) (by omega)] at hb
        omega
      · refine AF.aload_n dX3_countWild_17 rfl ?_
        refine AF.iload_n dX3_countWild_18 rfl ?_
        refine AF.iload_n dX3_countWild_19 rfl ?_
        refine AF.v1 dX3_countWild_20 kv_X3_72 ((hL j (by omega))) (by assumption) rfl rfl rfl (Nat.le_of_ble_eq_true rfl) (by decide) rfl ?_
        refine AF.s1 dX3_countWild_23 kv_X3_75 ((X3_isOutside_ok _)) rfl rfl (Nat.le_of_ble_eq_true rfl) (by decide) rfl ?_
        refine AF.if_eq 32 dX3_countWild_26 (by decide) (fun hc => ?_) (fun hc => ?_)
        · refine AF.inc1 dX3_countWild_32 rfl (by decide) ?_
          refine AF.goto 9 dX3_countWild_35 (by decide) ?_
          have h9 := ih (j + 1) (by omega)
          rw [show cntB (wld J cap w) (j + 1) = cntB (wld J cap w) j by simp only [cntB]; rw [if_neg (by rw [wld, bI_z hc]; decide), Nat.add_zero]] at h9
          exact h9
        · refine AF.inc1 dX3_countWild_29 rfl (by decide) ?_
          refine AF.inc1 dX3_countWild_32 rfl (by decide) ?_
          refine AF.goto 9 dX3_countWild_35 (by decide) ?_
          have h9 := ih (j + 1) (by omega)
          rw [show cntB (wld J cap w) (j + 1) = cntB (wld J cap w) j + 1 by simp only [cntB]; rw [if_pos (by rw [wld, bI_n hc])]] at h9
          exact h9
  refine AF.aload_n dX3_countWild_0 rfl ?_
  refine AF.v1 dX3_countWild_1 kv_X3_68 (hs) (by assumption) rfl rfl rfl (Nat.le_of_ble_eq_true rfl) (by decide) rfl ?_
  refine AF.istore_n dX3_countWild_4 (by decide) ?_
  refine AF.iconst (0) dX3_countWild_5 (by decide) ?_
  refine AF.istore_n dX3_countWild_6 (by decide) ?_
  refine AF.iconst (0) dX3_countWild_7 (by decide) ?_
  refine AF.istore_n dX3_countWild_8 (by decide) ?_
  exact loop J.length 0 (by omega)
set_option maxRecDepth 100000 in
theorem X3_findFirstWild_ok (hJ : JA G F a J cap w) (hI : JI J) (hcap : cap ≤ 100) : AC G mX3_findFirstWild 2 0 0 [.ref a] F (AV (some (.int (match wfst J cap w with | some j => nI j | none => -1))) F) := by
  have hs := X3_sum_ok hJ
  have hL := fun j hj => X3_landingOf_ok hJ hI hcap (dem J) j (dem_le hI hJ.choose_spec.choose_spec.2.1) hj
  obtain ⟨f, g, ⟨h0, h1, h2⟩, hn, hr⟩ := hJ
  refine AC.of [some (.ref a), none, none] rfl (by decide) (Nat.le_of_ble_eq_true rfl) rfl ?_
  have loop : ∀ k j, j + k = J.length → (∀ i, i < j → wld J cap w i = false) → AF G mX3_findFirstWild 2 0 0 (AV (some (.int (match wfst J cap w with | some j => nI j | none => -1))) F) F 7 [some (.ref a), some (.int (nI (dem J))), some (.int (nI j))] [] := by
    intro k
    induction k with
    | zero =>
      intro j hj hb9
      refine AF.iload_n dX3_findFirstWild_7 rfl ?_
      refine AF.aload_n dX3_findFirstWild_8 rfl ?_
      refine AF.getfield dX3_findFirstWild_9 fl_X3_18 (by assumption) rfl ?_
      refine AF.icmp_ge 35 dX3_findFirstWild_12 (by decide) (fun hb => ?_) (fun hb => ?_)
      · refine AF.iconst (-1) dX3_findFirstWild_35 (by decide) ?_
        exact AF.ireturn dX3_findFirstWild_36 rfl ⟨by rw [show wfst J cap w = none from fnd_none (fun i hi => hb9 i (by omega))], rfl⟩
      · exact absurd (by rw [nI_leI (by omega) (by omega)]; omega) hb
    | succ k ih =>
      intro j hj hb9
      refine AF.iload_n dX3_findFirstWild_7 rfl ?_
      refine AF.aload_n dX3_findFirstWild_8 rfl ?_
      refine AF.getfield dX3_findFirstWild_9 fl_X3_18 (by assumption) rfl ?_
      refine AF.icmp_ge 35 dX3_findFirstWild_12 (by decide) (fun hb => ?_) (fun hb => ?_)
      · rw [nI_leI (by omega) (by omega)] at hb
        omega
      · refine AF.aload_n dX3_findFirstWild_15 rfl ?_
        refine AF.iload_n dX3_findFirstWild_16 rfl ?_
        refine AF.iload_n dX3_findFirstWild_17 rfl ?_
        refine AF.v1 dX3_findFirstWild_18 kv_X3_72 ((hL j (by omega))) (by assumption) rfl rfl rfl (Nat.le_of_ble_eq_true rfl) (by decide) rfl ?_
        refine AF.s1 dX3_findFirstWild_21 kv_X3_75 ((X3_isOutside_ok _)) rfl rfl (Nat.le_of_ble_eq_true rfl) (by decide) rfl ?_
        refine AF.if_eq 29 dX3_findFirstWild_24 (by decide) (fun hc => ?_) (fun hc => ?_)
        · refine AF.inc1 dX3_findFirstWild_29 rfl (by decide) ?_
          refine AF.goto 7 dX3_findFirstWild_32 (by decide) ?_
          refine ih (j + 1) (by omega) (fun i hi => ?_)
          by_cases e : i = j
          · rw [e]; exact bI_z hc
          · exact hb9 i (by omega)
        · refine AF.iload_n dX3_findFirstWild_27 rfl ?_
          exact AF.ireturn dX3_findFirstWild_28 rfl ⟨by rw [show wfst J cap w = some j from fnd_some (bI_n hc) (by omega) hb9], rfl⟩
  refine AF.aload_n dX3_findFirstWild_0 rfl ?_
  refine AF.v1 dX3_findFirstWild_1 kv_X3_68 (hs) (by assumption) rfl rfl rfl (Nat.le_of_ble_eq_true rfl) (by decide) rfl ?_
  refine AF.istore_n dX3_findFirstWild_4 (by decide) ?_
  refine AF.iconst (0) dX3_findFirstWild_5 (by decide) ?_
  refine AF.istore_n dX3_findFirstWild_6 (by decide) ?_
  exact loop J.length 0 (by omega) (fun i hi => by omega)
set_option maxRecDepth 100000 in
theorem X3_rankOf_ok (hJ : JA G F a J cap w) (hI : JI J) (x : Nat) (hx : x < J.length) : AC G mX3_rankOf 0 0 0 [.ref a, .int (nI x)] F (AV (some (.int (nI (rnk J x)))) F) := by
  obtain ⟨f, g, ⟨h0, h1, h2⟩, hn, hr⟩ := hJ
  refine AC.of [some (.ref a), some (.int (nI x)), none, none] rfl (by decide) (Nat.le_of_ble_eq_true rfl) rfl ?_
  have loop : ∀ k j, j + k = J.length → AF G mX3_rankOf 0 0 0 (AV (some (.int (nI (rnk J x)))) F) F 4 [some (.ref a), some (.int (nI x)), some (.int (nI (cntB (fun o => decide (jp J o < jp J x)) j))), some (.int (nI j))] [] := by
    intro k
    induction k with
    | zero =>
      intro j hj
      refine AF.iload_n dX3_rankOf_4 rfl ?_
      refine AF.aload_n dX3_rankOf_5 rfl ?_
      refine AF.getfield dX3_rankOf_6 fl_X3_18 (by assumption) rfl ?_
      refine AF.icmp_ge 36 dX3_rankOf_9 (by decide) (fun hb => ?_) (fun hb => ?_)
      · refine AF.iload_n dX3_rankOf_36 rfl ?_
        exact AF.ireturn dX3_rankOf_37 rfl ⟨by rw [show j = J.length by omega]; rfl, rfl⟩
      · exact absurd (by rw [nI_leI (by omega) (by omega)]; omega) hb
    | succ k ih =>
      intro j hj
      refine AF.iload_n dX3_rankOf_4 rfl ?_
      refine AF.aload_n dX3_rankOf_5 rfl ?_
      refine AF.getfield dX3_rankOf_6 fl_X3_18 (by assumption) rfl ?_
      refine AF.icmp_ge 36 dX3_rankOf_9 (by decide) (fun hb => ?_) (fun hb => ?_)
      · rw [nI_leI (by omega) (by omega)] at hb
        omega
      · refine AF.aload_n dX3_rankOf_12 rfl ?_
        refine AF.getfield dX3_rankOf_13 fl_X3_9 (by assumption) rfl ?_
        refine AF.iload_n dX3_rankOf_16 rfl ?_
        refine AF.iaload (_) dX3_rankOf_17 (by assumption) rfl (by omega) (by decide) ?_
        refine AF.aload_n dX3_rankOf_18 rfl ?_
        refine AF.getfield dX3_rankOf_19 fl_X3_9 (by assumption) rfl ?_
        refine AF.iload_n dX3_rankOf_22 rfl ?_
        refine AF.iaload (_) dX3_rankOf_23 (by assumption) rfl (by omega) (by decide) ?_
        rw [(hr j (by omega)).1, (hr x hx).1]
        have q1 := (hI j).1
        have q2 := (hI x).1
        refine AF.icmp_ge 30 dX3_rankOf_24 (by decide) (fun hc => ?_) (fun hc => ?_)
        · rw [nI_leI (by omega) (by omega)] at hc
          refine AF.inc1 dX3_rankOf_30 rfl (by decide) ?_
          refine AF.goto 4 dX3_rankOf_33 (by decide) ?_
          have h9 := ih (j + 1) (by omega)
          simp only [cntB] at h9
          rw [if_neg (by rw [decide_eq_true_iff]; omega)] at h9
          exact h9
        · rw [nI_leI (by omega) (by omega)] at hc
          refine AF.inc1 dX3_rankOf_27 rfl (by decide) ?_
          refine AF.inc1 dX3_rankOf_30 rfl (by decide) ?_
          refine AF.goto 4 dX3_rankOf_33 (by decide) ?_
          have h9 := ih (j + 1) (by omega)
          simp only [cntB] at h9
          rw [if_pos (by rw [decide_eq_true_iff]; omega)] at h9
          exact h9
  refine AF.iconst (0) dX3_rankOf_0 (by decide) ?_
  refine AF.istore_n dX3_rankOf_1 (by decide) ?_
  refine AF.iconst (0) dX3_rankOf_2 (by decide) ?_
  refine AF.istore_n dX3_rankOf_3 (by decide) ?_
  exact loop J.length 0 (by omega)
set_option maxRecDepth 100000 in
theorem X3_findByRank_ok (hJ : JA G F a J cap w) (hI : JI J) (x : Int32) : AC G mX3_findByRank 1 0 0 [.ref a, .int x] F (AV (some (.int (match fnd (fun j => decide (nI (rnk J j) = x)) J.length with | some j => nI j | none => -1))) F) := by
  have hR := fun j hj => X3_rankOf_ok hJ hI j hj
  obtain ⟨f, g, ⟨h0, h1, h2⟩, hn, hr⟩ := hJ
  refine AC.of [some (.ref a), some (.int x), none] rfl (by decide) (Nat.le_of_ble_eq_true rfl) rfl ?_
  have loop : ∀ k j, j + k = J.length → (∀ i, i < j → decide (nI (rnk J i) = x) = false) → AF G mX3_findByRank 1 0 0 (AV (some (.int (match fnd (fun j => decide (nI (rnk J j) = x)) J.length with | some j => nI j | none => -1))) F) F 2 [some (.ref a), some (.int x), some (.int (nI j))] [] := by
    intro k
    induction k with
    | zero =>
      intro j hj hb9
      refine AF.iload_n dX3_findByRank_2 rfl ?_
      refine AF.aload_n dX3_findByRank_3 rfl ?_
      refine AF.getfield dX3_findByRank_4 fl_X3_18 (by assumption) rfl ?_
      refine AF.icmp_ge 27 dX3_findByRank_7 (by decide) (fun hb => ?_) (fun hb => ?_)
      · refine AF.iconst (-1) dX3_findByRank_27 (by decide) ?_
        exact AF.ireturn dX3_findByRank_28 rfl ⟨by rw [fnd_none (fun i hi => hb9 i (by omega))], rfl⟩
      · exact absurd (by rw [nI_leI (by omega) (by omega)]; omega) hb
    | succ k ih =>
      intro j hj hb9
      refine AF.iload_n dX3_findByRank_2 rfl ?_
      refine AF.aload_n dX3_findByRank_3 rfl ?_
      refine AF.getfield dX3_findByRank_4 fl_X3_18 (by assumption) rfl ?_
      refine AF.icmp_ge 27 dX3_findByRank_7 (by decide) (fun hb => ?_) (fun hb => ?_)
      · rw [nI_leI (by omega) (by omega)] at hb
        omega
      · refine AF.aload_n dX3_findByRank_10 rfl ?_
        refine AF.iload_n dX3_findByRank_11 rfl ?_
        refine AF.v1 dX3_findByRank_12 kv_X3_81 ((hR j (by omega))) (by assumption) rfl rfl rfl (Nat.le_of_ble_eq_true rfl) (by decide) rfl ?_
        refine AF.iload_n dX3_findByRank_15 rfl ?_
        refine AF.icmp_ne 21 dX3_findByRank_16 (by decide) (fun hc => ?_) (fun hc => ?_)
        · refine AF.inc1 dX3_findByRank_21 rfl (by decide) ?_
          refine AF.goto 2 dX3_findByRank_24 (by decide) ?_
          refine ih (j + 1) (by omega) (fun i hi => ?_)
          by_cases e : i = j
          · rw [e]; exact decide_eq_false hc
          · exact hb9 i (by omega)
        · refine AF.iload_n dX3_findByRank_19 rfl ?_
          exact AF.ireturn dX3_findByRank_20 rfl ⟨by rw [fnd_some (decide_eq_true hc) (by omega) hb9], rfl⟩
  refine AF.iconst (0) dX3_findByRank_0 (by decide) ?_
  refine AF.istore_n dX3_findByRank_1 (by decide) ?_
  exact loop J.length 0 (by omega) (fun i hi => by omega)
set_option maxRecDepth 100000 in
theorem X3_findHighest_ok (hJ : JA G F a J cap w) (hI : JI J) (hcap : cap ≤ 100) : AC G mX3_findHighest 1 0 0 [.ref a] F (AV (some (.int (nI (hghst J cap)))) F) := by
  have hs := X3_sum_ok hJ
  have hL := fun j hj => X3_heightOf_ok hJ hI hcap (dem J) j (dem_le hI hJ.choose_spec.choose_spec.2.1) hj
  obtain ⟨f, g, ⟨h0, h1, h2⟩, hn, hr⟩ := hJ
  refine AC.of [some (.ref a), none, none, none] rfl (by decide) (Nat.le_of_ble_eq_true rfl) rfl ?_
  generalize hP : (fun j b => decide (hgt cap (dem J) (jo J b) < hgt cap (dem J) (jo J j))) = P
  have hg : hghst J cap = bst P J.length := by rw [← hP]; rfl
  rw [hg]
  have loop : ∀ k j, 1 ≤ j → j + k = J.length → AF G mX3_findHighest 1 0 0 (AV (some (.int (nI (bst P J.length)))) F) F 9 [some (.ref a), some (.int (nI (dem J))), some (.int (nI (bst P j))), some (.int (nI j))] [] := by
    intro k
    induction k with
    | zero =>
      intro j h1j hj
      refine AF.iload_n dX3_findHighest_9 rfl ?_
      refine AF.aload_n dX3_findHighest_10 rfl ?_
      refine AF.getfield dX3_findHighest_11 fl_X3_18 (by assumption) rfl ?_
      refine AF.icmp_ge 40 dX3_findHighest_14 (by decide) (fun hb => ?_) (fun hb => ?_)
      · refine AF.iload_n dX3_findHighest_40 rfl ?_
        exact AF.ireturn dX3_findHighest_41 rfl ⟨by rw [show j = J.length by omega], rfl⟩
      · exact absurd (by rw [nI_leI (by omega) (by omega)]; omega) hb
    | succ k ih =>
      intro j h1j hj
      have hbl := bst_lt (P := P) j (by omega)
      refine AF.iload_n dX3_findHighest_9 rfl ?_
      refine AF.aload_n dX3_findHighest_10 rfl ?_
      refine AF.getfield dX3_findHighest_11 fl_X3_18 (by assumption) rfl ?_
      refine AF.icmp_ge 40 dX3_findHighest_14 (by decide) (fun hb => ?_) (fun hb => ?_)
      · rw [nI_leI (by omega) (by omega)] at hb
        omega
      · refine AF.aload_n dX3_findHighest_17 rfl ?_
        refine AF.iload_n dX3_findHighest_18 rfl ?_
        refine AF.iload_n dX3_findHighest_19 rfl ?_
        refine AF.v1 dX3_findHighest_20 kv_X3_65 ((hL j (by omega))) (by assumption) rfl rfl rfl (Nat.le_of_ble_eq_true rfl) (by decide) rfl ?_
        refine AF.aload_n dX3_findHighest_23 rfl ?_
        refine AF.iload_n dX3_findHighest_24 rfl ?_
        refine AF.iload_n dX3_findHighest_25 rfl ?_
        refine AF.v1 dX3_findHighest_26 kv_X3_65 ((hL (bst P j) (by omega))) (by assumption) rfl rfl rfl (Nat.le_of_ble_eq_true rfl) (by decide) rfl ?_
        have q1 := hgt_le (cap := cap) (D := dem J) (hI j).2
        have q2 := hgt_le (cap := cap) (D := dem J) (hI (bst P j)).2
        refine AF.icmp_le 34 dX3_findHighest_29 (by decide) (fun hc => ?_) (fun hc => ?_)
        · rw [nI_leI (by omega) (by omega)] at hc
          refine AF.inc1 dX3_findHighest_34 rfl (by decide) ?_
          refine AF.goto 9 dX3_findHighest_37 (by decide) ?_
          have h9 := ih (j + 1) (by omega) (by omega)
          simp only [bst] at h9
          rw [if_neg (by rw [← hP, decide_eq_true_iff] at *; omega)] at h9
          exact h9
        · rw [nI_leI (by omega) (by omega)] at hc
          refine AF.iload_n dX3_findHighest_32 rfl ?_
          refine AF.istore_n dX3_findHighest_33 (by decide) ?_
          refine AF.inc1 dX3_findHighest_34 rfl (by decide) ?_
          refine AF.goto 9 dX3_findHighest_37 (by decide) ?_
          have h9 := ih (j + 1) (by omega) (by omega)
          simp only [bst] at h9
          rw [if_pos (by rw [← hP, decide_eq_true_iff] at *; omega)] at h9
          exact h9
  have b1 : bst P 1 = 0 := bst_1
  refine AF.aload_n dX3_findHighest_0 rfl ?_
  refine AF.v1 dX3_findHighest_1 kv_X3_68 (hs) (by assumption) rfl rfl rfl (Nat.le_of_ble_eq_true rfl) (by decide) rfl ?_
  by_cases hz : J.length = 0
  · refine AF.istore_n dX3_findHighest_4 (by decide) ?_
    refine AF.iconst (0) dX3_findHighest_5 (by decide) ?_
    refine AF.istore_n dX3_findHighest_6 (by decide) ?_
    refine AF.iconst (1) dX3_findHighest_7 (by decide) ?_
    refine AF.istore_n dX3_findHighest_8 (by decide) ?_
    refine AF.iload_n dX3_findHighest_9 rfl ?_
    refine AF.aload_n dX3_findHighest_10 rfl ?_
    refine AF.getfield dX3_findHighest_11 fl_X3_18 (by assumption) rfl ?_
    refine AF.icmp_ge 40 dX3_findHighest_14 (by decide) (fun hb => ?_) (fun hb => ?_)
    · refine AF.iload_n dX3_findHighest_40 rfl ?_
      exact AF.ireturn dX3_findHighest_41 rfl ⟨by rw [hz]; rfl, rfl⟩
    · exact absurd (show nI J.length ≤ nI 1 by rw [nI_leI (by omega) (by omega)]; omega) hb
  · refine AF.istore_n dX3_findHighest_4 (by decide) ?_
    refine AF.iconst (nI 0) dX3_findHighest_5 (by decide) ?_
    refine AF.istore_n dX3_findHighest_6 (by decide) ?_
    refine AF.iconst (nI 1) dX3_findHighest_7 (by decide) ?_
    refine AF.istore_n dX3_findHighest_8 (by decide) ?_
    have h9 := loop (J.length - 1) 1 (by omega) (by omega)
    rw [b1] at h9
    exact h9
set_option maxRecDepth 100000 in
theorem X3_distance_ok (hJ : JA G F a J cap w) (hI : JI J) (hcap : cap ≤ 100) (D j : Nat) (hD : D ≤ 100) (hj : j < J.length) (p : Int32) : AC G mX3_distance 2 0 0 [.ref a, .int (nI j), .int (nI D), .int p] F (AV (some (.long (dst (lan J cap w D j) p))) F) := by
  have hL := X3_landingOf_ok hJ hI hcap D j hD hj
  obtain ⟨f, g, ⟨h0, h1, h2⟩, hn, hr⟩ := hJ
  refine AC.of [some (.ref a), some (.int (nI j)), some (.int (nI D)), some (.int p)] rfl (by decide) (Nat.le_of_ble_eq_true rfl) rfl ?_
  refine AF.aload_n dX3_distance_0 rfl ?_
  refine AF.iload_n dX3_distance_1 rfl ?_
  refine AF.iload_n dX3_distance_2 rfl ?_
  refine AF.v1 dX3_distance_3 kv_X3_72 (hL) (by assumption) rfl rfl rfl (Nat.le_of_ble_eq_true rfl) (by decide) rfl ?_
  refine AF.i2l dX3_distance_6 ?_
  refine AF.iload_n dX3_distance_7 rfl ?_
  refine AF.i2l dX3_distance_8 ?_
  refine AF.lsub dX3_distance_9 ?_
  refine AF.labs dX3_distance_10 km_X3_89 (Nat.le_of_ble_eq_true rfl) (by decide) ?_
  exact AF.lreturn dX3_distance_13 rfl ⟨rfl, rfl⟩
end
end
section
/-! Jets: the nearest landing, crossings, what a change is refused for; the writing methods. -/
def pAdd (J : List Jt) (x : Int32) : Nat := if x < 0 ∨ 99 < x then 2 else if (fnd (fun j => decide (nI (jp J j) = x)) J.length).isSome = true then 3 else if J.length < 10 then 0 else 4
def pOpn (n : Nat) (x o : Int32) : Nat := if hasB n x = false then 1 else if o < 0 ∨ 10 < o then 2 else 0
def pCap (x : Int32) : Nat := if x < 0 ∨ 100 < x then 2 else 0
def pWnd (x : Int32) : Nat := if x < -9 ∨ 9 < x then 2 else 0
def JW (G : GA) (a : Nat) (J : List Jt) (cap : Nat) (w : Int32) (v : Option Value) (F0 : AH) : AR → AH → Prop := fun r F' => r = .inl v ∧ JA G F' a J cap w ∧ Fr a (a + 3) F0 F'
theorem jget_set {J : List Jt} {j i : Nat} {q : Jt} : (J.set j q).getD i (0, 0) = if i = j ∧ j < J.length then q else J.getD i (0, 0) := by
  rw [List.getD_eq_getElem?_getD, List.getElem?_set, List.getD_eq_getElem?_getD]
  by_cases h : j = i
  · subst h
    by_cases h2 : j < J.length
    · simp [h2]
    · simp [h2, List.getElem?_eq_none (Nat.not_lt.mp h2)]
  · rw [if_neg h, if_neg (fun q => h q.1.symm)]
theorem jp_set {J : List Jt} {j i : Nat} {q : Jt} : jp (J.set j q) i = if i = j ∧ j < J.length then q.1 else jp J i := by
  unfold jp; rw [jget_set]; split <;> rfl
theorem jo_set {J : List Jt} {j i : Nat} {q : Jt} : jo (J.set j q) i = if i = j ∧ j < J.length then q.2 else jo J i := by
  unfold jo; rw [jget_set]; split <;> rfl
theorem jget_app {J : List Jt} {i : Nat} {q : Jt} : (J ++ [q]).getD i (0, 0) = if i = J.length then q else J.getD i (0, 0) := by
  rw [List.getD_eq_getElem?_getD, List.getD_eq_getElem?_getD, List.getElem?_append]
  by_cases h : i < J.length
  · rw [if_pos h, if_neg (by omega)]
  · rw [if_neg h]
    by_cases h2 : i = J.length
    · subst h2; simp
    · rw [if_neg h2, List.getElem?_eq_none (by simp; omega), List.getElem?_eq_none (by omega)]
theorem jp_app {J : List Jt} {i : Nat} {q : Jt} : jp (J ++ [q]) i = if i = J.length then q.1 else jp J i := by
  unfold jp; rw [jget_app]; split <;> rfl
theorem jo_app {J : List Jt} {i : Nat} {q : Jt} : jo (J ++ [q]) i = if i = J.length then q.2 else jo J i := by
  unfold jo; rw [jget_app]; split <;> rfl
theorem jget_era {J : List Jt} {k i : Nat} : (J.eraseIdx k).getD i (0, 0) = if i < k then J.getD i (0, 0) else J.getD (i + 1) (0, 0) := by
  rw [List.getD_eq_getElem?_getD, List.getD_eq_getElem?_getD, List.getD_eq_getElem?_getD, List.getElem?_eraseIdx]
  split <;> rfl
theorem jp_era {J : List Jt} {k i : Nat} : jp (J.eraseIdx k) i = if i < k then jp J i else jp J (i + 1) := by
  unfold jp; rw [jget_era]; split <;> rfl
theorem jo_era {J : List Jt} {k i : Nat} : jo (J.eraseIdx k) i = if i < k then jo J i else jo J (i + 1) := by
  unfold jo; rw [jget_era]; split <;> rfl
theorem JI_set {J : List Jt} {j : Nat} {q : Jt} (h : JI J) (h1 : q.1 ≤ 99) (h2 : q.2 ≤ 10) : JI (J.set j q) := fun i => by
  rw [jp_set, jo_set]; have := h i; constructor <;> split <;> omega
theorem JI_app {J : List Jt} {q : Jt} (h : JI J) (h1 : q.1 ≤ 99) (h2 : q.2 ≤ 10) : JI (J ++ [q]) := fun i => by
  rw [jp_app, jo_app]; have := h i; constructor <;> split <;> omega
theorem JI_era {J : List Jt} {k : Nat} (h : JI J) : JI (J.eraseIdx k) := fun i => by
  rw [jp_era, jo_era]; have := h i; have := h (i + 1); constructor <;> split <;> omega
/-- one decrease, and trimming -/
def dec1 (J : List Jt) (j : Nat) : List Jt := J.set j (jp J j, jo J j - 1)
def trm (cap : Nat) (w : Int32) : Nat → List Jt → Nat × List Jt
  | 0, J => (0, J)
  | n + 1, J => match wfst J cap w with
    | none => (0, J)
    | some j => ((trm cap w n (dec1 J j)).1 + 1, (trm cap w n (dec1 J j)).2)
theorem fnd_spec {P : Nat → Bool} {n j : Nat} (h : fnd P n = some j) : j < n ∧ P j = true := by
  unfold fnd at h
  exact ⟨List.mem_range.mp (List.mem_of_find?_eq_some h), List.find?_some h⟩
theorem lan_closed {J : List Jt} {cap D j : Nat} {w : Int32} (h : jo J j = 0) : lan J cap w D j = nI (jp J j) := by
  unfold lan
  rw [h, show hgt cap D 0 = 0 by unfold hgt; split <;> simp, nI_0, Int32.zero_mul, show (0 : Int32) / 20 = 0 by decide, Int32.add_zero]
theorem wil_nI {k : Nat} (h : k ≤ 99) : wil (nI k) = false := by
  unfold wil
  rw [decide_eq_false (nI_pos (by omega)), decide_eq_false (show ¬ ((99 : Int32) < nI k) by show ¬ (nI 99 < nI k); rw [nI_ltI (by omega) (by omega)]; omega)]
  rfl
theorem wild_open {J : List Jt} {cap : Nat} {w : Int32} {j : Nat} (hI : JI J) (h : wld J cap w j = true) : 0 < jo J j := by
  apply Nat.pos_of_ne_zero
  intro h0
  rw [wld, lan_closed h0, wil_nI (hI j).1] at h
  cases h
theorem dec1_len {J : List Jt} {j : Nat} : (dec1 J j).length = J.length := by simp [dec1]
theorem JI_dec1 {J : List Jt} {j : Nat} (h : JI J) : JI (dec1 J j) := JI_set h (h j).1 (by have := (h j).2; dsimp only; omega)
theorem trm_len {cap : Nat} {w : Int32} : ∀ n J, (trm cap w n J).2.length = J.length
  | 0, J => rfl
  | n + 1, J => by
    simp only [trm]
    split
    · rfl
    · rw [trm_len n]; exact dec1_len
theorem JI_trm {cap : Nat} {w : Int32} : ∀ n J, JI J → JI (trm cap w n J).2
  | 0, J, h => h
  | n + 1, J, h => by
    simp only [trm]
    split
    · exact h
    · exact JI_trm n _ (JI_dec1 h)
theorem trm_le {cap : Nat} {w : Int32} : ∀ n J, (trm cap w n J).1 ≤ n
  | 0, J => Nat.le_refl _
  | n + 1, J => by
    simp only [trm]
    split
    · exact Nat.zero_le _
    · exact Nat.succ_le_succ (trm_le n _)
section
variable {G : GA} {F : AH} {a : Nat} {J : List Jt} {cap : Nat} {w : Int32}
set_option maxRecDepth 100000 in
theorem X3_findNearestLanding_ok (hJ : JA G F a J cap w) (hI : JI J) (hcap : cap ≤ 100) (p : Int32) : AC G mX3_findNearestLanding 3 0 0 [.ref a, .int p] F (AV (some (.int (nI (nrst J cap w p)))) F) := by
  have hs := X3_sum_ok hJ
  have hL := fun j hj => X3_distance_ok hJ hI hcap (dem J) j (dem_le hI hJ.choose_spec.choose_spec.2.1) hj p
  obtain ⟨f, g, ⟨h0, h1, h2⟩, hn, hr⟩ := hJ
  refine AC.of [some (.ref a), some (.int p), none, none, none] rfl (by decide) (Nat.le_of_ble_eq_true rfl) rfl ?_
  generalize hP : (fun j b => decide (dst (lan J cap w (dem J) j) p < dst (lan J cap w (dem J) b) p)) = P
  have hg : nrst J cap w p = bst P J.length := by rw [← hP]; rfl
  rw [hg]
  have loop : ∀ k j, 1 ≤ j → j + k = J.length → AF G mX3_findNearestLanding 3 0 0 (AV (some (.int (nI (bst P J.length)))) F) F 10 [some (.ref a), some (.int p), some (.int (nI (dem J))), some (.int (nI (bst P j))), some (.int (nI j))] [] := by
    intro k
    induction k with
    | zero =>
      intro j h1j hj
      refine AF.iload dX3_findNearestLanding_10 rfl ?_
      refine AF.aload_n dX3_findNearestLanding_12 rfl ?_
      refine AF.getfield dX3_findNearestLanding_13 fl_X3_18 (by assumption) rfl ?_
      refine AF.icmp_ge 47 dX3_findNearestLanding_16 (by decide) (fun hb => ?_) (fun hb => ?_)
      · refine AF.iload_n dX3_findNearestLanding_47 rfl ?_
        exact AF.ireturn dX3_findNearestLanding_48 rfl ⟨by rw [show j = J.length by omega], rfl⟩
      · exact absurd (by rw [nI_leI (by omega) (by omega)]; omega) hb
    | succ k ih =>
      intro j h1j hj
      have hbl := bst_lt (P := P) j (by omega)
      refine AF.iload dX3_findNearestLanding_10 rfl ?_
      refine AF.aload_n dX3_findNearestLanding_12 rfl ?_
      refine AF.getfield dX3_findNearestLanding_13 fl_X3_18 (by assumption) rfl ?_
      refine AF.icmp_ge 47 dX3_findNearestLanding_16 (by decide) (fun hb => ?_) (fun hb => ?_)
      · rw [nI_leI (by omega) (by omega)] at hb
        omega
      · refine AF.aload_n dX3_findNearestLanding_19 rfl ?_
        refine AF.iload dX3_findNearestLanding_20 rfl ?_
        refine AF.iload_n dX3_findNearestLanding_22 rfl ?_
        refine AF.iload_n dX3_findNearestLanding_23 rfl ?_
        refine AF.v1 dX3_findNearestLanding_24 kv_X3_85 ((hL j (by omega))) (by assumption) rfl rfl rfl (Nat.le_of_ble_eq_true rfl) (by decide) rfl ?_
        refine AF.aload_n dX3_findNearestLanding_27 rfl ?_
        refine AF.iload_n dX3_findNearestLanding_28 rfl ?_
        refine AF.iload_n dX3_findNearestLanding_29 rfl ?_
        refine AF.iload_n dX3_findNearestLanding_30 rfl ?_
        refine AF.v1 dX3_findNearestLanding_31 kv_X3_85 ((hL (bst P j) (by omega))) (by assumption) rfl rfl rfl (Nat.le_of_ble_eq_true rfl) (by decide) rfl ?_
        refine AF.lcmp dX3_findNearestLanding_34 ?_
        refine AF.if_ge 41 dX3_findNearestLanding_35 (by decide) (fun hc => ?_) (fun hc => ?_)
        · refine AF.inc1 dX3_findNearestLanding_41 rfl (by decide) ?_
          refine AF.goto 10 dX3_findNearestLanding_44 (by decide) ?_
          have h9 := ih (j + 1) (by omega) (by omega)
          simp only [bst] at h9
          rw [if_neg (by rw [← hP, decide_eq_true_iff] at *; exact lcmp_ge hc)] at h9
          exact h9
        · refine AF.iload dX3_findNearestLanding_38 rfl ?_
          refine AF.istore_n dX3_findNearestLanding_40 (by decide) ?_
          refine AF.inc1 dX3_findNearestLanding_41 rfl (by decide) ?_
          refine AF.goto 10 dX3_findNearestLanding_44 (by decide) ?_
          have h9 := ih (j + 1) (by omega) (by omega)
          simp only [bst] at h9
          rw [if_pos (by rw [← hP, decide_eq_true_iff] at *; exact lcmp_nge hc)] at h9
          exact h9
  have b1 : bst P 1 = 0 := bst_1
  refine AF.aload_n dX3_findNearestLanding_0 rfl ?_
  refine AF.v1 dX3_findNearestLanding_1 kv_X3_68 (hs) (by assumption) rfl rfl rfl (Nat.le_of_ble_eq_true rfl) (by decide) rfl ?_
  by_cases hz : J.length = 0
  · refine AF.istore_n dX3_findNearestLanding_4 (by decide) ?_
    refine AF.iconst (0) dX3_findNearestLanding_5 (by decide) ?_
    refine AF.istore_n dX3_findNearestLanding_6 (by decide) ?_
    refine AF.iconst (1) dX3_findNearestLanding_7 (by decide) ?_
    refine AF.istore dX3_findNearestLanding_8 (by decide) ?_
    refine AF.iload dX3_findNearestLanding_10 rfl ?_
    refine AF.aload_n dX3_findNearestLanding_12 rfl ?_
    refine AF.getfield dX3_findNearestLanding_13 fl_X3_18 (by assumption) rfl ?_
    refine AF.icmp_ge 47 dX3_findNearestLanding_16 (by decide) (fun hb => ?_) (fun hb => ?_)
    · refine AF.iload_n dX3_findNearestLanding_47 rfl ?_
      exact AF.ireturn dX3_findNearestLanding_48 rfl ⟨by rw [hz]; rfl, rfl⟩
    · exact absurd (show nI J.length ≤ nI 1 by rw [nI_leI (by omega) (by omega)]; omega) hb
  · refine AF.istore_n dX3_findNearestLanding_4 (by decide) ?_
    refine AF.iconst (nI 0) dX3_findNearestLanding_5 (by decide) ?_
    refine AF.istore_n dX3_findNearestLanding_6 (by decide) ?_
    refine AF.iconst (nI 1) dX3_findNearestLanding_7 (by decide) ?_
    refine AF.istore dX3_findNearestLanding_8 (by decide) ?_
    have h9 := loop (J.length - 1) 1 (by omega) (by omega)
    rw [b1] at h9
    exact h9
set_option maxRecDepth 100000 in
theorem X3_countCrossingPairs_ok (hJ : JA G F a J cap w) (hI : JI J) (hcap : cap ≤ 100) : AC G mX3_countCrossingPairs 2 0 0 [.ref a] F (AV (some (.int (nI (prs J cap w)))) F) := by
  have hs := X3_sum_ok hJ
  have hL := fun j hj => X3_landingOf_ok hJ hI hcap (dem J) j (dem_le hI hJ.choose_spec.choose_spec.2.1) hj
  obtain ⟨f, g, ⟨h0, h1, h2⟩, hn, hr⟩ := hJ
  refine AC.of [some (.ref a), none, none, none, none] rfl (by decide) (Nat.le_of_ble_eq_true rfl) rfl ?_
  have loop : ∀ k j z4, j + k = J.length → AF G mX3_countCrossingPairs 2 0 0 (AV (some (.int (nI (prs J cap w)))) F) F 9 [some (.ref a), some (.int (nI (dem J))), some (.int (nI (sumN (fun j => cntB (crs J cap w j) J.length) j))), some (.int (nI j)), z4] [] := by
    intro k
    induction k with
    | zero =>
      intro j z4 hj
      refine AF.iload_n dX3_countCrossingPairs_9 rfl ?_
      refine AF.aload_n dX3_countCrossingPairs_10 rfl ?_
      refine AF.getfield dX3_countCrossingPairs_11 fl_X3_18 (by assumption) rfl ?_
      refine AF.icmp_ge 76 dX3_countCrossingPairs_14 (by decide) (fun hb => ?_) (fun hb => ?_)
      · refine AF.iload_n dX3_countCrossingPairs_76 rfl ?_
        exact AF.ireturn dX3_countCrossingPairs_77 rfl ⟨by rw [show j = J.length by omega]; rfl, rfl⟩
      · exact absurd (by rw [nI_leI (by omega) (by omega)]; omega) hb
    | succ k ih =>
      intro j z4 hj
      refine AF.iload_n dX3_countCrossingPairs_9 rfl ?_
      refine AF.aload_n dX3_countCrossingPairs_10 rfl ?_
      refine AF.getfield dX3_countCrossingPairs_11 fl_X3_18 (by assumption) rfl ?_
      refine AF.icmp_ge 76 dX3_countCrossingPairs_14 (by decide) (fun hb => ?_) (fun hb => ?_)
      · rw [nI_leI (by omega) (by omega)] at hb
        omega
      · have inner : ∀ k2 o, o + k2 = J.length → AF G mX3_countCrossingPairs 2 0 0 (AV (some (.int (nI (prs J cap w)))) F) F 20 [some (.ref a), some (.int (nI (dem J))), some (.int (nI (sumN (fun j => cntB (crs J cap w j) J.length) j + cntB (crs J cap w j) o))), some (.int (nI j)), some (.int (nI o))] [] := by
          intro k2
          induction k2 with
          | zero =>
            intro o ho
            refine AF.iload dX3_countCrossingPairs_20 rfl ?_
            refine AF.aload_n dX3_countCrossingPairs_22 rfl ?_
            refine AF.getfield dX3_countCrossingPairs_23 fl_X3_18 (by assumption) rfl ?_
            refine AF.icmp_ge 70 dX3_countCrossingPairs_26 (by decide) (fun hb2 => ?_) (fun hb2 => ?_)
            · refine AF.inc1 dX3_countCrossingPairs_70 rfl (by decide) ?_
              refine AF.goto 9 dX3_countCrossingPairs_73 (by decide) ?_
              have h9 := ih (j + 1) (some (.int (nI o))) (by omega)
              simp only [sumN] at h9
              rw [show o = J.length by omega] at h9 ⊢
              exact h9
            · exact absurd (by rw [nI_leI (by omega) (by omega)]; omega) hb2
          | succ k2 ih2 =>
            intro o ho
            refine AF.iload dX3_countCrossingPairs_20 rfl ?_
            refine AF.aload_n dX3_countCrossingPairs_22 rfl ?_
            refine AF.getfield dX3_countCrossingPairs_23 fl_X3_18 (by assumption) rfl ?_
            refine AF.icmp_ge 70 dX3_countCrossingPairs_26 (by decide) (fun hb2 => ?_) (fun hb2 => ?_)
            · rw [nI_leI (by omega) (by omega)] at hb2
              omega
            · refine AF.aload_n dX3_countCrossingPairs_29 rfl ?_
              refine AF.getfield dX3_countCrossingPairs_30 fl_X3_9 (by assumption) rfl ?_
              refine AF.iload_n dX3_countCrossingPairs_33 rfl ?_
              refine AF.iaload (_) dX3_countCrossingPairs_34 (by assumption) rfl (by omega) (by decide) ?_
              refine AF.aload_n dX3_countCrossingPairs_35 rfl ?_
              refine AF.getfield dX3_countCrossingPairs_36 fl_X3_9 (by assumption) rfl ?_
              refine AF.iload dX3_countCrossingPairs_39 rfl ?_
              refine AF.iaload (_) dX3_countCrossingPairs_41 (by assumption) rfl (by omega) (by decide) ?_
              rw [(hr j (by omega)).1, (hr o (by omega)).1]
              have q1 := (hI j).1
              have q2 := (hI o).1
              refine AF.icmp_ge 64 dX3_countCrossingPairs_42 (by decide) (fun hc => ?_) (fun hc => ?_)
              · rw [nI_leI (by omega) (by omega)] at hc
                refine AF.inc1 dX3_countCrossingPairs_64 rfl (by decide) ?_
                refine AF.goto 20 dX3_countCrossingPairs_67 (by decide) ?_
                have h9 := ih2 (o + 1) (by omega)
                simp only [cntB] at h9
                rw [if_neg (by simp only [crs, Bool.and_eq_true, decide_eq_true_iff]; omega)] at h9
                exact h9
              · rw [nI_leI (by omega) (by omega)] at hc
                refine AF.aload_n dX3_countCrossingPairs_45 rfl ?_
                refine AF.iload_n dX3_countCrossingPairs_46 rfl ?_
                refine AF.iload_n dX3_countCrossingPairs_47 rfl ?_
                refine AF.v1 dX3_countCrossingPairs_48 kv_X3_72 ((hL j (by omega))) (by assumption) rfl rfl rfl (Nat.le_of_ble_eq_true rfl) (by decide) rfl ?_
                refine AF.aload_n dX3_countCrossingPairs_51 rfl ?_
                refine AF.iload dX3_countCrossingPairs_52 rfl ?_
                refine AF.iload_n dX3_countCrossingPairs_54 rfl ?_
                refine AF.v1 dX3_countCrossingPairs_55 kv_X3_72 ((hL o (by omega))) (by assumption) rfl rfl rfl (Nat.le_of_ble_eq_true rfl) (by decide) rfl ?_
                refine AF.icmp_le 64 dX3_countCrossingPairs_58 (by decide) (fun hc2 => ?_) (fun hc2 => ?_)
                · refine AF.inc1 dX3_countCrossingPairs_64 rfl (by decide) ?_
                  refine AF.goto 20 dX3_countCrossingPairs_67 (by decide) ?_
                  have h9 := ih2 (o + 1) (by omega)
                  simp only [cntB] at h9
                  rw [if_neg (by simp only [crs, Bool.and_eq_true, decide_eq_true_iff]; exact fun q => absurd q.2 (Int32.not_lt.mpr hc2))] at h9
                  exact h9
                · refine AF.inc1 dX3_countCrossingPairs_61 rfl (by decide) ?_
                  refine AF.inc1 dX3_countCrossingPairs_64 rfl (by decide) ?_
                  refine AF.goto 20 dX3_countCrossingPairs_67 (by decide) ?_
                  have h9 := ih2 (o + 1) (by omega)
                  simp only [cntB] at h9
                  rw [if_pos (by simp only [crs, Bool.and_eq_true, decide_eq_true_iff]; exact ⟨by omega, Int32.not_le.mp hc2⟩), ← Nat.add_assoc] at h9
                  exact h9
        refine AF.iconst (nI 0) dX3_countCrossingPairs_17 (by decide) ?_
        refine AF.istore dX3_countCrossingPairs_18 (by decide) ?_
        exact inner J.length 0 (by omega)
  refine AF.aload_n dX3_countCrossingPairs_0 rfl ?_
  refine AF.v1 dX3_countCrossingPairs_1 kv_X3_68 (hs) (by assumption) rfl rfl rfl (Nat.le_of_ble_eq_true rfl) (by decide) rfl ?_
  refine AF.istore_n dX3_countCrossingPairs_4 (by decide) ?_
  refine AF.iconst (0) dX3_countCrossingPairs_5 (by decide) ?_
  refine AF.istore_n dX3_countCrossingPairs_6 (by decide) ?_
  refine AF.iconst (0) dX3_countCrossingPairs_7 (by decide) ?_
  refine AF.istore_n dX3_countCrossingPairs_8 (by decide) ?_
  exact loop J.length 0 none (by omega)
set_option maxRecDepth 100000 in
theorem X3_problemOfAdding_ok (hJ : JA G F a J cap w) (x : Int32) : AC G mX3_problemOfAdding 1 0 0 [.ref a, .int x] F (AV (some (.ref (gk G (pAdd J x)))) F) := by
  have hT := X3_isTaken_ok hJ x
  obtain ⟨f, g, ⟨h0, h1, h2⟩, hn, hr⟩ := hJ
  refine AC.of [some (.ref a), some (.int x)] rfl (by decide) (Nat.le_of_ble_eq_true rfl) rfl (AF.ok fun hG => ?_)
  unfold pAdd
  refine AF.iload_n dX3_problemOfAdding_0 rfl ?_
  refine AF.if_lt 10 dX3_problemOfAdding_1 (by decide) (fun c1 => ?_) (fun c1 => ?_)
  · refine AF.getstatic dX3_problemOfAdding_10 gs_X3_34 (pz hG 2 (by decide)) ?_
    exact AF.areturn dX3_problemOfAdding_13 rfl (Or.inl ⟨_, rfl⟩) (Or.inr ⟨_, rfl⟩) ⟨by rw [if_pos (Or.inl c1)], rfl⟩
  · refine AF.iload_n dX3_problemOfAdding_4 rfl ?_
    refine AF.bipush (99) dX3_problemOfAdding_5 (by decide) ?_
    refine AF.icmp_le 14 dX3_problemOfAdding_7 (by decide) (fun c2 => ?_) (fun c2 => ?_)
    · refine AF.aload_n dX3_problemOfAdding_14 rfl ?_
      refine AF.iload_n dX3_problemOfAdding_15 rfl ?_
      rw [if_neg (by rintro (q | q); exact c1 q; exact absurd q (Int32.not_lt.mpr c2))]
      refine AF.v1 dX3_problemOfAdding_16 kv_X3_40 (hT) (by assumption) rfl rfl rfl (Nat.le_of_ble_eq_true rfl) (by decide) rfl ?_
      refine AF.if_eq 26 dX3_problemOfAdding_19 (by decide) (fun c3 => ?_) (fun c3 => ?_)
      · refine AF.aload_n dX3_problemOfAdding_26 rfl ?_
        refine AF.getfield dX3_problemOfAdding_27 fl_X3_18 (by assumption) rfl ?_
        refine AF.bipush (10) dX3_problemOfAdding_30 (by decide) ?_
        rw [if_neg (by rw [bI_z c3]; decide)]
        refine AF.icmp_ge 41 dX3_problemOfAdding_32 (by decide) (fun c4 => ?_) (fun c4 => ?_)
        · refine AF.getstatic dX3_problemOfAdding_41 gs_X3_50 (pz hG 4 (by decide)) ?_
          refine AF.areturn dX3_problemOfAdding_44 rfl (Or.inl ⟨_, rfl⟩) (Or.inr ⟨_, rfl⟩) ⟨?_, rfl⟩
          rw [if_neg]
          have : ¬ (nI J.length < nI 10) := Int32.not_lt.mpr c4
          rw [nI_ltI (by omega) (by omega)] at this
          exact this
        · refine AF.getstatic dX3_problemOfAdding_35 gs_X3_47 (pz hG 0 (by decide)) ?_
          refine AF.goto 44 dX3_problemOfAdding_38 (by decide) ?_
          refine AF.areturn dX3_problemOfAdding_44 rfl (Or.inl ⟨_, rfl⟩) (Or.inr ⟨_, rfl⟩) ⟨?_, rfl⟩
          have : (nI J.length < nI 10) := Int32.not_le.mp c4
          rw [nI_ltI (by omega) (by omega)] at this
          rw [if_pos this]
      · refine AF.getstatic dX3_problemOfAdding_22 gs_X3_44 (pz hG 3 (by decide)) ?_
        exact AF.areturn dX3_problemOfAdding_25 rfl (Or.inl ⟨_, rfl⟩) (Or.inr ⟨_, rfl⟩) ⟨by rw [if_pos (bI_n c3)], rfl⟩
    · refine AF.getstatic dX3_problemOfAdding_10 gs_X3_34 (pz hG 2 (by decide)) ?_
      exact AF.areturn dX3_problemOfAdding_13 rfl (Or.inl ⟨_, rfl⟩) (Or.inr ⟨_, rfl⟩) ⟨by rw [if_pos (Or.inr (Int32.not_le.mp c2))], rfl⟩
set_option maxRecDepth 100000 in
theorem X3_problemOfOpening_ok (hJ : JA G F a J cap w) (x o : Int32) : AC G mX3_problemOfOpening 1 0 0 [.ref a, .int x, .int o] F (AV (some (.ref (gk G (pOpn J.length x o)))) F) := by
  have hT := X3_has_ok hJ x
  obtain ⟨f, g, ⟨h0, h1, h2⟩, hn, hr⟩ := hJ
  refine AC.of [some (.ref a), some (.int x), some (.int o)] rfl (by decide) (Nat.le_of_ble_eq_true rfl) rfl (AF.ok fun hG => ?_)
  unfold pOpn
  refine AF.aload_n dX3_problemOfOpening_0 rfl ?_
  refine AF.iload_n dX3_problemOfOpening_1 rfl ?_
  refine AF.v1 dX3_problemOfOpening_2 kv_X3_53 (hT) (by assumption) rfl rfl rfl (Nat.le_of_ble_eq_true rfl) (by decide) rfl ?_
  refine AF.if_ne 12 dX3_problemOfOpening_5 (by decide) (fun c1 => ?_) (fun c1 => ?_)
  · rw [if_neg (by rw [hasB, bI_n c1]; decide)]
    refine AF.iload_n dX3_problemOfOpening_12 rfl ?_
    refine AF.if_lt 22 dX3_problemOfOpening_13 (by decide) (fun c2 => ?_) (fun c2 => ?_)
    · refine AF.getstatic dX3_problemOfOpening_22 gs_X3_34 (pz hG 2 (by decide)) ?_
      refine AF.goto 31 dX3_problemOfOpening_25 (by decide) ?_
      exact AF.areturn dX3_problemOfOpening_31 rfl (Or.inl ⟨_, rfl⟩) (Or.inr ⟨_, rfl⟩) ⟨by rw [if_pos (Or.inl c2)], rfl⟩
    · refine AF.iload_n dX3_problemOfOpening_16 rfl ?_
      refine AF.bipush (10) dX3_problemOfOpening_17 (by decide) ?_
      refine AF.icmp_le 28 dX3_problemOfOpening_19 (by decide) (fun c3 => ?_) (fun c3 => ?_)
      · refine AF.getstatic dX3_problemOfOpening_28 gs_X3_47 (pz hG 0 (by decide)) ?_
        exact AF.areturn dX3_problemOfOpening_31 rfl (Or.inl ⟨_, rfl⟩) (Or.inr ⟨_, rfl⟩) ⟨by rw [if_neg (by rintro (q | q); exact c2 q; exact absurd q (Int32.not_lt.mpr c3))], rfl⟩
      · refine AF.getstatic dX3_problemOfOpening_22 gs_X3_34 (pz hG 2 (by decide)) ?_
        refine AF.goto 31 dX3_problemOfOpening_25 (by decide) ?_
        exact AF.areturn dX3_problemOfOpening_31 rfl (Or.inl ⟨_, rfl⟩) (Or.inr ⟨_, rfl⟩) ⟨by rw [if_pos (Or.inr (Int32.not_le.mp c3))], rfl⟩
  · refine AF.getstatic dX3_problemOfOpening_8 gs_X3_56 (pz hG 1 (by decide)) ?_
    exact AF.areturn dX3_problemOfOpening_11 rfl (Or.inl ⟨_, rfl⟩) (Or.inr ⟨_, rfl⟩) ⟨by rw [if_pos (show hasB J.length x = false from bI_z c1)], rfl⟩
set_option maxRecDepth 100000 in
theorem X3_problemOfCapacity_ok (x : Int32) : AC G mX3_problemOfCapacity 0 0 0 [.ref a, .int x] F (AV (some (.ref (gk G (pCap x)))) F) := by
  refine AC.of [some (.ref a), some (.int x)] rfl (by decide) (Nat.le_of_ble_eq_true rfl) rfl (AF.ok fun hG => ?_)
  unfold pCap
  refine AF.iload_n dX3_problemOfCapacity_0 rfl ?_
  refine AF.if_lt 10 dX3_problemOfCapacity_1 (by decide) (fun c1 => ?_) (fun c1 => ?_)
  · refine AF.getstatic dX3_problemOfCapacity_10 gs_X3_34 (pz hG 2 (by decide)) ?_
    refine AF.goto 19 dX3_problemOfCapacity_13 (by decide) ?_
    exact AF.areturn dX3_problemOfCapacity_19 rfl (Or.inl ⟨_, rfl⟩) (Or.inr ⟨_, rfl⟩) ⟨by rw [if_pos (Or.inl c1)], rfl⟩
  · refine AF.iload_n dX3_problemOfCapacity_4 rfl ?_
    refine AF.bipush (100) dX3_problemOfCapacity_5 (by decide) ?_
    refine AF.icmp_le 16 dX3_problemOfCapacity_7 (by decide) (fun c2 => ?_) (fun c2 => ?_)
    · refine AF.getstatic dX3_problemOfCapacity_16 gs_X3_47 (pz hG 0 (by decide)) ?_
      exact AF.areturn dX3_problemOfCapacity_19 rfl (Or.inl ⟨_, rfl⟩) (Or.inr ⟨_, rfl⟩) ⟨by rw [if_neg (by rintro (q | q); exact c1 q; exact absurd q (Int32.not_lt.mpr c2))], rfl⟩
    · refine AF.getstatic dX3_problemOfCapacity_10 gs_X3_34 (pz hG 2 (by decide)) ?_
      refine AF.goto 19 dX3_problemOfCapacity_13 (by decide) ?_
      exact AF.areturn dX3_problemOfCapacity_19 rfl (Or.inl ⟨_, rfl⟩) (Or.inr ⟨_, rfl⟩) ⟨by rw [if_pos (Or.inr (Int32.not_le.mp c2))], rfl⟩
set_option maxRecDepth 100000 in
theorem X3_problemOfWind_ok (x : Int32) : AC G mX3_problemOfWind 0 0 0 [.ref a, .int x] F (AV (some (.ref (gk G (pWnd x)))) F) := by
  refine AC.of [some (.ref a), some (.int x)] rfl (by decide) (Nat.le_of_ble_eq_true rfl) rfl (AF.ok fun hG => ?_)
  unfold pWnd
  refine AF.iload_n dX3_problemOfWind_0 rfl ?_
  refine AF.bipush (-9) dX3_problemOfWind_1 (by decide) ?_
  refine AF.icmp_lt 12 dX3_problemOfWind_3 (by decide) (fun c1 => ?_) (fun c1 => ?_)
  · refine AF.getstatic dX3_problemOfWind_12 gs_X3_34 (pz hG 2 (by decide)) ?_
    refine AF.goto 21 dX3_problemOfWind_15 (by decide) ?_
    exact AF.areturn dX3_problemOfWind_21 rfl (Or.inl ⟨_, rfl⟩) (Or.inr ⟨_, rfl⟩) ⟨by rw [if_pos (Or.inl c1)], rfl⟩
  · refine AF.iload_n dX3_problemOfWind_6 rfl ?_
    refine AF.bipush (9) dX3_problemOfWind_7 (by decide) ?_
    refine AF.icmp_le 18 dX3_problemOfWind_9 (by decide) (fun c2 => ?_) (fun c2 => ?_)
    · refine AF.getstatic dX3_problemOfWind_18 gs_X3_47 (pz hG 0 (by decide)) ?_
      exact AF.areturn dX3_problemOfWind_21 rfl (Or.inl ⟨_, rfl⟩) (Or.inr ⟨_, rfl⟩) ⟨by rw [if_neg (by rintro (q | q); exact c1 q; exact absurd q (Int32.not_lt.mpr c2))], rfl⟩
    · refine AF.getstatic dX3_problemOfWind_12 gs_X3_34 (pz hG 2 (by decide)) ?_
      refine AF.goto 21 dX3_problemOfWind_15 (by decide) ?_
      exact AF.areturn dX3_problemOfWind_21 rfl (Or.inl ⟨_, rfl⟩) (Or.inr ⟨_, rfl⟩) ⟨by rw [if_pos (Or.inr (Int32.not_le.mp c2))], rfl⟩
end
end
section
/-! Jets: the writing methods. -/
theorem upd_s {f : Nat → Int32} {k : Nat} {x : Int32} : upd f k x k = x := if_pos rfl
theorem upd_n {f : Nat → Int32} {k j : Nat} {x : Int32} (h : ¬ j = k) : upd f k x j = f j := if_neg h
theorem JR.setO {J : List Jt} {f g : Nat → Int32} {j o : Nat} (h : JR J f g) (hj : j < J.length) : JR (J.set j (jp J j, o)) f (upd g j (nI o)) := by
  refine ⟨by rw [List.length_set]; exact h.1, fun i hi => ?_⟩
  rw [List.length_set] at hi
  rw [jp_set, jo_set]
  by_cases e : i = j
  · subst e
    rw [if_pos ⟨rfl, hj⟩, if_pos ⟨rfl, hj⟩, upd_s]
    exact ⟨(h.2 i hi).1, rfl⟩
  · rw [if_neg (fun q => e q.1), if_neg (fun q => e q.1), upd_n e]
    exact h.2 i hi
theorem JR.app {J : List Jt} {f g : Nat → Int32} {p : Nat} (h : JR J f g) (hl : J.length < 10) : JR (J ++ [(p, 0)]) (upd f J.length (nI p)) (upd g J.length 0) := by
  refine ⟨by simp; omega, fun i hi => ?_⟩
  rw [List.length_append] at hi
  rw [jp_app, jo_app]
  by_cases e : i = J.length
  · subst e
    rw [if_pos rfl, if_pos rfl, upd_s, upd_s]
    exact ⟨rfl, nI_0.symm⟩
  · rw [if_neg e, if_neg e, upd_n e, upd_n e]
    exact h.2 i (by simp at hi; omega)
section
variable {G : GA} {F : AH} {a : Nat} {J : List Jt} {cap : Nat} {w : Int32}
set_option maxRecDepth 100000 in
theorem X3_changeCapacity_ok (hJ : JA G F a J cap w) (ha : gN G ≤ a) (x : Nat) : AC G mX3_changeCapacity 0 0 0 [.ref a, .int (nI x)] F (JW G a J x w (some (.int (nI cap))) F) := by
  obtain ⟨f, g, ⟨h0, h1, h2⟩, hr⟩ := hJ
  refine AC.of [some (.ref a), some (.int (nI x)), none] rfl (by decide) (Nat.le_of_ble_eq_true rfl) rfl ?_
  have hfr : Fr a (a + 3) F F := Fr.rf
  refine AF.aload_n dX3_changeCapacity_0 rfl ?_
  refine AF.getfield dX3_changeCapacity_1 fl_X3_22 (by assumption) rfl ?_
  refine AF.istore_n dX3_changeCapacity_4 (by decide) ?_
  refine AF.aload_n dX3_changeCapacity_5 rfl ?_
  refine AF.iload_n dX3_changeCapacity_6 rfl ?_
  refine AF.putfieldF dX3_changeCapacity_7 fp_X3_22 h0 (by omega) (Nat.le_of_ble_eq_true rfl) rfl rfl (Or.inr fq_1_3) ?_
  intro F e9 h9 o9
  replace h1 := (o9 (a + 1) (by omega)).trans h1
  replace h2 := (o9 (a + 2) (by omega)).trans h2
  replace h0 := h9
  replace hfr := hfr.step e9 (by omega) (by omega) o9
  clear e9 h9 o9
  refine AF.iload_n dX3_changeCapacity_10 rfl ?_
  exact AF.ireturn dX3_changeCapacity_11 rfl ⟨rfl, ⟨f, g, ⟨h0, h1, h2⟩, hr⟩, hfr⟩
set_option maxRecDepth 100000 in
theorem X3_changeWind_ok (hJ : JA G F a J cap w) (ha : gN G ≤ a) (x : Int32) : AC G mX3_changeWind 0 0 0 [.ref a, .int x] F (JW G a J cap x (some (.int w)) F) := by
  obtain ⟨f, g, ⟨h0, h1, h2⟩, hr⟩ := hJ
  refine AC.of [some (.ref a), some (.int x), none] rfl (by decide) (Nat.le_of_ble_eq_true rfl) rfl ?_
  have hfr : Fr a (a + 3) F F := Fr.rf
  refine AF.aload_n dX3_changeWind_0 rfl ?_
  refine AF.getfield dX3_changeWind_1 fl_X3_25 (by assumption) rfl ?_
  refine AF.istore_n dX3_changeWind_4 (by decide) ?_
  refine AF.aload_n dX3_changeWind_5 rfl ?_
  refine AF.iload_n dX3_changeWind_6 rfl ?_
  refine AF.putfieldF dX3_changeWind_7 fp_X3_25 h0 (by omega) (Nat.le_of_ble_eq_true rfl) rfl rfl (Or.inr fq_1_4) ?_
  intro F e9 h9 o9
  replace h1 := (o9 (a + 1) (by omega)).trans h1
  replace h2 := (o9 (a + 2) (by omega)).trans h2
  replace h0 := h9
  replace hfr := hfr.step e9 (by omega) (by omega) o9
  clear e9 h9 o9
  refine AF.iload_n dX3_changeWind_10 rfl ?_
  exact AF.ireturn dX3_changeWind_11 rfl ⟨rfl, ⟨f, g, ⟨h0, h1, h2⟩, hr⟩, hfr⟩
set_option maxRecDepth 100000 in
theorem X3_changeOpening_ok (hJ : JA G F a J cap w) (ha : gN G ≤ a) (j o : Nat) (hj : j < J.length) : AC G mX3_changeOpening 0 0 0 [.ref a, .int (nI j), .int (nI o)] F (JW G a (J.set j (jp J j, o)) cap w (some (.int (nI (jo J j)))) F) := by
  obtain ⟨f, g, ⟨h0, h1, h2⟩, hr⟩ := hJ
  have hn := hr.1
  refine AC.of [some (.ref a), some (.int (nI j)), some (.int (nI o)), none] rfl (by decide) (Nat.le_of_ble_eq_true rfl) rfl ?_
  have hfr : Fr a (a + 3) F F := Fr.rf
  refine AF.aload_n dX3_changeOpening_0 rfl ?_
  refine AF.getfield dX3_changeOpening_1 fl_X3_15 (by assumption) rfl ?_
  refine AF.iload_n dX3_changeOpening_4 rfl ?_
  refine AF.iaload (_) dX3_changeOpening_5 (by assumption) rfl (by omega) (by decide) ?_
  rw [(hr.2 j hj).2]
  refine AF.istore_n dX3_changeOpening_6 (by decide) ?_
  refine AF.aload_n dX3_changeOpening_7 rfl ?_
  refine AF.getfield dX3_changeOpening_8 fl_X3_15 (by assumption) rfl ?_
  refine AF.iload_n dX3_changeOpening_11 rfl ?_
  refine AF.iload_n dX3_changeOpening_12 rfl ?_
  refine AF.iastoreF (_) dX3_changeOpening_13 h2 (by omega) rfl (by omega) (by decide) ?_
  intro F e9 h9 o9
  replace h0 := (o9 (a) (by omega)).trans h0
  replace h1 := (o9 (a + 1) (by omega)).trans h1
  replace h2 := h9
  replace hfr := hfr.step e9 (by omega) (by omega) o9
  clear e9 h9 o9
  refine AF.iload_n dX3_changeOpening_14 rfl ?_
  exact AF.ireturn dX3_changeOpening_15 rfl ⟨rfl, ⟨f, _, ⟨by rw [List.length_set]; exact h0, h1, h2⟩, hr.setO hj⟩, hfr⟩
set_option maxRecDepth 100000 in
theorem X3_append_ok (hJ : JA G F a J cap w) (ha : gN G ≤ a) (p : Nat) (hl : J.length < 10) : AC G mX3_append 0 0 0 [.ref a, .int (nI p)] F (JW G a (J ++ [(p, 0)]) cap w (some (.int (nI J.length))) F) := by
  obtain ⟨f, g, ⟨h0, h1, h2⟩, hr⟩ := hJ
  refine AC.of [some (.ref a), some (.int (nI p))] rfl (by decide) (Nat.le_of_ble_eq_true rfl) rfl ?_
  have hfr : Fr a (a + 3) F F := Fr.rf
  refine AF.aload_n dX3_append_0 rfl ?_
  refine AF.getfield dX3_append_1 fl_X3_9 (by assumption) rfl ?_
  refine AF.aload_n dX3_append_4 rfl ?_
  refine AF.getfield dX3_append_5 fl_X3_18 (by assumption) rfl ?_
  refine AF.iload_n dX3_append_8 rfl ?_
  refine AF.iastoreF (_) dX3_append_9 h1 (by omega) rfl (by omega) (by decide) ?_
  intro F e9 h9 o9
  replace h0 := (o9 (a) (by omega)).trans h0
  replace h2 := (o9 (a + 2) (by omega)).trans h2
  replace h1 := h9
  replace hfr := hfr.step e9 (by omega) (by omega) o9
  clear e9 h9 o9
  refine AF.aload_n dX3_append_10 rfl ?_
  refine AF.getfield dX3_append_11 fl_X3_15 (by assumption) rfl ?_
  refine AF.aload_n dX3_append_14 rfl ?_
  refine AF.getfield dX3_append_15 fl_X3_18 (by assumption) rfl ?_
  refine AF.iconst (0) dX3_append_18 (by decide) ?_
  refine AF.iastoreF (_) dX3_append_19 h2 (by omega) rfl (by omega) (by decide) ?_
  intro F e9 h9 o9
  replace h0 := (o9 (a) (by omega)).trans h0
  replace h1 := (o9 (a + 1) (by omega)).trans h1
  replace h2 := h9
  replace hfr := hfr.step e9 (by omega) (by omega) o9
  clear e9 h9 o9
  refine AF.aload_n dX3_append_20 rfl ?_
  refine AF.dup dX3_append_21 rfl ?_
  refine AF.getfield dX3_append_22 fl_X3_18 (by assumption) rfl ?_
  refine AF.iconst (1) dX3_append_25 (by decide) ?_
  refine AF.iadd dX3_append_26 ?_
  have e5 : (J ++ [(p, 0)]).length = J.length + 1 := by simp
  rw [show nI J.length + 1 = nI (J ++ [(p, 0)]).length by rw [nI_1, e5]]
  refine AF.putfieldF dX3_append_27 fp_X3_18 h0 (by omega) (Nat.le_of_ble_eq_true rfl) rfl rfl (Or.inr fq_1_2) ?_
  intro F e9 h9 o9
  replace h1 := (o9 (a + 1) (by omega)).trans h1
  replace h2 := (o9 (a + 2) (by omega)).trans h2
  replace h0 := h9
  replace hfr := hfr.step e9 (by omega) (by omega) o9
  clear e9 h9 o9
  refine AF.aload_n dX3_append_30 rfl ?_
  refine AF.getfield dX3_append_31 fl_X3_18 (by assumption) rfl ?_
  refine AF.iconst (1) dX3_append_34 (by decide) ?_
  refine AF.isub dX3_append_35 ?_
  exact AF.ireturn dX3_append_36 rfl ⟨by rw [e5, nI_pred], ⟨_, _, ⟨h0, h1, h2⟩, hr.app hl⟩, hfr⟩
set_option maxRecDepth 100000 in
theorem X3_drop_ok (hJ : JA G F a J cap w) (ha : gN G ≤ a) (x : Nat) (hx : x < J.length) : AC G mX3_drop 0 0 0 [.ref a, .int (nI x)] F (JW G a (J.eraseIdx x) cap w none F) := by
  obtain ⟨f, g, ⟨h0, h1, h2⟩, hr⟩ := hJ
  have hn := hr.1
  have hlen : (J.eraseIdx x).length = J.length - 1 := List.length_eraseIdx_of_lt hx
  refine AC.of [some (.ref a), some (.int (nI x)), none] rfl (by decide) (Nat.le_of_ble_eq_true rfl) rfl ?_
  have hfr : Fr a (a + 3) F F := Fr.rf
  have loop : ∀ k j F1 f' g', j + k = J.length - 1 → x ≤ j → F1.2 a = some (.inr (1, [.ref (a + 1), .ref (a + 2), .int (nI (J.length - 1)), .int (nI cap), .int w])) → F1.2 (a + 1) = some (.inl (gC G 0, 10, .inl f')) → F1.2 (a + 2) = some (.inl (gC G 0, 10, .inl g')) → Fr a (a + 3) F F1 → (∀ i, i < j → f' i = nI (jp (J.eraseIdx x) i) ∧ g' i = nI (jo (J.eraseIdx x) i)) → (∀ i, j ≤ i → f' i = f i ∧ g' i = g i) → AF G mX3_drop 0 0 0 (JW G a (J.eraseIdx x) cap w none F) F1 12 [some (.ref a), some (.int (nI x)), some (.int (nI j))] [] := by
    intro k
    induction k with
    | zero =>
      intro j F f' g' hj hxj h0 h1 h2 hfr ha1 ha2
      refine AF.iload_n dX3_drop_12 rfl ?_
      refine AF.aload_n dX3_drop_13 rfl ?_
      refine AF.getfield dX3_drop_14 fl_X3_18 (by assumption) rfl ?_
      refine AF.icmp_ge 54 dX3_drop_17 (by decide) (fun hb => ?_) (fun hb => ?_)
      · exact AF.vreturn dX3_drop_54 rfl ⟨rfl, ⟨f', g', ⟨by rw [hlen]; exact h0, h1, h2⟩, by rw [hlen]; omega, fun i hi => ha1 i (by omega)⟩, hfr⟩
      · exact absurd (by rw [nI_leI (by omega) (by omega)]; omega) hb
    | succ k ih =>
      intro j F f' g' hj hxj h0 h1 h2 hfr ha1 ha2
      refine AF.iload_n dX3_drop_12 rfl ?_
      refine AF.aload_n dX3_drop_13 rfl ?_
      refine AF.getfield dX3_drop_14 fl_X3_18 (by assumption) rfl ?_
      refine AF.icmp_ge 54 dX3_drop_17 (by decide) (fun hb => ?_) (fun hb => ?_)
      · rw [nI_leI (by omega) (by omega)] at hb
        omega
      · refine AF.aload_n dX3_drop_20 rfl ?_
        refine AF.getfield dX3_drop_21 fl_X3_9 (by assumption) rfl ?_
        refine AF.iload_n dX3_drop_24 rfl ?_
        refine AF.aload_n dX3_drop_25 rfl ?_
        refine AF.getfield dX3_drop_26 fl_X3_9 (by assumption) rfl ?_
        refine AF.iload_n dX3_drop_29 rfl ?_
        refine AF.iconst (nI 1) dX3_drop_30 (by decide) ?_
        refine AF.iadd dX3_drop_31 ?_
        refine AF.iaload (j + 1) dX3_drop_32 (by assumption) (by first | rfl | exact nI_1 _ | (simp only [nI_add, pk_mul, nI_1]; exact congrArg nI (by omega)) | simp only [nI_add, pk_mul, nI_1]) (by omega) (by decide) ?_
        refine AF.iastoreF (_) dX3_drop_33 h1 (by omega) rfl (by omega) (by decide) ?_
        intro F e9 h9 o9
        replace h0 := (o9 (a) (by omega)).trans h0
        replace h2 := (o9 (a + 2) (by omega)).trans h2
        replace h1 := h9
        replace hfr := hfr.step e9 (by omega) (by omega) o9
        clear e9 h9 o9
        refine AF.aload_n dX3_drop_34 rfl ?_
        refine AF.getfield dX3_drop_35 fl_X3_15 (by assumption) rfl ?_
        refine AF.iload_n dX3_drop_38 rfl ?_
        refine AF.aload_n dX3_drop_39 rfl ?_
        refine AF.getfield dX3_drop_40 fl_X3_15 (by assumption) rfl ?_
        refine AF.iload_n dX3_drop_43 rfl ?_
        refine AF.iconst (nI 1) dX3_drop_44 (by decide) ?_
        refine AF.iadd dX3_drop_45 ?_
        refine AF.iaload (j + 1) dX3_drop_46 (by assumption) (by first | rfl | exact nI_1 _ | (simp only [nI_add, pk_mul, nI_1]; exact congrArg nI (by omega)) | simp only [nI_add, pk_mul, nI_1]) (by omega) (by decide) ?_
        refine AF.iastoreF (_) dX3_drop_47 h2 (by omega) rfl (by omega) (by decide) ?_
        intro F e9 h9 o9
        replace h0 := (o9 (a) (by omega)).trans h0
        replace h1 := (o9 (a + 1) (by omega)).trans h1
        replace h2 := h9
        replace hfr := hfr.step e9 (by omega) (by omega) o9
        clear e9 h9 o9
        refine AF.inc1 dX3_drop_48 rfl (by decide) ?_
        refine AF.goto 12 dX3_drop_51 (by decide) ?_
        refine ih (j + 1) F _ _ (by omega) (by omega) h0 h1 h2 hfr (fun i hi => ?_) (fun i hi => ?_)
        · by_cases e : i = j
          · subst e
            rw [upd_s, upd_s, (ha2 (i + 1) (by omega)).1, (ha2 (i + 1) (by omega)).2, (hr.2 (i + 1) (by omega)).1, (hr.2 (i + 1) (by omega)).2, jp_era, jo_era, if_neg (by omega), if_neg (by omega)]
            exact ⟨rfl, rfl⟩
          · rw [upd_n e, upd_n e]
            exact ha1 i (by omega)
        · rw [upd_n (by omega), upd_n (by omega)]
          exact ha2 i (by omega)
  refine AF.aload_n dX3_drop_0 rfl ?_
  refine AF.dup dX3_drop_1 rfl ?_
  refine AF.getfield dX3_drop_2 fl_X3_18 (by assumption) rfl ?_
  refine AF.iconst (1) dX3_drop_5 (by decide) ?_
  refine AF.isub dX3_drop_6 ?_
  rw [show nI J.length - 1 = nI (J.length - 1) by rw [show J.length = J.length - 1 + 1 by omega, nI_pred]; rfl]
  refine AF.putfieldF dX3_drop_7 fp_X3_18 h0 (by omega) (Nat.le_of_ble_eq_true rfl) rfl rfl (Or.inr fq_1_2) ?_
  intro F e9 h9 o9
  replace h1 := (o9 (a + 1) (by omega)).trans h1
  replace h2 := (o9 (a + 2) (by omega)).trans h2
  replace h0 := h9
  replace hfr := hfr.step e9 (by omega) (by omega) o9
  clear e9 h9 o9
  refine AF.iload_n dX3_drop_10 rfl ?_
  refine AF.istore_n dX3_drop_11 (by decide) ?_
  refine loop (J.length - 1 - x) x F f g (by omega) (Nat.le_refl _) h0 h1 h2 hfr (fun i hi => ?_) (fun i _ => ⟨rfl, rfl⟩)
  rw [jp_era, jo_era, if_pos hi, if_pos hi]
  exact hr.2 i (by omega)
set_option maxRecDepth 100000 in
theorem X3_closeWildJets_ok (hJ : JA G F a J cap w) (ha : gN G ≤ a) (hI : JI J) (hcap : cap ≤ 100) : AC G mX3_closeWildJets 3 0 0 [.ref a] F (JW G a (trm cap w 100 J).2 cap w (some (.int (nI (trm cap w 100 J).1))) F) := by
  refine AC.of [some (.ref a), none, none] rfl (by decide) (Nat.le_of_ble_eq_true rfl) rfl ?_
  have loop : ∀ k c F1 J1 z, c + k = 100 → JA G F1 a J1 cap w → JI J1 → Fr a (a + 3) F F1 → AF G mX3_closeWildJets 3 0 0 (JW G a (trm cap w k J1).2 cap w (some (.int (nI (c + (trm cap w k J1).1)))) F) F1 2 [some (.ref a), some (.int (nI c)), z] [] := by
    intro k
    induction k with
    | zero =>
      intro c F J1 z hc hJ1 hI1 hfr
      refine AF.iload_n dX3_closeWildJets_2 rfl ?_
      refine AF.bipush (nI 100) dX3_closeWildJets_3 (by decide) ?_
      refine AF.icmp_ge 36 dX3_closeWildJets_5 (by decide) (fun hb => ?_) (fun hb => ?_)
      · refine AF.bipush (nI 100) dX3_closeWildJets_36 (by decide) ?_
        exact AF.ireturn dX3_closeWildJets_38 rfl ⟨by rw [show c + (trm cap w 0 J1).1 = 100 by simp only [trm]; omega], hJ1, hfr⟩
      · exact absurd (by rw [nI_leI (by omega) (by omega)]; omega) hb
    | succ k ih =>
      intro c F J1 z hc hJ1 hI1 hfr
      have hw := X3_findFirstWild_ok hJ1 hI1 hcap
      obtain ⟨f, g, ⟨h0, h1, h2⟩, hr⟩ := id hJ1
      have hn := hr.1
      refine AF.iload_n dX3_closeWildJets_2 rfl ?_
      refine AF.bipush (nI 100) dX3_closeWildJets_3 (by decide) ?_
      refine AF.icmp_ge 36 dX3_closeWildJets_5 (by decide) (fun hb => ?_) (fun hb => ?_)
      · rw [nI_leI (by omega) (by omega)] at hb
        omega
      · refine AF.aload_n dX3_closeWildJets_8 rfl ?_
        refine AF.v1 dX3_closeWildJets_9 kv_X3_78 (hw) (by assumption) rfl rfl rfl (Nat.le_of_ble_eq_true rfl) (by decide) rfl ?_
        cases hwf : wfst J1 cap w with
        | none =>
          dsimp only
          refine AF.istore_n dX3_closeWildJets_12 (by decide) ?_
          refine AF.iload_n dX3_closeWildJets_13 rfl ?_
          refine AF.iconst (-1) dX3_closeWildJets_14 (by decide) ?_
          refine AF.icmp_ne 20 dX3_closeWildJets_15 (by decide) (fun hb2 => ?_) (fun hb2 => ?_)
          · exact absurd rfl hb2
          · refine AF.iload_n dX3_closeWildJets_18 rfl ?_
            exact AF.ireturn dX3_closeWildJets_19 rfl ⟨by simp only [trm, hwf]; rfl, by simp only [trm, hwf]; exact hJ1, hfr⟩
        | some j =>
          obtain ⟨hj, hjw⟩ := fnd_spec hwf
          have hop := wild_open hI1 hjw
          dsimp only
          refine AF.istore_n dX3_closeWildJets_12 (by decide) ?_
          refine AF.iload_n dX3_closeWildJets_13 rfl ?_
          refine AF.iconst (-1) dX3_closeWildJets_14 (by decide) ?_
          refine AF.icmp_ne 20 dX3_closeWildJets_15 (by decide) (fun hb2 => ?_) (fun hb2 => ?_)
          · refine AF.aload_n dX3_closeWildJets_20 rfl ?_
            refine AF.getfield dX3_closeWildJets_21 fl_X3_15 (by assumption) rfl ?_
            refine AF.iload_n dX3_closeWildJets_24 rfl ?_
            refine AF.dup2 dX3_closeWildJets_25 rfl rfl ?_
            refine AF.iaload (_) dX3_closeWildJets_26 (by assumption) rfl (by omega) (by decide) ?_
            rw [(hr.2 j hj).2]
            refine AF.iconst (nI 1) dX3_closeWildJets_27 (by decide) ?_
            refine AF.isub dX3_closeWildJets_28 ?_
            rw [show nI (jo J1 j) - nI 1 = nI (jo J1 j - 1) from pk_sub hop]
            refine AF.iastoreF (_) dX3_closeWildJets_29 h2 (by omega) rfl (by omega) (by decide) ?_
            intro F e9 h9 o9
            replace h0 := (o9 (a) (by omega)).trans h0
            replace h1 := (o9 (a + 1) (by omega)).trans h1
            replace h2 := h9
            replace hfr := hfr.step e9 (by omega) (by omega) o9
            clear e9 h9 o9
            refine AF.inc1 dX3_closeWildJets_30 rfl (by decide) ?_
            refine AF.goto 2 dX3_closeWildJets_33 (by decide) ?_
            have h9 := ih (c + 1) F (dec1 J1 j) (some (.int (nI j))) (by omega) ⟨f, _, ⟨by rw [dec1_len]; exact h0, h1, h2⟩, hr.setO hj⟩ (JI_dec1 hI1) hfr
            simp only [trm, hwf]
            rw [show c + 1 + (trm cap w k (dec1 J1 j)).1 = c + ((trm cap w k (dec1 J1 j)).1 + 1) by omega] at h9
            exact h9
          · exact absurd hb2 (by rw [← Int32.toInt_inj, nI_toInt (by omega)]; show ¬ ((j : Int) = -1); omega)
  refine AF.iconst (nI 0) dX3_closeWildJets_0 (by decide) ?_
  refine AF.istore_n dX3_closeWildJets_1 (by decide) ?_
  have h9 := loop 100 0 F J none (by omega) hJ hI Fr.rf
  rw [Nat.zero_add] at h9
  exact h9
end
section
variable {G : GA} {F : AH} {a b : Nat} {J J0 : List Jt} {cap cap0 : Nat} {w w0 : Int32}
set_option maxRecDepth 100000 in
theorem X3_copyFrom_ok (hJ0 : JA G F a J0 cap0 w0) (hJ : JA G F b J cap w) (ha : gN G ≤ a) (hab : a + 3 ≤ b ∨ b + 3 ≤ a) : AC G mX3_copyFrom 1 0 0 [.ref a, .ref b] F (JW G a J cap w none F) := by
  obtain ⟨f0, g0', ⟨h0, h1, h2⟩, -⟩ := hJ0
  obtain ⟨f, g, ⟨g0, g1, g2⟩, hr⟩ := hJ
  refine AC.of [some (.ref a), some (.ref b)] rfl (by decide) (Nat.le_of_ble_eq_true rfl) rfl ?_
  have hfr : Fr a (a + 3) F F := Fr.rf
  refine AF.aload_n dX3_copyFrom_0 rfl ?_
  refine AF.getfield dX3_copyFrom_1 fl_X3_9 (by assumption) rfl ?_
  refine AF.iconst (nI 0) dX3_copyFrom_4 (by decide) ?_
  refine AF.aload_n dX3_copyFrom_5 rfl ?_
  refine AF.getfield dX3_copyFrom_6 fl_X3_9 (by assumption) rfl ?_
  refine AF.iconst (nI 0) dX3_copyFrom_9 (by decide) ?_
  refine AF.bipush (nI 10) dX3_copyFrom_10 (by decide) ?_
  refine AF.copyi dX3_copyFrom_12 ka_X3_28 g1 h1 (by omega) rfl rfl rfl (by omega) (by omega) (by decide) (by decide) (Nat.le_of_ble_eq_true rfl) (by decide) ?_
  intro F e9 h9 o9
  replace h0 := (o9 (a) (by omega)).trans h0
  replace h2 := (o9 (a + 2) (by omega)).trans h2
  replace g0 := (o9 (b) (by omega)).trans g0
  replace g1 := (o9 (b + 1) (by omega)).trans g1
  replace g2 := (o9 (b + 2) (by omega)).trans g2
  replace h1 := h9
  replace hfr := hfr.step e9 (by omega) (by omega) o9
  clear e9 h9 o9
  refine AF.aload_n dX3_copyFrom_15 rfl ?_
  refine AF.getfield dX3_copyFrom_16 fl_X3_15 (by assumption) rfl ?_
  refine AF.iconst (nI 0) dX3_copyFrom_19 (by decide) ?_
  refine AF.aload_n dX3_copyFrom_20 rfl ?_
  refine AF.getfield dX3_copyFrom_21 fl_X3_15 (by assumption) rfl ?_
  refine AF.iconst (nI 0) dX3_copyFrom_24 (by decide) ?_
  refine AF.bipush (nI 10) dX3_copyFrom_25 (by decide) ?_
  refine AF.copyi dX3_copyFrom_27 ka_X3_28 g2 h2 (by omega) rfl rfl rfl (by omega) (by omega) (by decide) (by decide) (Nat.le_of_ble_eq_true rfl) (by decide) ?_
  intro F e9 h9 o9
  replace h0 := (o9 (a) (by omega)).trans h0
  replace h1 := (o9 (a + 1) (by omega)).trans h1
  replace g0 := (o9 (b) (by omega)).trans g0
  replace g1 := (o9 (b + 1) (by omega)).trans g1
  replace g2 := (o9 (b + 2) (by omega)).trans g2
  replace h2 := h9
  replace hfr := hfr.step e9 (by omega) (by omega) o9
  clear e9 h9 o9
  refine AF.aload_n dX3_copyFrom_30 rfl ?_
  refine AF.aload_n dX3_copyFrom_31 rfl ?_
  refine AF.getfield dX3_copyFrom_32 fl_X3_18 (by assumption) rfl ?_
  refine AF.putfieldF dX3_copyFrom_35 fp_X3_18 h0 (by omega) (Nat.le_of_ble_eq_true rfl) rfl rfl (Or.inr fq_1_2) ?_
  intro F e9 h9 o9
  replace h1 := (o9 (a + 1) (by omega)).trans h1
  replace h2 := (o9 (a + 2) (by omega)).trans h2
  replace g0 := (o9 (b) (by omega)).trans g0
  replace g1 := (o9 (b + 1) (by omega)).trans g1
  replace g2 := (o9 (b + 2) (by omega)).trans g2
  replace h0 := h9
  replace hfr := hfr.step e9 (by omega) (by omega) o9
  clear e9 h9 o9
  refine AF.aload_n dX3_copyFrom_38 rfl ?_
  refine AF.aload_n dX3_copyFrom_39 rfl ?_
  refine AF.getfield dX3_copyFrom_40 fl_X3_22 (by assumption) rfl ?_
  refine AF.putfieldF dX3_copyFrom_43 fp_X3_22 h0 (by omega) (Nat.le_of_ble_eq_true rfl) rfl rfl (Or.inr fq_1_3) ?_
  intro F e9 h9 o9
  replace h1 := (o9 (a + 1) (by omega)).trans h1
  replace h2 := (o9 (a + 2) (by omega)).trans h2
  replace g0 := (o9 (b) (by omega)).trans g0
  replace g1 := (o9 (b + 1) (by omega)).trans g1
  replace g2 := (o9 (b + 2) (by omega)).trans g2
  replace h0 := h9
  replace hfr := hfr.step e9 (by omega) (by omega) o9
  clear e9 h9 o9
  refine AF.aload_n dX3_copyFrom_46 rfl ?_
  refine AF.aload_n dX3_copyFrom_47 rfl ?_
  refine AF.getfield dX3_copyFrom_48 fl_X3_25 (by assumption) rfl ?_
  refine AF.putfieldF dX3_copyFrom_51 fp_X3_25 h0 (by omega) (Nat.le_of_ble_eq_true rfl) rfl rfl (Or.inr fq_1_4) ?_
  intro F e9 h9 o9
  replace h1 := (o9 (a + 1) (by omega)).trans h1
  replace h2 := (o9 (a + 2) (by omega)).trans h2
  replace g0 := (o9 (b) (by omega)).trans g0
  replace g1 := (o9 (b + 1) (by omega)).trans g1
  replace g2 := (o9 (b + 2) (by omega)).trans g2
  replace h0 := h9
  replace hfr := hfr.step e9 (by omega) (by omega) o9
  clear e9 h9 o9
  exact AF.vreturn dX3_copyFrom_54 rfl ⟨rfl, ⟨_, _, ⟨h0, h1, h2⟩, hr.1, fun i hi => by rw [pk_cpy_in (by omega) (by have := hr.1; omega), pk_cpy_in (by omega) (by have := hr.1; omega)]; simpa using hr.2 i hi⟩, hfr⟩
end
end
section
/-! Figures: its picture; the methods that read, and the moves. -/
theorem gd_set {α : Type} {L : List α} {z : α} {j i : Nat} {q : α} : (L.set j q).getD i z = if i = j ∧ j < L.length then q else L.getD i z := by
  rw [List.getD_eq_getElem?_getD, List.getElem?_set, List.getD_eq_getElem?_getD]
  by_cases h : j = i
  · subst h
    by_cases h2 : j < L.length
    · simp [h2]
    · simp [h2, List.getElem?_eq_none (Nat.not_lt.mp h2)]
  · rw [if_neg h, if_neg (fun q => h q.1.symm)]
theorem gd_app {α : Type} {L : List α} {z : α} {i : Nat} {q : α} : (L ++ [q]).getD i z = if i = L.length then q else L.getD i z := by
  rw [List.getD_eq_getElem?_getD, List.getD_eq_getElem?_getD, List.getElem?_append]
  by_cases h : i < L.length
  · rw [if_pos h, if_neg (by omega)]
  · rw [if_neg h]
    by_cases h2 : i = L.length
    · subst h2; simp
    · rw [if_neg h2, List.getElem?_eq_none (by simp; omega), List.getElem?_eq_none (by omega)]
theorem gd_era {α : Type} {L : List α} {z : α} {k i : Nat} : (L.eraseIdx k).getD i z = if i < k then L.getD i z else L.getD (i + 1) z := by
  rw [List.getD_eq_getElem?_getD, List.getD_eq_getElem?_getD, List.getD_eq_getElem?_getD, List.getElem?_eraseIdx]
  split <;> rfl
abbrev fg (Fg : List (List Sp)) (i : Nat) : List Sp := Fg.getD i []
def g3 (L : List Sp) (k : Nat) : Sp := L.getD k (0, 0, 0)
def RowR (L : List Sp) (i : Nat) (dl jt op : Nat → Int32) : Prop := ∀ k, k < L.length → dl (i * 8 + k) = nI (g3 L k).1 ∧ jt (i * 8 + k) = nI (g3 L k).2.1 ∧ op (i * 8 + k) = nI (g3 L k).2.2
def FR (Fg : List (List Sp)) (sc dl jt op : Nat → Int32) : Prop := Fg.length ≤ 5 ∧ ∀ i, i < Fg.length → (fg Fg i).length ≤ 8 ∧ sc i = nI (fg Fg i).length ∧ RowR (fg Fg i) i dl jt op
def FA0 (G : GA) (F : AH) (a n : Nat) (sc dl jt op : Nat → Int32) : Prop :=
  F.2 a = some (.inr (0, [.ref (a + 1), .ref (a + 2), .ref (a + 3), .ref (a + 4), .int (nI n)])) ∧ F.2 (a + 1) = some (.inl (gC G 0, 5, .inl sc)) ∧ F.2 (a + 2) = some (.inl (gC G 0, 40, .inl dl)) ∧ F.2 (a + 3) = some (.inl (gC G 0, 40, .inl jt)) ∧ F.2 (a + 4) = some (.inl (gC G 0, 40, .inl op))
def FA (G : GA) (F : AH) (a : Nat) (Fg : List (List Sp)) : Prop := ∃ sc dl jt op, FA0 G F a Fg.length sc dl jt op ∧ FR Fg sc dl jt op
theorem FA.kept {G : GA} {F F' : AH} {a : Nat} {Fg : List (List Sp)} (h : FA G F a Fg) (e : ∀ q, a ≤ q → q < a + 5 → F'.2 q = F.2 q) : FA G F' a Fg := by
  obtain ⟨sc, dl, jt, op, ⟨h0, h1, h2, h3, h4⟩, hr⟩ := h
  exact ⟨sc, dl, jt, op, ⟨(e a (by omega) (by omega)).trans h0, (e (a + 1) (by omega) (by omega)).trans h1, (e (a + 2) (by omega) (by omega)).trans h2, (e (a + 3) (by omega) (by omega)).trans h3, (e (a + 4) (by omega) (by omega)).trans h4⟩, hr⟩
/-- the greatest, 0 if there is none -/
def mxN (g : Nat → Nat) : Nat → Nat
  | 0 => 0
  | n + 1 => if mxN g n < g n then g n else mxN g n
def fln (L : List Sp) : Nat := mxN (fun k => (g3 L k).1) L.length
def fus (L : List Sp) (x : Nat) : Bool := (fnd (fun k => decide ((g3 L k).2.1 = x)) L.length).isSome
/-- delays, jets and openings are within their ranges -/
def FI (Fg : List (List Sp)) (n : Nat) : Prop := ∀ i k, k < (fg Fg i).length → (g3 (fg Fg i) k).1 ≤ 20 ∧ (g3 (fg Fg i) k).2.1 < n ∧ (g3 (fg Fg i) k).2.2 ≤ 10
theorem mxN_le {g : Nat → Nat} {b : Nat} : ∀ n, (∀ j, j < n → g j ≤ b) → mxN g n ≤ b
  | 0, _ => Nat.zero_le _
  | n + 1, h => by
    simp only [mxN]
    have := mxN_le n (fun j hj => h j (by omega))
    have := h n (by omega)
    split <;> omega
def FW (G : GA) (a : Nat) (Fg : List (List Sp)) (v : Option Value) (F0 : AH) : AR → AH → Prop := fun r F' => r = .inl v ∧ FA G F' a Fg ∧ Fr a (a + 5) F0 F'
def FW0 (G : GA) (a n : Nat) (sc dl jt op : Nat → Int32) (v : Option Value) (F0 : AH) : AR → AH → Prop := fun r F' => r = .inl v ∧ FA0 G F' a n sc dl jt op ∧ Fr a (a + 5) F0 F'
section
variable {G : GA} {F : AH} {a : Nat} {Fg : List (List Sp)}
set_option maxRecDepth 100000 in
theorem X8_slot_ok (i k : Nat) : AC G mX8_slot 0 0 0 [.int (nI i), .int (nI k)] F (AV (some (.int (nI (i * 8 + k)))) F) := by
  refine AC.of [some (.int (nI i)), some (.int (nI k))] rfl (by decide) (Nat.le_of_ble_eq_true rfl) rfl ?_
  refine AF.iload_n dX8_slot_0 rfl ?_
  refine AF.bipush (nI 8) dX8_slot_1 (by decide) ?_
  refine AF.imul dX8_slot_3 ?_
  refine AF.iload_n dX8_slot_4 rfl ?_
  refine AF.iadd dX8_slot_5 ?_
  refine AF.ireturn dX8_slot_6 rfl ⟨?_, rfl⟩
  rw [pk_mul, nI_add]
set_option maxRecDepth 100000 in
theorem X2_has_ok (hF : FA G F a Fg) (x : Int32) : AC G mX2_has 0 0 0 [.ref a, .int x] F (AV (some (.int (bI (hasB Fg.length x)))) F) := by
  obtain ⟨sc, dl, jt, op, ⟨h0, h1, h2, h3, h4⟩, hr⟩ := hF
  refine AC.of [some (.ref a), some (.int x)] rfl (by decide) (Nat.le_of_ble_eq_true rfl) rfl ?_
  unfold hasB
  refine AF.iload_n dX2_has_0 rfl ?_
  refine AF.if_lt 16 dX2_has_1 (by decide) (fun c1 => ?_) (fun c1 => ?_)
  · refine AF.iconst (0) dX2_has_16 (by decide) ?_
    exact AF.zreturn dX2_has_17 rfl rfl ⟨by rw [decide_eq_false (Int32.not_le.mpr c1)]; rfl, rfl⟩
  · refine AF.iload_n dX2_has_4 rfl ?_
    refine AF.aload_n dX2_has_5 rfl ?_
    refine AF.getfield dX2_has_6 fl_X2_24 (by assumption) rfl ?_
    refine AF.icmp_ge 16 dX2_has_9 (by decide) (fun c2 => ?_) (fun c2 => ?_)
    · refine AF.iconst (0) dX2_has_16 (by decide) ?_
      exact AF.zreturn dX2_has_17 rfl rfl ⟨by rw [decide_eq_false (Int32.not_lt.mpr c2), Bool.and_false]; rfl, rfl⟩
    · refine AF.iconst (1) dX2_has_12 (by decide) ?_
      refine AF.goto 17 dX2_has_13 (by decide) ?_
      exact AF.zreturn dX2_has_17 rfl rfl ⟨by rw [decide_eq_true (Int32.not_lt.mp c1), decide_eq_true (Int32.not_le.mp c2)]; rfl, rfl⟩
theorem hasB_nI {n : Nat} {x : Int32} (hn : n < 2 ^ 31) (h : hasB n x = true) : ∃ j, j < n ∧ x = nI j := by
  unfold hasB at h
  rw [Bool.and_eq_true, decide_eq_true_iff, decide_eq_true_iff] at h
  rcases pk_ix x hn with q | q | q
  · exact absurd h.1 (Int32.not_le.mpr q)
  · exact absurd h.2 (Int32.not_lt.mpr q)
  · exact q
theorem hasB_of {n j : Nat} (hn : n < 2 ^ 31) (h : j < n) : hasB n (nI j) = true := by
  unfold hasB
  rw [decide_eq_true (nI_pos' (by omega)), decide_eq_true (nI_lt h hn)]
  rfl
/-- is there such a figure, and such a step in it -/
def hsB (Fg : List (List Sp)) (x y : Int32) : Bool := hasB Fg.length x && hasB (fg Fg x.toNatClampNeg).length y
set_option maxRecDepth 100000 in
theorem X2_hasStep_ok (hF : FA G F a Fg) (x y : Int32) : AC G mX2_hasStep 1 0 0 [.ref a, .int x, .int y] F (AV (some (.int (bI (hsB Fg x y)))) F) := by
  have hT := X2_has_ok hF x
  obtain ⟨sc, dl, jt, op, ⟨h0, h1, h2, h3, h4⟩, hr⟩ := hF
  refine AC.of [some (.ref a), some (.int x), some (.int y)] rfl (by decide) (Nat.le_of_ble_eq_true rfl) rfl ?_
  unfold hsB
  have h5 := hr.1
  refine AF.aload_n dX2_hasStep_0 rfl ?_
  refine AF.iload_n dX2_hasStep_1 rfl ?_
  refine AF.v1 dX2_hasStep_2 kv_X2_34 (hT) (by assumption) rfl rfl rfl (Nat.le_of_ble_eq_true rfl) (by decide) rfl ?_
  refine AF.if_eq 26 dX2_hasStep_5 (by decide) (fun c0 => ?_) (fun c0 => ?_)
  · rw [bI_z c0, Bool.false_and]
    refine AF.iconst (0) dX2_hasStep_26 (by decide) ?_
    exact AF.zreturn dX2_hasStep_27 rfl rfl ⟨rfl, rfl⟩
  · obtain ⟨i, hi, rfl⟩ := hasB_nI (by omega) (bI_n c0)
    rw [bI_n c0, Bool.true_and, nI_clamp (by omega)]
    have h8 := (hr.2 i hi).1
    unfold hasB
    refine AF.iload_n dX2_hasStep_8 rfl ?_
    refine AF.if_lt 26 dX2_hasStep_9 (by decide) (fun c1 => ?_) (fun c1 => ?_)
    · refine AF.iconst (0) dX2_hasStep_26 (by decide) ?_
      exact AF.zreturn dX2_hasStep_27 rfl rfl ⟨by rw [decide_eq_false (Int32.not_le.mpr c1)]; rfl, rfl⟩
    · refine AF.iload_n dX2_hasStep_12 rfl ?_
      refine AF.aload_n dX2_hasStep_13 rfl ?_
      refine AF.getfield dX2_hasStep_14 fl_X2_9 (by assumption) rfl ?_
      refine AF.iload_n dX2_hasStep_17 rfl ?_
      refine AF.iaload (_) dX2_hasStep_18 (by assumption) rfl (by omega) (by decide) ?_
      rw [(hr.2 i hi).2.1]
      refine AF.icmp_ge 26 dX2_hasStep_19 (by decide) (fun c2 => ?_) (fun c2 => ?_)
      · refine AF.iconst (0) dX2_hasStep_26 (by decide) ?_
        exact AF.zreturn dX2_hasStep_27 rfl rfl ⟨by rw [decide_eq_false (Int32.not_lt.mpr c2), Bool.and_false]; rfl, rfl⟩
      · refine AF.iconst (1) dX2_hasStep_22 (by decide) ?_
        refine AF.goto 27 dX2_hasStep_23 (by decide) ?_
        exact AF.zreturn dX2_hasStep_27 rfl rfl ⟨by rw [decide_eq_true (Int32.not_lt.mp c1), decide_eq_true (Int32.not_le.mp c2)]; rfl, rfl⟩
set_option maxRecDepth 100000 in
theorem X2_problemOfAdding_ok (hF : FA G F a Fg) : AC G mX2_problemOfAdding 0 0 0 [.ref a] F (AV (some (.ref (gk G (if Fg.length < 5 then 0 else 4)))) F) := by
  obtain ⟨sc, dl, jt, op, ⟨h0, h1, h2, h3, h4⟩, hr⟩ := hF
  have h5 := hr.1
  refine AC.of [some (.ref a)] rfl (by decide) (Nat.le_of_ble_eq_true rfl) rfl (AF.ok fun hG => ?_)
  refine AF.aload_n dX2_problemOfAdding_0 rfl ?_
  refine AF.getfield dX2_problemOfAdding_1 fl_X2_24 (by assumption) rfl ?_
  refine AF.iconst (nI 5) dX2_problemOfAdding_4 (by decide) ?_
  refine AF.icmp_ge 14 dX2_problemOfAdding_5 (by decide) (fun c1 => ?_) (fun c1 => ?_)
  · rw [nI_leI (by omega) (by omega)] at c1
    refine AF.getstatic dX2_problemOfAdding_14 gs_X2_44 (pz hG 4 (by decide)) ?_
    exact AF.areturn dX2_problemOfAdding_17 rfl (Or.inl ⟨_, rfl⟩) (Or.inr ⟨_, rfl⟩) ⟨by rw [if_neg (by omega)], rfl⟩
  · rw [nI_leI (by omega) (by omega)] at c1
    refine AF.getstatic dX2_problemOfAdding_8 gs_X2_38 (pz hG 0 (by decide)) ?_
    refine AF.goto 17 dX2_problemOfAdding_11 (by decide) ?_
    exact AF.areturn dX2_problemOfAdding_17 rfl (Or.inl ⟨_, rfl⟩) (Or.inr ⟨_, rfl⟩) ⟨by rw [if_pos (by omega)], rfl⟩
set_option maxRecDepth 100000 in
theorem X2_lengthOf_ok (hF : FA G F a Fg) {n : Nat} (hI : FI Fg n) (i : Nat) (hi : i < Fg.length) : AC G mX2_lengthOf 0 0 0 [.ref a, .int (nI i)] F (AV (some (.int (nI (fln (fg Fg i))))) F) := by
  obtain ⟨sc, dl, jt, op, ⟨h0, h1, h2, h3, h4⟩, hr⟩ := hF
  have h5 := hr.1
  obtain ⟨h8, hsc, hrow⟩ := hr.2 i hi
  refine AC.of [some (.ref a), some (.int (nI i)), none, none, none] rfl (by decide) (Nat.le_of_ble_eq_true rfl) rfl ?_
  have loop : ∀ k j z, j + k = (fg Fg i).length → AF G mX2_lengthOf 0 0 0 (AV (some (.int (nI (fln (fg Fg i))))) F) F 4 [some (.ref a), some (.int (nI i)), some (.int (nI (mxN (fun k => (g3 (fg Fg i) k).1) j))), some (.int (nI j)), z] [] := by
    intro k
    induction k with
    | zero =>
      intro j z hj
      refine AF.iload_n dX2_lengthOf_4 rfl ?_
      refine AF.aload_n dX2_lengthOf_5 rfl ?_
      refine AF.getfield dX2_lengthOf_6 fl_X2_9 (by assumption) rfl ?_
      refine AF.iload_n dX2_lengthOf_9 rfl ?_
      refine AF.iaload (_) dX2_lengthOf_10 (by assumption) rfl (by omega) (by decide) ?_
      rw [hsc]
      refine AF.icmp_ge 46 dX2_lengthOf_11 (by decide) (fun hb => ?_) (fun hb => ?_)
      · refine AF.iload_n dX2_lengthOf_46 rfl ?_
        exact AF.ireturn dX2_lengthOf_47 rfl ⟨by rw [show j = (fg Fg i).length by omega]; rfl, rfl⟩
      · exact absurd (by rw [nI_leI (by omega) (by omega)]; omega) hb
    | succ k ih =>
      intro j z hj
      have q1 := (hI i j (by omega)).1
      have q2 := mxN_le (g := fun k => (g3 (fg Fg i) k).1) (b := 20) j (fun m hm => (hI i m (by omega)).1)
      refine AF.iload_n dX2_lengthOf_4 rfl ?_
      refine AF.aload_n dX2_lengthOf_5 rfl ?_
      refine AF.getfield dX2_lengthOf_6 fl_X2_9 (by assumption) rfl ?_
      refine AF.iload_n dX2_lengthOf_9 rfl ?_
      refine AF.iaload (_) dX2_lengthOf_10 (by assumption) rfl (by omega) (by decide) ?_
      rw [hsc]
      refine AF.icmp_ge 46 dX2_lengthOf_11 (by decide) (fun hb => ?_) (fun hb => ?_)
      · rw [nI_leI (by omega) (by omega)] at hb
        omega
      · refine AF.aload_n dX2_lengthOf_14 rfl ?_
        refine AF.getfield dX2_lengthOf_15 fl_X2_15 (by assumption) rfl ?_
        refine AF.iload_n dX2_lengthOf_18 rfl ?_
        refine AF.bipush (nI 8) dX2_lengthOf_19 (by decide) ?_
        refine AF.imul dX2_lengthOf_21 ?_
        refine AF.iload_n dX2_lengthOf_22 rfl ?_
        refine AF.iadd dX2_lengthOf_23 ?_
        refine AF.iaload (i * 8 + j) dX2_lengthOf_24 (by assumption) (by first | rfl | exact nI_1 _ | (simp only [nI_add, pk_mul, nI_1]; exact congrArg nI (by omega)) | simp only [nI_add, pk_mul, nI_1]) (by omega) (by decide) ?_
        rw [(hrow j (by omega)).1]
        refine AF.istore dX2_lengthOf_25 (by decide) ?_
        refine AF.iload dX2_lengthOf_27 rfl ?_
        refine AF.iload_n dX2_lengthOf_29 rfl ?_
        refine AF.icmp_le 38 dX2_lengthOf_30 (by decide) (fun hc => ?_) (fun hc => ?_)
        · rw [nI_leI (by omega) (by omega)] at hc
          refine AF.iload_n dX2_lengthOf_38 rfl ?_
          refine AF.istore_n dX2_lengthOf_39 (by decide) ?_
          refine AF.inc1 dX2_lengthOf_40 rfl (by decide) ?_
          refine AF.goto 4 dX2_lengthOf_43 (by decide) ?_
          have h9 := ih (j + 1) (some (.int (nI (g3 (fg Fg i) j).1))) (by omega)
          simp only [mxN] at h9
          rw [if_neg (by omega)] at h9
          exact h9
        · rw [nI_leI (by omega) (by omega)] at hc
          refine AF.iload dX2_lengthOf_33 rfl ?_
          refine AF.goto 39 dX2_lengthOf_35 (by decide) ?_
          refine AF.istore_n dX2_lengthOf_39 (by decide) ?_
          refine AF.inc1 dX2_lengthOf_40 rfl (by decide) ?_
          refine AF.goto 4 dX2_lengthOf_43 (by decide) ?_
          have h9 := ih (j + 1) (some (.int (nI (g3 (fg Fg i) j).1))) (by omega)
          simp only [mxN] at h9
          rw [if_pos (by omega)] at h9
          exact h9
  refine AF.iconst (0) dX2_lengthOf_0 (by decide) ?_
  refine AF.istore_n dX2_lengthOf_1 (by decide) ?_
  refine AF.iconst (0) dX2_lengthOf_2 (by decide) ?_
  refine AF.istore_n dX2_lengthOf_3 (by decide) ?_
  exact loop (fg Fg i).length 0 none (by omega)
set_option maxRecDepth 100000 in
theorem X2_uses_ok (hF : FA G F a Fg) {n : Nat} (hI : FI Fg n) (hn : n ≤ 10) (i : Nat) (hi : i < Fg.length) (x : Nat) (hx : x < 10) : AC G mX2_uses 1 0 0 [.ref a, .int (nI i), .int (nI x)] F (AV (some (.int (bI (fus (fg Fg i) x)))) F) := by
  obtain ⟨sc, dl, jt, op, ⟨h0, h1, h2, h3, h4⟩, hr⟩ := hF
  have h5 := hr.1
  obtain ⟨h8, hsc, hrow⟩ := hr.2 i hi
  refine AC.of [some (.ref a), some (.int (nI i)), some (.int (nI x)), none] rfl (by decide) (Nat.le_of_ble_eq_true rfl) rfl ?_
  have loop : ∀ k j, j + k = (fg Fg i).length → (∀ m, m < j → decide ((g3 (fg Fg i) m).2.1 = x) = false) → AF G mX2_uses 1 0 0 (AV (some (.int (bI (fus (fg Fg i) x)))) F) F 2 [some (.ref a), some (.int (nI i)), some (.int (nI x)), some (.int (nI j))] [] := by
    intro k
    induction k with
    | zero =>
      intro j hj hb9
      refine AF.iload_n dX2_uses_2 rfl ?_
      refine AF.aload_n dX2_uses_3 rfl ?_
      refine AF.getfield dX2_uses_4 fl_X2_9 (by assumption) rfl ?_
      refine AF.iload_n dX2_uses_7 rfl ?_
      refine AF.iaload (_) dX2_uses_8 (by assumption) rfl (by omega) (by decide) ?_
      rw [hsc]
      refine AF.icmp_ge 34 dX2_uses_9 (by decide) (fun hb => ?_) (fun hb => ?_)
      · refine AF.iconst (0) dX2_uses_34 (by decide) ?_
        exact AF.zreturn dX2_uses_35 rfl rfl ⟨by rw [fus, fnd_none (fun m hm => hb9 m (by omega))]; rfl, rfl⟩
      · exact absurd (by rw [nI_leI (by omega) (by omega)]; omega) hb
    | succ k ih =>
      intro j hj hb9
      have q1 := (hI i j (by omega)).2.1
      refine AF.iload_n dX2_uses_2 rfl ?_
      refine AF.aload_n dX2_uses_3 rfl ?_
      refine AF.getfield dX2_uses_4 fl_X2_9 (by assumption) rfl ?_
      refine AF.iload_n dX2_uses_7 rfl ?_
      refine AF.iaload (_) dX2_uses_8 (by assumption) rfl (by omega) (by decide) ?_
      rw [hsc]
      refine AF.icmp_ge 34 dX2_uses_9 (by decide) (fun hb => ?_) (fun hb => ?_)
      · rw [nI_leI (by omega) (by omega)] at hb
        omega
      · refine AF.aload_n dX2_uses_12 rfl ?_
        refine AF.getfield dX2_uses_13 fl_X2_18 (by assumption) rfl ?_
        refine AF.iload_n dX2_uses_16 rfl ?_
        refine AF.iload_n dX2_uses_17 rfl ?_
        refine AF.sn1 dX2_uses_18 kn_X2_47 ((X8_slot_ok i j)) rfl rfl (Nat.le_of_ble_eq_true rfl) (by decide) rfl ?_
        refine AF.iaload (_) dX2_uses_21 (by assumption) rfl (by omega) (by decide) ?_
        rw [(hrow j (by omega)).2.1]
        refine AF.iload_n dX2_uses_22 rfl ?_
        refine AF.icmp_ne 28 dX2_uses_23 (by decide) (fun hc => ?_) (fun hc => ?_)
        · rw [nI_eq (by omega) (by omega)] at hc
          refine AF.inc1 dX2_uses_28 rfl (by decide) ?_
          refine AF.goto 2 dX2_uses_31 (by decide) ?_
          refine ih (j + 1) (by omega) (fun m hm => ?_)
          by_cases e : m = j
          · rw [e]; exact decide_eq_false hc
          · exact hb9 m (by omega)
        · rw [nI_eq (by omega) (by omega)] at hc
          refine AF.iconst (1) dX2_uses_26 (by decide) ?_
          exact AF.zreturn dX2_uses_27 rfl rfl ⟨by rw [fus, fnd_some (decide_eq_true hc) (by omega) hb9]; rfl, rfl⟩
  refine AF.iconst (0) dX2_uses_0 (by decide) ?_
  refine AF.istore_n dX2_uses_1 (by decide) ?_
  exact loop (fg Fg i).length 0 (by omega) (fun i hi => by omega)
set_option maxRecDepth 100000 in
theorem X2_countUsing_ok (hF : FA G F a Fg) {n : Nat} (hI : FI Fg n) (hn : n ≤ 10) (x : Nat) (hx : x < 10) : AC G mX2_countUsing 2 0 0 [.ref a, .int (nI x)] F (AV (some (.int (nI (cntB (fun i => fus (fg Fg i) x) Fg.length)))) F) := by
  have hU := fun i hi => X2_uses_ok hF hI hn i hi x hx
  obtain ⟨sc, dl, jt, op, ⟨h0, h1, h2, h3, h4⟩, hr⟩ := hF
  have h5 := hr.1
  refine AC.of [some (.ref a), some (.int (nI x)), none, none] rfl (by decide) (Nat.le_of_ble_eq_true rfl) rfl ?_
  have loop : ∀ k j, j + k = Fg.length → AF G mX2_countUsing 2 0 0 (AV (some (.int (nI (cntB (fun i => fus (fg Fg i) x) Fg.length)))) F) F 4 [some (.ref a), some (.int (nI x)), some (.int (nI (cntB (fun i => fus (fg Fg i) x) j))), some (.int (nI j))] [] := by
    intro k
    induction k with
    | zero =>
      intro j hj
      refine AF.iload_n dX2_countUsing_4 rfl ?_
      refine AF.aload_n dX2_countUsing_5 rfl ?_
      refine AF.getfield dX2_countUsing_6 fl_X2_24 (by assumption) rfl ?_
      refine AF.icmp_ge 30 dX2_countUsing_9 (by decide) (fun hb => ?_) (fun hb => ?_)
      · refine AF.iload_n dX2_countUsing_30 rfl ?_
        exact AF.ireturn dX2_countUsing_31 rfl ⟨by rw [show j = Fg.length by omega], rfl⟩
      · exact absurd (by rw [nI_leI (by omega) (by omega)]; omega) hb
    | succ k ih =>
      intro j hj
      refine AF.iload_n dX2_countUsing_4 rfl ?_
      refine AF.aload_n dX2_countUsing_5 rfl ?_
      refine AF.getfield dX2_countUsing_6 fl_X2_24 (by assumption) rfl ?_
      refine AF.icmp_ge 30 dX2_countUsing_9 (by decide) (fun hb => ?_) (fun hb => ?_)
      · rw [nI_leI (by omega) (by omega)] at hb
        omega
      · refine AF.aload_n dX2_countUsing_12 rfl ?_
        refine AF.iload_n dX2_countUsing_13 rfl ?_
        refine AF.iload_n dX2_countUsing_14 rfl ?_
        refine AF.v1 dX2_countUsing_15 kv_X2_55 ((hU j (by omega))) (by assumption) rfl rfl rfl (Nat.le_of_ble_eq_true rfl) (by decide) rfl ?_
        refine AF.if_eq 24 dX2_countUsing_18 (by decide) (fun hc => ?_) (fun hc => ?_)
        · refine AF.inc1 dX2_countUsing_24 rfl (by decide) ?_
          refine AF.goto 4 dX2_countUsing_27 (by decide) ?_
          have h9 := ih (j + 1) (by omega)
          simp only [cntB] at h9
          rw [if_neg (by rw [bI_z hc]; decide), Nat.add_zero] at h9
          exact h9
        · refine AF.inc1 dX2_countUsing_21 rfl (by decide) ?_
          refine AF.inc1 dX2_countUsing_24 rfl (by decide) ?_
          refine AF.goto 4 dX2_countUsing_27 (by decide) ?_
          have h9 := ih (j + 1) (by omega)
          simp only [cntB] at h9
          rw [if_pos (bI_n hc)] at h9
          exact h9
  refine AF.iconst (0) dX2_countUsing_0 (by decide) ?_
  refine AF.istore_n dX2_countUsing_1 (by decide) ?_
  refine AF.iconst (0) dX2_countUsing_2 (by decide) ?_
  refine AF.istore_n dX2_countUsing_3 (by decide) ?_
  exact loop Fg.length 0 (by omega)
set_option maxRecDepth 100000 in
theorem X2_moveStep_ok {n : Nat} {sc dl jt op : Nat → Int32} (hF : FA0 G F a n sc dl jt op) (ha : gN G ≤ a) (s t : Nat) (hs : s < 40) (ht : t < 40) : AC G mX2_moveStep 0 0 0 [.ref a, .int (nI s), .int (nI t)] F (FW0 G a n sc (upd dl t (dl s)) (upd jt t (jt s)) (upd op t (op s)) none F) := by
  obtain ⟨h0, h1, h2, h3, h4⟩ := hF
  refine AC.of [some (.ref a), some (.int (nI s)), some (.int (nI t))] rfl (by decide) (Nat.le_of_ble_eq_true rfl) rfl ?_
  have hfr : Fr a (a + 5) F F := Fr.rf
  refine AF.aload_n dX2_moveStep_0 rfl ?_
  refine AF.getfield dX2_moveStep_1 fl_X2_15 (by assumption) rfl ?_
  refine AF.iload_n dX2_moveStep_4 rfl ?_
  refine AF.aload_n dX2_moveStep_5 rfl ?_
  refine AF.getfield dX2_moveStep_6 fl_X2_15 (by assumption) rfl ?_
  refine AF.iload_n dX2_moveStep_9 rfl ?_
  refine AF.iaload (_) dX2_moveStep_10 (by assumption) rfl (by omega) (by decide) ?_
  refine AF.iastoreF (_) dX2_moveStep_11 h2 (by omega) rfl (by omega) (by decide) ?_
  intro F e9 h9 o9
  replace h0 := (o9 (a) (by omega)).trans h0
  replace h1 := (o9 (a + 1) (by omega)).trans h1
  replace h3 := (o9 (a + 3) (by omega)).trans h3
  replace h4 := (o9 (a + 4) (by omega)).trans h4
  replace h2 := h9
  replace hfr := hfr.step e9 (by omega) (by omega) o9
  clear e9 h9 o9
  refine AF.aload_n dX2_moveStep_12 rfl ?_
  refine AF.getfield dX2_moveStep_13 fl_X2_18 (by assumption) rfl ?_
  refine AF.iload_n dX2_moveStep_16 rfl ?_
  refine AF.aload_n dX2_moveStep_17 rfl ?_
  refine AF.getfield dX2_moveStep_18 fl_X2_18 (by assumption) rfl ?_
  refine AF.iload_n dX2_moveStep_21 rfl ?_
  refine AF.iaload (_) dX2_moveStep_22 (by assumption) rfl (by omega) (by decide) ?_
  refine AF.iastoreF (_) dX2_moveStep_23 h3 (by omega) rfl (by omega) (by decide) ?_
  intro F e9 h9 o9
  replace h0 := (o9 (a) (by omega)).trans h0
  replace h1 := (o9 (a + 1) (by omega)).trans h1
  replace h2 := (o9 (a + 2) (by omega)).trans h2
  replace h4 := (o9 (a + 4) (by omega)).trans h4
  replace h3 := h9
  replace hfr := hfr.step e9 (by omega) (by omega) o9
  clear e9 h9 o9
  refine AF.aload_n dX2_moveStep_24 rfl ?_
  refine AF.getfield dX2_moveStep_25 fl_X2_21 (by assumption) rfl ?_
  refine AF.iload_n dX2_moveStep_28 rfl ?_
  refine AF.aload_n dX2_moveStep_29 rfl ?_
  refine AF.getfield dX2_moveStep_30 fl_X2_21 (by assumption) rfl ?_
  refine AF.iload_n dX2_moveStep_33 rfl ?_
  refine AF.iaload (_) dX2_moveStep_34 (by assumption) rfl (by omega) (by decide) ?_
  refine AF.iastoreF (_) dX2_moveStep_35 h4 (by omega) rfl (by omega) (by decide) ?_
  intro F e9 h9 o9
  replace h0 := (o9 (a) (by omega)).trans h0
  replace h1 := (o9 (a + 1) (by omega)).trans h1
  replace h2 := (o9 (a + 2) (by omega)).trans h2
  replace h3 := (o9 (a + 3) (by omega)).trans h3
  replace h4 := h9
  replace hfr := hfr.step e9 (by omega) (by omega) o9
  clear e9 h9 o9
  exact AF.vreturn dX2_moveStep_36 rfl ⟨rfl, ⟨h0, h1, h2, h3, h4⟩, hfr⟩
set_option maxRecDepth 100000 in
theorem X2_append_ok (hF : FA G F a Fg) (ha : gN G ≤ a) (hl : Fg.length < 5) : AC G mX2_append 0 0 0 [.ref a] F (FW G a (Fg ++ [[]]) (some (.int (nI Fg.length))) F) := by
  obtain ⟨sc, dl, jt, op, ⟨h0, h1, h2, h3, h4⟩, hr⟩ := hF
  refine AC.of [some (.ref a)] rfl (by decide) (Nat.le_of_ble_eq_true rfl) rfl ?_
  have hfr : Fr a (a + 5) F F := Fr.rf
  have e5 : (Fg ++ [[]]).length = Fg.length + 1 := by simp
  refine AF.aload_n dX2_append_0 rfl ?_
  refine AF.getfield dX2_append_1 fl_X2_9 (by assumption) rfl ?_
  refine AF.aload_n dX2_append_4 rfl ?_
  refine AF.getfield dX2_append_5 fl_X2_24 (by assumption) rfl ?_
  refine AF.iconst (0) dX2_append_8 (by decide) ?_
  refine AF.iastoreF (_) dX2_append_9 h1 (by omega) rfl (by omega) (by decide) ?_
  intro F e9 h9 o9
  replace h0 := (o9 (a) (by omega)).trans h0
  replace h2 := (o9 (a + 2) (by omega)).trans h2
  replace h3 := (o9 (a + 3) (by omega)).trans h3
  replace h4 := (o9 (a + 4) (by omega)).trans h4
  replace h1 := h9
  replace hfr := hfr.step e9 (by omega) (by omega) o9
  clear e9 h9 o9
  refine AF.aload_n dX2_append_10 rfl ?_
  refine AF.dup dX2_append_11 rfl ?_
  refine AF.getfield dX2_append_12 fl_X2_24 (by assumption) rfl ?_
  refine AF.iconst (1) dX2_append_15 (by decide) ?_
  refine AF.iadd dX2_append_16 ?_
  rw [show nI Fg.length + 1 = nI (Fg ++ [[]]).length by rw [nI_1, e5]]
  refine AF.putfieldF dX2_append_17 fp_X2_24 h0 (by omega) (Nat.le_of_ble_eq_true rfl) rfl rfl (Or.inr fq_0_4) ?_
  intro F e9 h9 o9
  replace h1 := (o9 (a + 1) (by omega)).trans h1
  replace h2 := (o9 (a + 2) (by omega)).trans h2
  replace h3 := (o9 (a + 3) (by omega)).trans h3
  replace h4 := (o9 (a + 4) (by omega)).trans h4
  replace h0 := h9
  replace hfr := hfr.step e9 (by omega) (by omega) o9
  clear e9 h9 o9
  refine AF.aload_n dX2_append_20 rfl ?_
  refine AF.getfield dX2_append_21 fl_X2_24 (by assumption) rfl ?_
  refine AF.iconst (1) dX2_append_24 (by decide) ?_
  refine AF.isub dX2_append_25 ?_
  refine AF.ireturn dX2_append_26 rfl ⟨by rw [e5, nI_pred], ⟨_, dl, jt, op, ⟨h0, h1, h2, h3, h4⟩, by omega, fun i hi => ?_⟩, hfr⟩
  rw [e5] at hi
  rw [fg, gd_app]
  by_cases e : i = Fg.length
  · rw [if_pos e, e, upd_s]
    exact ⟨Nat.zero_le _, nI_0.symm, fun k hk => absurd hk (Nat.not_lt_zero _)⟩
  · rw [if_neg e, upd_n e]
    exact hr.2 i (by omega)
end
end
