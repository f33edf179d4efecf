section
-- ===== PART A: goes FIRST, ahead of the names: the tables' words, and 'selects' of the private methods out of them =====
/-- a private method of a class that the tables say can be made, by its rows of tables_1 -/
def lw_okq (q : MethodName × Nat) : Prop := (q.1.cls ≠ "java/lang/invoke/MethodHandle" ∧ q.1.cls ≠ "java/lang/invoke/VarHandle") ∧ Cond.instantiable q.1.cls q.2 ∈ tables_1 ∧ Cond.privateMethod q.1 ∈ tables_1 ∧ Cond.instanceMethod q.1 ∈ tables_1
theorem lw_p0 : lw_okq (⟨"BrookStones", "refusalOfCells", "(IIII)I"⟩, 8) := ⟨⟨by decide +kernel, by decide +kernel⟩, List.mem_of_getElem? (i := 15) (by decide +kernel), List.mem_of_getElem? (i := 260) (by decide +kernel), List.mem_of_getElem? (i := 261) (by decide +kernel)⟩
theorem lw_p1 : lw_okq (⟨"BrookStones$Sheets", "faultOfCells", "(IIII)I"⟩, 3) := ⟨⟨by decide +kernel, by decide +kernel⟩, List.mem_of_getElem? (i := 108) (by decide +kernel), List.mem_of_getElem? (i := 273) (by decide +kernel), List.mem_of_getElem? (i := 274) (by decide +kernel)⟩
theorem lw_p2 : lw_okq (⟨"BrookStones$Sheets", "isThere", "(I)Z"⟩, 3) := ⟨⟨by decide +kernel, by decide +kernel⟩, List.mem_of_getElem? (i := 108) (by decide +kernel), List.mem_of_getElem? (i := 277) (by decide +kernel), List.mem_of_getElem? (i := 278) (by decide +kernel)⟩
theorem lw_p3 : lw_okq (⟨"BrookStones$Sheets", "reaches", "(III)Z"⟩, 3) := ⟨⟨by decide +kernel, by decide +kernel⟩, List.mem_of_getElem? (i := 108) (by decide +kernel), List.mem_of_getElem? (i := 281) (by decide +kernel), List.mem_of_getElem? (i := 282) (by decide +kernel)⟩
theorem lw_p4 : lw_okq (⟨"BrookStones", "failBy", "(I)I"⟩, 8) := ⟨⟨by decide +kernel, by decide +kernel⟩, List.mem_of_getElem? (i := 15) (by decide +kernel), List.mem_of_getElem? (i := 285) (by decide +kernel), List.mem_of_getElem? (i := 286) (by decide +kernel)⟩
theorem lw_p5 : lw_okq (⟨"BrookStones$Sheets", "at", "(II)I"⟩, 3) := ⟨⟨by decide +kernel, by decide +kernel⟩, List.mem_of_getElem? (i := 108) (by decide +kernel), List.mem_of_getElem? (i := 295) (by decide +kernel), List.mem_of_getElem? (i := 296) (by decide +kernel)⟩
theorem lw_p6 : lw_okq (⟨"BrookStones$Brook", "makeAnew", "()V"⟩, 15) := ⟨⟨by decide +kernel, by decide +kernel⟩, List.mem_of_getElem? (i := 23) (by decide +kernel), List.mem_of_getElem? (i := 315) (by decide +kernel), List.mem_of_getElem? (i := 316) (by decide +kernel)⟩
theorem lw_p7 : lw_okq (⟨"BrookStones$Brook", "isCell", "(I)Z"⟩, 15) := ⟨⟨by decide +kernel, by decide +kernel⟩, List.mem_of_getElem? (i := 23) (by decide +kernel), List.mem_of_getElem? (i := 326) (by decide +kernel), List.mem_of_getElem? (i := 327) (by decide +kernel)⟩
theorem lw_p8 : lw_okq (⟨"BrookStones$Brook", "topOf", "(III)I"⟩, 15) := ⟨⟨by decide +kernel, by decide +kernel⟩, List.mem_of_getElem? (i := 23) (by decide +kernel), List.mem_of_getElem? (i := 333) (by decide +kernel), List.mem_of_getElem? (i := 334) (by decide +kernel)⟩
theorem lw_p9 : lw_okq (⟨"BrookStones$Brook", "isThere", "()Z"⟩, 15) := ⟨⟨by decide +kernel, by decide +kernel⟩, List.mem_of_getElem? (i := 23) (by decide +kernel), List.mem_of_getElem? (i := 346) (by decide +kernel), List.mem_of_getElem? (i := 347) (by decide +kernel)⟩
theorem lw_p10 : lw_okq (⟨"BrookStones$Brook", "addStone", "(IIII)I"⟩, 15) := ⟨⟨by decide +kernel, by decide +kernel⟩, List.mem_of_getElem? (i := 23) (by decide +kernel), List.mem_of_getElem? (i := 354) (by decide +kernel), List.mem_of_getElem? (i := 355) (by decide +kernel)⟩
theorem lw_p11 : lw_okq (⟨"BrookStones$Brook", "isStone", "(I)Z"⟩, 15) := ⟨⟨by decide +kernel, by decide +kernel⟩, List.mem_of_getElem? (i := 23) (by decide +kernel), List.mem_of_getElem? (i := 362) (by decide +kernel), List.mem_of_getElem? (i := 363) (by decide +kernel)⟩
theorem lw_p12 : lw_okq (⟨"BrookStones$Brook", "holdOf", "(I)I"⟩, 15) := ⟨⟨by decide +kernel, by decide +kernel⟩, List.mem_of_getElem? (i := 23) (by decide +kernel), List.mem_of_getElem? (i := 366) (by decide +kernel), List.mem_of_getElem? (i := 367) (by decide +kernel)⟩
theorem lw_p13 : lw_okq (⟨"BrookStones$Brook", "cellOf", "(I)I"⟩, 15) := ⟨⟨by decide +kernel, by decide +kernel⟩, List.mem_of_getElem? (i := 23) (by decide +kernel), List.mem_of_getElem? (i := 370) (by decide +kernel), List.mem_of_getElem? (i := 371) (by decide +kernel)⟩
theorem lw_p14 : lw_okq (⟨"BrookStones$Brook", "takeUp", "(I)V"⟩, 15) := ⟨⟨by decide +kernel, by decide +kernel⟩, List.mem_of_getElem? (i := 23) (by decide +kernel), List.mem_of_getElem? (i := 378) (by decide +kernel), List.mem_of_getElem? (i := 379) (by decide +kernel)⟩
theorem lw_p15 : lw_okq (⟨"BrookStones$Brook", "workOf", "(II)I"⟩, 15) := ⟨⟨by decide +kernel, by decide +kernel⟩, List.mem_of_getElem? (i := 23) (by decide +kernel), List.mem_of_getElem? (i := 387) (by decide +kernel), List.mem_of_getElem? (i := 388) (by decide +kernel)⟩
def lw_privs_1 : List (MethodName × Nat) := [(⟨"BrookStones", "refusalOfCells", "(IIII)I"⟩, 8), (⟨"BrookStones$Sheets", "faultOfCells", "(IIII)I"⟩, 3), (⟨"BrookStones$Sheets", "isThere", "(I)Z"⟩, 3), (⟨"BrookStones$Sheets", "reaches", "(III)Z"⟩, 3), (⟨"BrookStones", "failBy", "(I)I"⟩, 8), (⟨"BrookStones$Sheets", "at", "(II)I"⟩, 3), (⟨"BrookStones$Brook", "makeAnew", "()V"⟩, 15), (⟨"BrookStones$Brook", "isCell", "(I)Z"⟩, 15), (⟨"BrookStones$Brook", "topOf", "(III)I"⟩, 15), (⟨"BrookStones$Brook", "isThere", "()Z"⟩, 15), (⟨"BrookStones$Brook", "addStone", "(IIII)I"⟩, 15), (⟨"BrookStones$Brook", "isStone", "(I)Z"⟩, 15), (⟨"BrookStones$Brook", "holdOf", "(I)I"⟩, 15), (⟨"BrookStones$Brook", "cellOf", "(I)I"⟩, 15), (⟨"BrookStones$Brook", "takeUp", "(I)V"⟩, 15), (⟨"BrookStones$Brook", "workOf", "(II)I"⟩, 15)]
theorem lw_r1 : ∀ q ∈ lw_privs_1, lw_okq q := List.forall_mem_cons.mpr ⟨lw_p0, List.forall_mem_cons.mpr ⟨lw_p1, List.forall_mem_cons.mpr ⟨lw_p2, List.forall_mem_cons.mpr ⟨lw_p3, List.forall_mem_cons.mpr ⟨lw_p4, List.forall_mem_cons.mpr ⟨lw_p5, List.forall_mem_cons.mpr ⟨lw_p6, List.forall_mem_cons.mpr ⟨lw_p7, List.forall_mem_cons.mpr ⟨lw_p8, List.forall_mem_cons.mpr ⟨lw_p9, List.forall_mem_cons.mpr ⟨lw_p10, List.forall_mem_cons.mpr ⟨lw_p11, List.forall_mem_cons.mpr ⟨lw_p12, List.forall_mem_cons.mpr ⟨lw_p13, List.forall_mem_cons.mpr ⟨lw_p14, List.forall_mem_cons.mpr ⟨lw_p15, fun _ h => absurd h List.not_mem_nil⟩⟩⟩⟩⟩⟩⟩⟩⟩⟩⟩⟩⟩⟩⟩⟩
theorem lw_p16 : lw_okq (⟨"BrookStones$Brook", "addWalker", "(I)I"⟩, 15) := ⟨⟨by decide +kernel, by decide +kernel⟩, List.mem_of_getElem? (i := 23) (by decide +kernel), List.mem_of_getElem? (i := 395) (by decide +kernel), List.mem_of_getElem? (i := 396) (by decide +kernel)⟩
theorem lw_p17 : lw_okq (⟨"BrookStones$Brook", "isWalker", "(I)Z"⟩, 15) := ⟨⟨by decide +kernel, by decide +kernel⟩, List.mem_of_getElem? (i := 23) (by decide +kernel), List.mem_of_getElem? (i := 403) (by decide +kernel), List.mem_of_getElem? (i := 404) (by decide +kernel)⟩
theorem lw_p18 : lw_okq (⟨"BrookStones$Brook", "filled", "()I"⟩, 15) := ⟨⟨by decide +kernel, by decide +kernel⟩, List.mem_of_getElem? (i := 23) (by decide +kernel), List.mem_of_getElem? (i := 411) (by decide +kernel), List.mem_of_getElem? (i := 412) (by decide +kernel)⟩
theorem lw_p19 : lw_okq (⟨"BrookStones$Brook", "ofKind", "(I)I"⟩, 15) := ⟨⟨by decide +kernel, by decide +kernel⟩, List.mem_of_getElem? (i := 23) (by decide +kernel), List.mem_of_getElem? (i := 415) (by decide +kernel), List.mem_of_getElem? (i := 416) (by decide +kernel)⟩
theorem lw_p20 : lw_okq (⟨"BrookStones$Brook", "reachOf", "(IZ)I"⟩, 15) := ⟨⟨by decide +kernel, by decide +kernel⟩, List.mem_of_getElem? (i := 23) (by decide +kernel), List.mem_of_getElem? (i := 419) (by decide +kernel), List.mem_of_getElem? (i := 420) (by decide +kernel)⟩
theorem lw_p21 : lw_okq (⟨"BrookStones$Brook", "isCrossed", "(III)Z"⟩, 15) := ⟨⟨by decide +kernel, by decide +kernel⟩, List.mem_of_getElem? (i := 23) (by decide +kernel), List.mem_of_getElem? (i := 423) (by decide +kernel), List.mem_of_getElem? (i := 424) (by decide +kernel)⟩
theorem lw_p22 : lw_okq (⟨"BrookStones$Brook", "dry", "(I)I"⟩, 15) := ⟨⟨by decide +kernel, by decide +kernel⟩, List.mem_of_getElem? (i := 23) (by decide +kernel), List.mem_of_getElem? (i := 427) (by decide +kernel), List.mem_of_getElem? (i := 428) (by decide +kernel)⟩
theorem lw_p23 : lw_okq (⟨"BrookStones$Way", "find", "(LBrookStones$Brook;I)I"⟩, 6) := ⟨⟨by decide +kernel, by decide +kernel⟩, List.mem_of_getElem? (i := 127) (by decide +kernel), List.mem_of_getElem? (i := 439) (by decide +kernel), List.mem_of_getElem? (i := 440) (by decide +kernel)⟩
theorem lw_p24 : lw_okq (⟨"BrookStones$Way", "fewestFrom", "(I)I"⟩, 6) := ⟨⟨by decide +kernel, by decide +kernel⟩, List.mem_of_getElem? (i := 127) (by decide +kernel), List.mem_of_getElem? (i := 445) (by decide +kernel), List.mem_of_getElem? (i := 446) (by decide +kernel)⟩
theorem lw_p25 : lw_okq (⟨"BrookStones$Way", "isStride", "(II)Z"⟩, 6) := ⟨⟨by decide +kernel, by decide +kernel⟩, List.mem_of_getElem? (i := 127) (by decide +kernel), List.mem_of_getElem? (i := 449) (by decide +kernel), List.mem_of_getElem? (i := 450) (by decide +kernel)⟩
theorem lw_p26 : lw_okq (⟨"BrookStones$Way", "firstBehind", "(I)I"⟩, 6) := ⟨⟨by decide +kernel, by decide +kernel⟩, List.mem_of_getElem? (i := 127) (by decide +kernel), List.mem_of_getElem? (i := 455) (by decide +kernel), List.mem_of_getElem? (i := 456) (by decide +kernel)⟩
theorem lw_p27 : lw_okq (⟨"BrookStones$Sheets", "areWithin", "(IIII)Z"⟩, 3) := ⟨⟨by decide +kernel, by decide +kernel⟩, List.mem_of_getElem? (i := 108) (by decide +kernel), List.mem_of_getElem? (i := 474) (by decide +kernel), List.mem_of_getElem? (i := 475) (by decide +kernel)⟩
theorem lw_p28 : lw_okq (⟨"BrookStones$Flood", "run", "(LBrookStones$Brook;[IIII)V"⟩, 3) := ⟨⟨by decide +kernel, by decide +kernel⟩, List.mem_of_getElem? (i := 153) (by decide +kernel), List.mem_of_getElem? (i := 487) (by decide +kernel), List.mem_of_getElem? (i := 488) (by decide +kernel)⟩
theorem lw_p29 : lw_okq (⟨"BrookStones$Flood", "goRound", "(LBrookStones$Brook;[IIII)Z"⟩, 3) := ⟨⟨by decide +kernel, by decide +kernel⟩, List.mem_of_getElem? (i := 153) (by decide +kernel), List.mem_of_getElem? (i := 491) (by decide +kernel), List.mem_of_getElem? (i := 492) (by decide +kernel)⟩
theorem lw_p30 : lw_okq (⟨"BrookStones$Brook", "loseStonesOf", "(I)V"⟩, 15) := ⟨⟨by decide +kernel, by decide +kernel⟩, List.mem_of_getElem? (i := 23) (by decide +kernel), List.mem_of_getElem? (i := 512) (by decide +kernel), List.mem_of_getElem? (i := 513) (by decide +kernel)⟩
theorem lw_p31 : lw_okq (⟨"BrookStones$Planner", "find", "(LBrookStones$Brook;III)V"⟩, 11) := ⟨⟨by decide +kernel, by decide +kernel⟩, List.mem_of_getElem? (i := 173) (by decide +kernel), List.mem_of_getElem? (i := 531) (by decide +kernel), List.mem_of_getElem? (i := 532) (by decide +kernel)⟩
def lw_privs_2 : List (MethodName × Nat) := [(⟨"BrookStones$Brook", "addWalker", "(I)I"⟩, 15), (⟨"BrookStones$Brook", "isWalker", "(I)Z"⟩, 15), (⟨"BrookStones$Brook", "filled", "()I"⟩, 15), (⟨"BrookStones$Brook", "ofKind", "(I)I"⟩, 15), (⟨"BrookStones$Brook", "reachOf", "(IZ)I"⟩, 15), (⟨"BrookStones$Brook", "isCrossed", "(III)Z"⟩, 15), (⟨"BrookStones$Brook", "dry", "(I)I"⟩, 15), (⟨"BrookStones$Way", "find", "(LBrookStones$Brook;I)I"⟩, 6), (⟨"BrookStones$Way", "fewestFrom", "(I)I"⟩, 6), (⟨"BrookStones$Way", "isStride", "(II)Z"⟩, 6), (⟨"BrookStones$Way", "firstBehind", "(I)I"⟩, 6), (⟨"BrookStones$Sheets", "areWithin", "(IIII)Z"⟩, 3), (⟨"BrookStones$Flood", "run", "(LBrookStones$Brook;[IIII)V"⟩, 3), (⟨"BrookStones$Flood", "goRound", "(LBrookStones$Brook;[IIII)Z"⟩, 3), (⟨"BrookStones$Brook", "loseStonesOf", "(I)V"⟩, 15), (⟨"BrookStones$Planner", "find", "(LBrookStones$Brook;III)V"⟩, 11)]
theorem lw_r2 : ∀ q ∈ lw_privs_2, lw_okq q := List.forall_mem_cons.mpr ⟨lw_p16, List.forall_mem_cons.mpr ⟨lw_p17, List.forall_mem_cons.mpr ⟨lw_p18, List.forall_mem_cons.mpr ⟨lw_p19, List.forall_mem_cons.mpr ⟨lw_p20, List.forall_mem_cons.mpr ⟨lw_p21, List.forall_mem_cons.mpr ⟨lw_p22, List.forall_mem_cons.mpr ⟨lw_p23, List.forall_mem_cons.mpr ⟨lw_p24, List.forall_mem_cons.mpr ⟨lw_p25, List.forall_mem_cons.mpr ⟨lw_p26, List.forall_mem_cons.mpr ⟨lw_p27, List.forall_mem_cons.mpr ⟨lw_p28, List.forall_mem_cons.mpr ⟨lw_p29, List.forall_mem_cons.mpr ⟨lw_p30, List.forall_mem_cons.mpr ⟨lw_p31, fun _ h => absurd h List.not_mem_nil⟩⟩⟩⟩⟩⟩⟩⟩⟩⟩⟩⟩⟩⟩⟩⟩
theorem lw_p32 : lw_okq (⟨"BrookStones$Planner", "lookAt", "(LBrookStones$Brook;I)V"⟩, 11) := ⟨⟨by decide +kernel, by decide +kernel⟩, List.mem_of_getElem? (i := 173) (by decide +kernel), List.mem_of_getElem? (i := 537) (by decide +kernel), List.mem_of_getElem? (i := 538) (by decide +kernel)⟩
theorem lw_p33 : lw_okq (⟨"BrookStones$Planner", "lookAhead", "(LBrookStones$Brook;)V"⟩, 11) := ⟨⟨by decide +kernel, by decide +kernel⟩, List.mem_of_getElem? (i := 173) (by decide +kernel), List.mem_of_getElem? (i := 544) (by decide +kernel), List.mem_of_getElem? (i := 545) (by decide +kernel)⟩
theorem lw_p34 : lw_okq (⟨"BrookStones$Brook", "easeOf", "(I)I"⟩, 15) := ⟨⟨by decide +kernel, by decide +kernel⟩, List.mem_of_getElem? (i := 23) (by decide +kernel), List.mem_of_getElem? (i := 548) (by decide +kernel), List.mem_of_getElem? (i := 549) (by decide +kernel)⟩
theorem lw_p35 : lw_okq (⟨"BrookStones$Planner", "isWorse", "(LBrookStones$Brook;II)Z"⟩, 11) := ⟨⟨by decide +kernel, by decide +kernel⟩, List.mem_of_getElem? (i := 173) (by decide +kernel), List.mem_of_getElem? (i := 557) (by decide +kernel), List.mem_of_getElem? (i := 558) (by decide +kernel)⟩
theorem lw_p36 : lw_okq (⟨"BrookStones$Planner", "take", "(LBrookStones$Brook;II)V"⟩, 11) := ⟨⟨by decide +kernel, by decide +kernel⟩, List.mem_of_getElem? (i := 173) (by decide +kernel), List.mem_of_getElem? (i := 565) (by decide +kernel), List.mem_of_getElem? (i := 566) (by decide +kernel)⟩
theorem lw_p37 : lw_okq (⟨"BrookStones$Planner", "isCrossedBehind", "(LBrookStones$Brook;)Z"⟩, 11) := ⟨⟨by decide +kernel, by decide +kernel⟩, List.mem_of_getElem? (i := 173) (by decide +kernel), List.mem_of_getElem? (i := 570) (by decide +kernel), List.mem_of_getElem? (i := 571) (by decide +kernel)⟩
theorem lw_p38 : lw_okq (⟨"BrookStones$Planner", "isNear", "(IIIII)Z"⟩, 11) := ⟨⟨by decide +kernel, by decide +kernel⟩, List.mem_of_getElem? (i := 173) (by decide +kernel), List.mem_of_getElem? (i := 578) (by decide +kernel), List.mem_of_getElem? (i := 579) (by decide +kernel)⟩
theorem lw_p39 : lw_okq (⟨"BrookStones$Planner", "isFound", "()Z"⟩, 11) := ⟨⟨by decide +kernel, by decide +kernel⟩, List.mem_of_getElem? (i := 173) (by decide +kernel), List.mem_of_getElem? (i := 583) (by decide +kernel), List.mem_of_getElem? (i := 584) (by decide +kernel)⟩
theorem lw_p40 : lw_okq (⟨"BrookStones$Layings", "count", "(LBrookStones$Brook;I)I"⟩, 2) := ⟨⟨by decide +kernel, by decide +kernel⟩, List.mem_of_getElem? (i := 218) (by decide +kernel), List.mem_of_getElem? (i := 591) (by decide +kernel), List.mem_of_getElem? (i := 592) (by decide +kernel)⟩
theorem lw_p41 : lw_okq (⟨"BrookStones$Layings", "waysFrom", "(LBrookStones$Brook;II)I"⟩, 2) := ⟨⟨by decide +kernel, by decide +kernel⟩, List.mem_of_getElem? (i := 218) (by decide +kernel), List.mem_of_getElem? (i := 596) (by decide +kernel), List.mem_of_getElem? (i := 597) (by decide +kernel)⟩
theorem lw_p42 : lw_okq (⟨"BrookStones$Layings", "layable", "(LBrookStones$Brook;II)I"⟩, 2) := ⟨⟨by decide +kernel, by decide +kernel⟩, List.mem_of_getElem? (i := 218) (by decide +kernel), List.mem_of_getElem? (i := 600) (by decide +kernel), List.mem_of_getElem? (i := 601) (by decide +kernel)⟩
theorem lw_p43 : lw_okq (⟨"BrookStones$Layings", "cellOfFirst", "(LBrookStones$Brook;II)I"⟩, 2) := ⟨⟨by decide +kernel, by decide +kernel⟩, List.mem_of_getElem? (i := 218) (by decide +kernel), List.mem_of_getElem? (i := 612) (by decide +kernel), List.mem_of_getElem? (i := 613) (by decide +kernel)⟩
theorem lw_p44 : lw_okq (⟨"BrookStones$Layings", "firstThatGoesOn", "(LBrookStones$Brook;II)I"⟩, 2) := ⟨⟨by decide +kernel, by decide +kernel⟩, List.mem_of_getElem? (i := 218) (by decide +kernel), List.mem_of_getElem? (i := 618) (by decide +kernel), List.mem_of_getElem? (i := 619) (by decide +kernel)⟩
theorem lw_p45 : lw_okq (⟨"BrookStones$Sheets", "sum", "(III)I"⟩, 3) := ⟨⟨by decide +kernel, by decide +kernel⟩, List.mem_of_getElem? (i := 108) (by decide +kernel), List.mem_of_getElem? (i := 631) (by decide +kernel), List.mem_of_getElem? (i := 632) (by decide +kernel)⟩
theorem lw_p46 : lw_okq (⟨"BrookStones", "weightAcross", "(IIII)I"⟩, 8) := ⟨⟨by decide +kernel, by decide +kernel⟩, List.mem_of_getElem? (i := 15) (by decide +kernel), List.mem_of_getElem? (i := 635) (by decide +kernel), List.mem_of_getElem? (i := 636) (by decide +kernel)⟩
theorem lw_p47 : lw_okq (⟨"BrookStones$Sheets", "renew", "(III)V"⟩, 3) := ⟨⟨by decide +kernel, by decide +kernel⟩, List.mem_of_getElem? (i := 108) (by decide +kernel), List.mem_of_getElem? (i := 646) (by decide +kernel), List.mem_of_getElem? (i := 647) (by decide +kernel)⟩
def lw_privs_3 : List (MethodName × Nat) := [(⟨"BrookStones$Planner", "lookAt", "(LBrookStones$Brook;I)V"⟩, 11), (⟨"BrookStones$Planner", "lookAhead", "(LBrookStones$Brook;)V"⟩, 11), (⟨"BrookStones$Brook", "easeOf", "(I)I"⟩, 15), (⟨"BrookStones$Planner", "isWorse", "(LBrookStones$Brook;II)Z"⟩, 11), (⟨"BrookStones$Planner", "take", "(LBrookStones$Brook;II)V"⟩, 11), (⟨"BrookStones$Planner", "isCrossedBehind", "(LBrookStones$Brook;)Z"⟩, 11), (⟨"BrookStones$Planner", "isNear", "(IIIII)Z"⟩, 11), (⟨"BrookStones$Planner", "isFound", "()Z"⟩, 11), (⟨"BrookStones$Layings", "count", "(LBrookStones$Brook;I)I"⟩, 2), (⟨"BrookStones$Layings", "waysFrom", "(LBrookStones$Brook;II)I"⟩, 2), (⟨"BrookStones$Layings", "layable", "(LBrookStones$Brook;II)I"⟩, 2), (⟨"BrookStones$Layings", "cellOfFirst", "(LBrookStones$Brook;II)I"⟩, 2), (⟨"BrookStones$Layings", "firstThatGoesOn", "(LBrookStones$Brook;II)I"⟩, 2), (⟨"BrookStones$Sheets", "sum", "(III)I"⟩, 3), (⟨"BrookStones", "weightAcross", "(IIII)I"⟩, 8), (⟨"BrookStones$Sheets", "renew", "(III)V"⟩, 3)]
theorem lw_r3 : ∀ q ∈ lw_privs_3, lw_okq q := List.forall_mem_cons.mpr ⟨lw_p32, List.forall_mem_cons.mpr ⟨lw_p33, List.forall_mem_cons.mpr ⟨lw_p34, List.forall_mem_cons.mpr ⟨lw_p35, List.forall_mem_cons.mpr ⟨lw_p36, List.forall_mem_cons.mpr ⟨lw_p37, List.forall_mem_cons.mpr ⟨lw_p38, List.forall_mem_cons.mpr ⟨lw_p39, List.forall_mem_cons.mpr ⟨lw_p40, List.forall_mem_cons.mpr ⟨lw_p41, List.forall_mem_cons.mpr ⟨lw_p42, List.forall_mem_cons.mpr ⟨lw_p43, List.forall_mem_cons.mpr ⟨lw_p44, List.forall_mem_cons.mpr ⟨lw_p45, List.forall_mem_cons.mpr ⟨lw_p46, List.forall_mem_cons.mpr ⟨lw_p47, fun _ h => absurd h List.not_mem_nil⟩⟩⟩⟩⟩⟩⟩⟩⟩⟩⟩⟩⟩⟩⟩⟩
theorem lw_p48 : lw_okq (⟨"BrookStones$Sheets", "clear", "(I)V"⟩, 3) := ⟨⟨by decide +kernel, by decide +kernel⟩, List.mem_of_getElem? (i := 108) (by decide +kernel), List.mem_of_getElem? (i := 661) (by decide +kernel), List.mem_of_getElem? (i := 662) (by decide +kernel)⟩
theorem lw_p49 : lw_okq (⟨"BrookStones$Sheets", "write", "(III)V"⟩, 3) := ⟨⟨by decide +kernel, by decide +kernel⟩, List.mem_of_getElem? (i := 108) (by decide +kernel), List.mem_of_getElem? (i := 669) (by decide +kernel), List.mem_of_getElem? (i := 670) (by decide +kernel)⟩
theorem lw_p50 : lw_okq (⟨"BrookStones$Sheets", "move", "(IIIII)V"⟩, 3) := ⟨⟨by decide +kernel, by decide +kernel⟩, List.mem_of_getElem? (i := 108) (by decide +kernel), List.mem_of_getElem? (i := 685) (by decide +kernel), List.mem_of_getElem? (i := 686) (by decide +kernel)⟩
theorem lw_p51 : lw_okq (⟨"BrookStones", "tellAsTable", "(I)I"⟩, 8) := ⟨⟨by decide +kernel, by decide +kernel⟩, List.mem_of_getElem? (i := 15) (by decide +kernel), List.mem_of_getElem? (i := 694) (by decide +kernel), List.mem_of_getElem? (i := 695) (by decide +kernel)⟩
theorem lw_p52 : lw_okq (⟨"BrookStones", "leave", "(I)V"⟩, 8) := ⟨⟨by decide +kernel, by decide +kernel⟩, List.mem_of_getElem? (i := 15) (by decide +kernel), List.mem_of_getElem? (i := 698) (by decide +kernel), List.mem_of_getElem? (i := 699) (by decide +kernel)⟩
theorem lw_p53 : lw_okq (⟨"BrookStones", "tellAsFlat", "(I)I"⟩, 8) := ⟨⟨by decide +kernel, by decide +kernel⟩, List.mem_of_getElem? (i := 15) (by decide +kernel), List.mem_of_getElem? (i := 702) (by decide +kernel), List.mem_of_getElem? (i := 703) (by decide +kernel)⟩
theorem lw_p54 : lw_okq (⟨"BrookStones", "tellAsStone", "(I)I"⟩, 8) := ⟨⟨by decide +kernel, by decide +kernel⟩, List.mem_of_getElem? (i := 15) (by decide +kernel), List.mem_of_getElem? (i := 706) (by decide +kernel), List.mem_of_getElem? (i := 707) (by decide +kernel)⟩
theorem lw_p55 : lw_okq (⟨"BrookStonesModel", "against", "(IIII)I"⟩, 37) := ⟨⟨by decide +kernel, by decide +kernel⟩, List.mem_of_getElem? (i := 730) (by decide +kernel), List.mem_of_getElem? (i := 862) (by decide +kernel), List.mem_of_getElem? (i := 863) (by decide +kernel)⟩
theorem lw_p56 : lw_okq (⟨"BrookStonesModel", "fails", "(I)I"⟩, 37) := ⟨⟨by decide +kernel, by decide +kernel⟩, List.mem_of_getElem? (i := 730) (by decide +kernel), List.mem_of_getElem? (i := 866) (by decide +kernel), List.mem_of_getElem? (i := 867) (by decide +kernel)⟩
theorem lw_p57 : lw_okq (⟨"BrookStonesModel", "readBrook", "(I)Z"⟩, 37) := ⟨⟨by decide +kernel, by decide +kernel⟩, List.mem_of_getElem? (i := 730) (by decide +kernel), List.mem_of_getElem? (i := 870) (by decide +kernel), List.mem_of_getElem? (i := 871) (by decide +kernel)⟩
theorem lw_p58 : lw_okq (⟨"BrookStonesModel", "isCode", "(II)Z"⟩, 37) := ⟨⟨by decide +kernel, by decide +kernel⟩, List.mem_of_getElem? (i := 730) (by decide +kernel), List.mem_of_getElem? (i := 874) (by decide +kernel), List.mem_of_getElem? (i := 875) (by decide +kernel)⟩
theorem lw_p59 : lw_okq (⟨"BrookStonesModel", "isDigit", "(I)Z"⟩, 37) := ⟨⟨by decide +kernel, by decide +kernel⟩, List.mem_of_getElem? (i := 730) (by decide +kernel), List.mem_of_getElem? (i := 878) (by decide +kernel), List.mem_of_getElem? (i := 879) (by decide +kernel)⟩
theorem lw_p60 : lw_okq (⟨"BrookStonesModel", "isCell", "(I)Z"⟩, 37) := ⟨⟨by decide +kernel, by decide +kernel⟩, List.mem_of_getElem? (i := 730) (by decide +kernel), List.mem_of_getElem? (i := 886) (by decide +kernel), List.mem_of_getElem? (i := 887) (by decide +kernel)⟩
theorem lw_p61 : lw_okq (⟨"BrookStonesModel", "topOf", "(II)I"⟩, 37) := ⟨⟨by decide +kernel, by decide +kernel⟩, List.mem_of_getElem? (i := 730) (by decide +kernel), List.mem_of_getElem? (i := 890) (by decide +kernel), List.mem_of_getElem? (i := 891) (by decide +kernel)⟩
theorem lw_p62 : lw_okq (⟨"BrookStonesModel", "isStone", "(I)Z"⟩, 37) := ⟨⟨by decide +kernel, by decide +kernel⟩, List.mem_of_getElem? (i := 730) (by decide +kernel), List.mem_of_getElem? (i := 910) (by decide +kernel), List.mem_of_getElem? (i := 911) (by decide +kernel)⟩
theorem lw_p63 : lw_okq (⟨"BrookStonesModel", "holdOf", "(I)I"⟩, 37) := ⟨⟨by decide +kernel, by decide +kernel⟩, List.mem_of_getElem? (i := 730) (by decide +kernel), List.mem_of_getElem? (i := 914) (by decide +kernel), List.mem_of_getElem? (i := 915) (by decide +kernel)⟩
def lw_privs_4 : List (MethodName × Nat) := [(⟨"BrookStones$Sheets", "clear", "(I)V"⟩, 3), (⟨"BrookStones$Sheets", "write", "(III)V"⟩, 3), (⟨"BrookStones$Sheets", "move", "(IIIII)V"⟩, 3), (⟨"BrookStones", "tellAsTable", "(I)I"⟩, 8), (⟨"BrookStones", "leave", "(I)V"⟩, 8), (⟨"BrookStones", "tellAsFlat", "(I)I"⟩, 8), (⟨"BrookStones", "tellAsStone", "(I)I"⟩, 8), (⟨"BrookStonesModel", "against", "(IIII)I"⟩, 37), (⟨"BrookStonesModel", "fails", "(I)I"⟩, 37), (⟨"BrookStonesModel", "readBrook", "(I)Z"⟩, 37), (⟨"BrookStonesModel", "isCode", "(II)Z"⟩, 37), (⟨"BrookStonesModel", "isDigit", "(I)Z"⟩, 37), (⟨"BrookStonesModel", "isCell", "(I)Z"⟩, 37), (⟨"BrookStonesModel", "topOf", "(II)I"⟩, 37), (⟨"BrookStonesModel", "isStone", "(I)Z"⟩, 37), (⟨"BrookStonesModel", "holdOf", "(I)I"⟩, 37)]
theorem lw_r4 : ∀ q ∈ lw_privs_4, lw_okq q := List.forall_mem_cons.mpr ⟨lw_p48, List.forall_mem_cons.mpr ⟨lw_p49, List.forall_mem_cons.mpr ⟨lw_p50, List.forall_mem_cons.mpr ⟨lw_p51, List.forall_mem_cons.mpr ⟨lw_p52, List.forall_mem_cons.mpr ⟨lw_p53, List.forall_mem_cons.mpr ⟨lw_p54, List.forall_mem_cons.mpr ⟨lw_p55, List.forall_mem_cons.mpr ⟨lw_p56, List.forall_mem_cons.mpr ⟨lw_p57, List.forall_mem_cons.mpr ⟨lw_p58, List.forall_mem_cons.mpr ⟨lw_p59, List.forall_mem_cons.mpr ⟨lw_p60, List.forall_mem_cons.mpr ⟨lw_p61, List.forall_mem_cons.mpr ⟨lw_p62, List.forall_mem_cons.mpr ⟨lw_p63, fun _ h => absurd h List.not_mem_nil⟩⟩⟩⟩⟩⟩⟩⟩⟩⟩⟩⟩⟩⟩⟩⟩
theorem lw_p64 : lw_okq (⟨"BrookStonesModel", "workOf", "(II)I"⟩, 37) := ⟨⟨by decide +kernel, by decide +kernel⟩, List.mem_of_getElem? (i := 730) (by decide +kernel), List.mem_of_getElem? (i := 926) (by decide +kernel), List.mem_of_getElem? (i := 927) (by decide +kernel)⟩
theorem lw_p65 : lw_okq (⟨"BrookStonesModel", "isWalker", "(I)Z"⟩, 37) := ⟨⟨by decide +kernel, by decide +kernel⟩, List.mem_of_getElem? (i := 730) (by decide +kernel), List.mem_of_getElem? (i := 938) (by decide +kernel), List.mem_of_getElem? (i := 939) (by decide +kernel)⟩
theorem lw_p66 : lw_okq (⟨"BrookStonesModel", "layNow", "()V"⟩, 37) := ⟨⟨by decide +kernel, by decide +kernel⟩, List.mem_of_getElem? (i := 730) (by decide +kernel), List.mem_of_getElem? (i := 946) (by decide +kernel), List.mem_of_getElem? (i := 947) (by decide +kernel)⟩
theorem lw_p67 : lw_okq (⟨"BrookStonesModel", "strideOf", "(IZ)I"⟩, 37) := ⟨⟨by decide +kernel, by decide +kernel⟩, List.mem_of_getElem? (i := 730) (by decide +kernel), List.mem_of_getElem? (i := 950) (by decide +kernel), List.mem_of_getElem? (i := 951) (by decide +kernel)⟩
theorem lw_p68 : lw_okq (⟨"BrookStonesModel", "comes", "(I)Z"⟩, 37) := ⟨⟨by decide +kernel, by decide +kernel⟩, List.mem_of_getElem? (i := 730) (by decide +kernel), List.mem_of_getElem? (i := 954) (by decide +kernel), List.mem_of_getElem? (i := 955) (by decide +kernel)⟩
theorem lw_p69 : lw_okq (⟨"BrookStonesModel", "layFar", "(II)V"⟩, 37) := ⟨⟨by decide +kernel, by decide +kernel⟩, List.mem_of_getElem? (i := 730) (by decide +kernel), List.mem_of_getElem? (i := 958) (by decide +kernel), List.mem_of_getElem? (i := 959) (by decide +kernel)⟩
theorem lw_p70 : lw_okq (⟨"BrookStonesModel", "isStand", "(I)Z"⟩, 37) := ⟨⟨by decide +kernel, by decide +kernel⟩, List.mem_of_getElem? (i := 730) (by decide +kernel), List.mem_of_getElem? (i := 963) (by decide +kernel), List.mem_of_getElem? (i := 964) (by decide +kernel)⟩
theorem lw_p71 : lw_okq (⟨"BrookStonesModel", "isBank", "(I)Z"⟩, 37) := ⟨⟨by decide +kernel, by decide +kernel⟩, List.mem_of_getElem? (i := 730) (by decide +kernel), List.mem_of_getElem? (i := 967) (by decide +kernel), List.mem_of_getElem? (i := 968) (by decide +kernel)⟩
theorem lw_p72 : lw_okq (⟨"BrookStonesModel", "isStride", "(III)Z"⟩, 37) := ⟨⟨by decide +kernel, by decide +kernel⟩, List.mem_of_getElem? (i := 730) (by decide +kernel), List.mem_of_getElem? (i := 971) (by decide +kernel), List.mem_of_getElem? (i := 972) (by decide +kernel)⟩
theorem lw_p73 : lw_okq (⟨"BrookStonesModel", "easeAt", "(I)I"⟩, 37) := ⟨⟨by decide +kernel, by decide +kernel⟩, List.mem_of_getElem? (i := 730) (by decide +kernel), List.mem_of_getElem? (i := 975) (by decide +kernel), List.mem_of_getElem? (i := 976) (by decide +kernel)⟩
theorem lw_p74 : lw_okq (⟨"BrookStonesModel", "fromBoth", "(I)I"⟩, 37) := ⟨⟨by decide +kernel, by decide +kernel⟩, List.mem_of_getElem? (i := 730) (by decide +kernel), List.mem_of_getElem? (i := 991) (by decide +kernel), List.mem_of_getElem? (i := 992) (by decide +kernel)⟩
theorem lw_p75 : lw_okq (⟨"BrookStonesModel", "goFlood", "(II)V"⟩, 37) := ⟨⟨by decide +kernel, by decide +kernel⟩, List.mem_of_getElem? (i := 730) (by decide +kernel), List.mem_of_getElem? (i := 1009) (by decide +kernel), List.mem_of_getElem? (i := 1010) (by decide +kernel)⟩
theorem lw_p76 : lw_okq (⟨"BrookStonesModel", "powerAt", "(II)I"⟩, 37) := ⟨⟨by decide +kernel, by decide +kernel⟩, List.mem_of_getElem? (i := 730) (by decide +kernel), List.mem_of_getElem? (i := 1013) (by decide +kernel), List.mem_of_getElem? (i := 1014) (by decide +kernel)⟩
theorem lw_p77 : lw_okq (⟨"BrookStonesModel", "standing", "()I"⟩, 37) := ⟨⟨by decide +kernel, by decide +kernel⟩, List.mem_of_getElem? (i := 730) (by decide +kernel), List.mem_of_getElem? (i := 1017) (by decide +kernel), List.mem_of_getElem? (i := 1018) (by decide +kernel)⟩
theorem lw_p78 : lw_okq (⟨"BrookStonesModel", "findPlan", "(III)V"⟩, 37) := ⟨⟨by decide +kernel, by decide +kernel⟩, List.mem_of_getElem? (i := 730) (by decide +kernel), List.mem_of_getElem? (i := 1044) (by decide +kernel), List.mem_of_getElem? (i := 1045) (by decide +kernel)⟩
theorem lw_p79 : lw_okq (⟨"BrookStonesModel", "isFree", "(II)Z"⟩, 37) := ⟨⟨by decide +kernel, by decide +kernel⟩, List.mem_of_getElem? (i := 730) (by decide +kernel), List.mem_of_getElem? (i := 1048) (by decide +kernel), List.mem_of_getElem? (i := 1049) (by decide +kernel)⟩
def lw_privs_5 : List (MethodName × Nat) := [(⟨"BrookStonesModel", "workOf", "(II)I"⟩, 37), (⟨"BrookStonesModel", "isWalker", "(I)Z"⟩, 37), (⟨"BrookStonesModel", "layNow", "()V"⟩, 37), (⟨"BrookStonesModel", "strideOf", "(IZ)I"⟩, 37), (⟨"BrookStonesModel", "comes", "(I)Z"⟩, 37), (⟨"BrookStonesModel", "layFar", "(II)V"⟩, 37), (⟨"BrookStonesModel", "isStand", "(I)Z"⟩, 37), (⟨"BrookStonesModel", "isBank", "(I)Z"⟩, 37), (⟨"BrookStonesModel", "isStride", "(III)Z"⟩, 37), (⟨"BrookStonesModel", "easeAt", "(I)I"⟩, 37), (⟨"BrookStonesModel", "fromBoth", "(I)I"⟩, 37), (⟨"BrookStonesModel", "goFlood", "(II)V"⟩, 37), (⟨"BrookStonesModel", "powerAt", "(II)I"⟩, 37), (⟨"BrookStonesModel", "standing", "()I"⟩, 37), (⟨"BrookStonesModel", "findPlan", "(III)V"⟩, 37), (⟨"BrookStonesModel", "isFree", "(II)Z"⟩, 37)]
theorem lw_r5 : ∀ q ∈ lw_privs_5, lw_okq q := List.forall_mem_cons.mpr ⟨lw_p64, List.forall_mem_cons.mpr ⟨lw_p65, List.forall_mem_cons.mpr ⟨lw_p66, List.forall_mem_cons.mpr ⟨lw_p67, List.forall_mem_cons.mpr ⟨lw_p68, List.forall_mem_cons.mpr ⟨lw_p69, List.forall_mem_cons.mpr ⟨lw_p70, List.forall_mem_cons.mpr ⟨lw_p71, List.forall_mem_cons.mpr ⟨lw_p72, List.forall_mem_cons.mpr ⟨lw_p73, List.forall_mem_cons.mpr ⟨lw_p74, List.forall_mem_cons.mpr ⟨lw_p75, List.forall_mem_cons.mpr ⟨lw_p76, List.forall_mem_cons.mpr ⟨lw_p77, List.forall_mem_cons.mpr ⟨lw_p78, List.forall_mem_cons.mpr ⟨lw_p79, fun _ h => absurd h List.not_mem_nil⟩⟩⟩⟩⟩⟩⟩⟩⟩⟩⟩⟩⟩⟩⟩⟩
theorem lw_p80 : lw_okq (⟨"BrookStonesModel", "workAhead", "(I)I"⟩, 37) := ⟨⟨by decide +kernel, by decide +kernel⟩, List.mem_of_getElem? (i := 730) (by decide +kernel), List.mem_of_getElem? (i := 1052) (by decide +kernel), List.mem_of_getElem? (i := 1053) (by decide +kernel)⟩
theorem lw_p81 : lw_okq (⟨"BrookStonesModel", "offer", "(III)V"⟩, 37) := ⟨⟨by decide +kernel, by decide +kernel⟩, List.mem_of_getElem? (i := 730) (by decide +kernel), List.mem_of_getElem? (i := 1056) (by decide +kernel), List.mem_of_getElem? (i := 1057) (by decide +kernel)⟩
theorem lw_p82 : lw_okq (⟨"BrookStonesModel", "isPlan", "(III)Z"⟩, 37) := ⟨⟨by decide +kernel, by decide +kernel⟩, List.mem_of_getElem? (i := 730) (by decide +kernel), List.mem_of_getElem? (i := 1060) (by decide +kernel), List.mem_of_getElem? (i := 1061) (by decide +kernel)⟩
theorem lw_p83 : lw_okq (⟨"BrookStonesModel", "layWays", "(I)V"⟩, 37) := ⟨⟨by decide +kernel, by decide +kernel⟩, List.mem_of_getElem? (i := 730) (by decide +kernel), List.mem_of_getElem? (i := 1068) (by decide +kernel), List.mem_of_getElem? (i := 1069) (by decide +kernel)⟩
theorem lw_p84 : lw_okq (⟨"BrookStonesModel", "isLaid", "(III)Z"⟩, 37) := ⟨⟨by decide +kernel, by decide +kernel⟩, List.mem_of_getElem? (i := 730) (by decide +kernel), List.mem_of_getElem? (i := 1072) (by decide +kernel), List.mem_of_getElem? (i := 1073) (by decide +kernel)⟩
theorem lw_p85 : lw_okq (⟨"BrookStonesModel", "lost", "(I)J"⟩, 37) := ⟨⟨by decide +kernel, by decide +kernel⟩, List.mem_of_getElem? (i := 730) (by decide +kernel), List.mem_of_getElem? (i := 1089) (by decide +kernel), List.mem_of_getElem? (i := 1090) (by decide +kernel)⟩
theorem lw_p86 : lw_okq (⟨"BrookStonesModel", "begins", "(I)V"⟩, 37) := ⟨⟨by decide +kernel, by decide +kernel⟩, List.mem_of_getElem? (i := 730) (by decide +kernel), List.mem_of_getElem? (i := 1120) (by decide +kernel), List.mem_of_getElem? (i := 1121) (by decide +kernel)⟩
theorem lw_p87 : lw_okq (⟨"BrookStonesModel", "stonesIn", "(Z)I"⟩, 37) := ⟨⟨by decide +kernel, by decide +kernel⟩, List.mem_of_getElem? (i := 730) (by decide +kernel), List.mem_of_getElem? (i := 1144) (by decide +kernel), List.mem_of_getElem? (i := 1145) (by decide +kernel)⟩
theorem lw_p88 : lw_okq (⟨"BrookStonesModel", "guards", "()I"⟩, 37) := ⟨⟨by decide +kernel, by decide +kernel⟩, List.mem_of_getElem? (i := 730) (by decide +kernel), List.mem_of_getElem? (i := 1148) (by decide +kernel), List.mem_of_getElem? (i := 1149) (by decide +kernel)⟩
def lw_privs_6 : List (MethodName × Nat) := [(⟨"BrookStonesModel", "workAhead", "(I)I"⟩, 37), (⟨"BrookStonesModel", "offer", "(III)V"⟩, 37), (⟨"BrookStonesModel", "isPlan", "(III)Z"⟩, 37), (⟨"BrookStonesModel", "layWays", "(I)V"⟩, 37), (⟨"BrookStonesModel", "isLaid", "(III)Z"⟩, 37), (⟨"BrookStonesModel", "lost", "(I)J"⟩, 37), (⟨"BrookStonesModel", "begins", "(I)V"⟩, 37), (⟨"BrookStonesModel", "stonesIn", "(Z)I"⟩, 37), (⟨"BrookStonesModel", "guards", "()I"⟩, 37)]
theorem lw_r6 : ∀ q ∈ lw_privs_6, lw_okq q := List.forall_mem_cons.mpr ⟨lw_p80, List.forall_mem_cons.mpr ⟨lw_p81, List.forall_mem_cons.mpr ⟨lw_p82, List.forall_mem_cons.mpr ⟨lw_p83, List.forall_mem_cons.mpr ⟨lw_p84, List.forall_mem_cons.mpr ⟨lw_p85, List.forall_mem_cons.mpr ⟨lw_p86, List.forall_mem_cons.mpr ⟨lw_p87, List.forall_mem_cons.mpr ⟨lw_p88, fun _ h => absurd h List.not_mem_nil⟩⟩⟩⟩⟩⟩⟩⟩⟩
def lw_privs : List (MethodName × Nat) := lw_privs_1 ++ (lw_privs_2 ++ (lw_privs_3 ++ (lw_privs_4 ++ (lw_privs_5 ++ (lw_privs_6)))))
def lw_tbl : List Cond := k2_sels lw_privs ++ tables_1
theorem lw_privs_ok : ∀ q ∈ lw_privs, lw_okq q := by
  show ∀ q ∈ lw_privs_1 ++ (lw_privs_2 ++ (lw_privs_3 ++ (lw_privs_4 ++ (lw_privs_5 ++ (lw_privs_6))))), lw_okq q
  exact List.forall_mem_append.mpr ⟨lw_r1, List.forall_mem_append.mpr ⟨lw_r2, List.forall_mem_append.mpr ⟨lw_r3, List.forall_mem_append.mpr ⟨lw_r4, List.forall_mem_append.mpr ⟨lw_r5, lw_r6⟩⟩⟩⟩⟩
def RX0 : String := "BrookStones$Brook"
def TX0 : u_T := fun k => match k with
  | 0 => ("BrookStones$Brook", "depth", "[I", true)
  | 1 => ("BrookStones$Brook", "bed", "[I", true)
  | 2 => ("BrookStones$Brook", "row", "[I", true)
  | 3 => ("BrookStones$Brook", "kind", "[I", true)
  | 4 => ("BrookStones$Brook", "height", "[I", true)
  | 5 => ("BrookStones$Brook", "weight", "[I", true)
  | 6 => ("BrookStones$Brook", "lies", "[I", true)
  | 7 => ("BrookStones$Brook", "strides", "[I", true)
  | 8 => ("BrookStones$Brook", "cells", "I", false)
  | 9 => ("BrookStones$Brook", "pace", "I", false)
  | 10 => ("BrookStones$Brook", "guarded", "I", false)
  | 11 => ("BrookStones$Brook", "water", "I", false)
  | 12 => ("BrookStones$Brook", "stones", "I", false)
  | 13 => ("BrookStones$Brook", "gone", "I", false)
  | _ => ("BrookStones$Brook", "walkers", "I", false)
def tyX0 : Nat → FieldType := fun k => match k with
  | 0 => .array .int
  | 1 => .array .int
  | 2 => .array .int
  | 3 => .array .int
  | 4 => .array .int
  | 5 => .array .int
  | 6 => .array .int
  | 7 => .array .int
  | 8 => .int
  | 9 => .int
  | 10 => .int
  | 11 => .int
  | 12 => .int
  | 13 => .int
  | _ => .int
theorem nmX0 : ∀ a, a < 15 → ∀ b, b < 15 → a ≠ b → (TX0 a).2.1 ≠ (TX0 b).2.1 := by decide +kernel
theorem tyX0_ok : ∀ k, k < 15 → parseFieldDescriptor (TX0 k).2.2.1 = some (tyX0 k) := by decide +kernel
def RX1 : String := "BrookStones$Flood"
def TX1 : u_T := fun k => match k with
  | 0 => ("BrookStones$Flood", "dug", "[I", true)
  | 1 => ("BrookStones$Flood", "went", "[I", true)
  | _ => ("BrookStones$Flood", "standing", "I", false)
def tyX1 : Nat → FieldType := fun k => match k with
  | 0 => .array .int
  | 1 => .array .int
  | _ => .int
theorem nmX1 : ∀ a, a < 3 → ∀ b, b < 3 → a ≠ b → (TX1 a).2.1 ≠ (TX1 b).2.1 := by decide +kernel
theorem tyX1_ok : ∀ k, k < 3 → parseFieldDescriptor (TX1 k).2.2.1 = some (tyX1 k) := by decide +kernel
def RX2 : String := "BrookStones$Layings"
def TX2 : u_T := fun k => match k with
  | 0 => ("BrookStones$Layings", "ways", "[I", true)
  | _ => ("BrookStones$Layings", "all", "I", false)
def tyX2 : Nat → FieldType := fun k => match k with
  | 0 => .array .int
  | _ => .int
theorem nmX2 : ∀ a, a < 2 → ∀ b, b < 2 → a ≠ b → (TX2 a).2.1 ≠ (TX2 b).2.1 := by decide +kernel
theorem tyX2_ok : ∀ k, k < 2 → parseFieldDescriptor (TX2 k).2.2.1 = some (tyX2 k) := by decide +kernel
def RX3 : String := "BrookStones$Planner"
def TX3 : u_T := fun k => match k with
  | 0 => ("BrookStones$Planner", "flood", "LBrookStones$Flood;", true)
  | 1 => ("BrookStones$Planner", "row", "[I", true)
  | 2 => ("BrookStones$Planner", "best", "[I", true)
  | 3 => ("BrookStones$Planner", "dry", "[I", true)
  | 4 => ("BrookStones$Planner", "stays", "[I", true)
  | 5 => ("BrookStones$Planner", "needed", "[I", true)
  | 6 => ("BrookStones$Planner", "bestWork", "I", false)
  | 7 => ("BrookStones$Planner", "bestMany", "I", false)
  | 8 => ("BrookStones$Planner", "stride", "I", false)
  | 9 => ("BrookStones$Planner", "f", "I", false)
  | _ => ("BrookStones$Planner", "rounds", "I", false)
def tyX3 : Nat → FieldType := fun k => match k with
  | 0 => .object "BrookStones$Flood"
  | 1 => .array .int
  | 2 => .array .int
  | 3 => .array .int
  | 4 => .array .int
  | 5 => .array .int
  | 6 => .int
  | 7 => .int
  | 8 => .int
  | 9 => .int
  | _ => .int
theorem nmX3 : ∀ a, a < 11 → ∀ b, b < 11 → a ≠ b → (TX3 a).2.1 ≠ (TX3 b).2.1 := by decide +kernel
theorem tyX3_ok : ∀ k, k < 11 → parseFieldDescriptor (TX3 k).2.2.1 = some (tyX3 k) := by decide +kernel
def RX4 : String := "BrookStones$Sheets"
def TX4 : u_T := fun k => match k with
  | 0 => ("BrookStones$Sheets", "sort", "[I", true)
  | 1 => ("BrookStones$Sheets", "many", "[I", true)
  | _ => ("BrookStones$Sheets", "cells", "[I", true)
def tyX4 : Nat → FieldType := fun k => match k with
  | 0 => .array .int
  | 1 => .array .int
  | _ => .array .int
theorem nmX4 : ∀ a, a < 3 → ∀ b, b < 3 → a ≠ b → (TX4 a).2.1 ≠ (TX4 b).2.1 := by decide +kernel
theorem tyX4_ok : ∀ k, k < 3 → parseFieldDescriptor (TX4 k).2.2.1 = some (tyX4 k) := by decide +kernel
def RX5 : String := "BrookStones$Text"
def TX5 : u_T := fun k => match k with
  | _ => ("", "", "", false)
def tyX5 : Nat → FieldType := fun k => match k with
  | _ => .int
theorem nmX5 : ∀ a, a < 0 → ∀ b, b < 0 → a ≠ b → (TX5 a).2.1 ≠ (TX5 b).2.1 := by decide +kernel
theorem tyX5_ok : ∀ k, k < 0 → parseFieldDescriptor (TX5 k).2.2.1 = some (tyX5 k) := by decide +kernel
def RX6 : String := "BrookStones$Way"
def TX6 : u_T := fun k => match k with
  | 0 => ("BrookStones$Way", "places", "[I", true)
  | 1 => ("BrookStones$Way", "left", "[I", true)
  | 2 => ("BrookStones$Way", "stops", "I", false)
  | 3 => ("BrookStones$Way", "eases", "I", false)
  | 4 => ("BrookStones$Way", "last", "I", false)
  | _ => ("BrookStones$Way", "reach", "I", false)
def tyX6 : Nat → FieldType := fun k => match k with
  | 0 => .array .int
  | 1 => .array .int
  | 2 => .int
  | 3 => .int
  | 4 => .int
  | _ => .int
theorem nmX6 : ∀ a, a < 6 → ∀ b, b < 6 → a ≠ b → (TX6 a).2.1 ≠ (TX6 b).2.1 := by decide +kernel
theorem tyX6_ok : ∀ k, k < 6 → parseFieldDescriptor (TX6 k).2.2.1 = some (tyX6 k) := by decide +kernel
def RX7 : String := "BrookStones"
def TX7 : u_T := fun k => match k with
  | 0 => ("BrookStones", "brook", "LBrookStones$Brook;", true)
  | 1 => ("BrookStones", "sheets", "LBrookStones$Sheets;", true)
  | 2 => ("BrookStones", "way", "LBrookStones$Way;", true)
  | 3 => ("BrookStones", "flood", "LBrookStones$Flood;", true)
  | 4 => ("BrookStones", "planner", "LBrookStones$Planner;", true)
  | 5 => ("BrookStones", "layings", "LBrookStones$Layings;", true)
  | 6 => ("BrookStones", "trace", "I", false)
  | _ => ("BrookStones", "fault", "I", false)
def tyX7 : Nat → FieldType := fun k => match k with
  | 0 => .object "BrookStones$Brook"
  | 1 => .object "BrookStones$Sheets"
  | 2 => .object "BrookStones$Way"
  | 3 => .object "BrookStones$Flood"
  | 4 => .object "BrookStones$Planner"
  | 5 => .object "BrookStones$Layings"
  | 6 => .int
  | _ => .int
theorem nmX7 : ∀ a, a < 8 → ∀ b, b < 8 → a ≠ b → (TX7 a).2.1 ≠ (TX7 b).2.1 := by decide +kernel
theorem tyX7_ok : ∀ k, k < 8 → parseFieldDescriptor (TX7 k).2.2.1 = some (tyX7 k) := by decide +kernel
def RX8 : String := "BrookStonesModel"
def TX8 : u_T := fun k => match k with
  | 0 => ("BrookStonesModel", "fault", "I", false)
  | 1 => ("BrookStonesModel", "trace", "I", false)
  | 2 => ("BrookStonesModel", "sorts", "[I", true)
  | 3 => ("BrookStonesModel", "sheetLong", "[I", true)
  | 4 => ("BrookStonesModel", "cells", "[I", true)
  | 5 => ("BrookStonesModel", "wide", "I", false)
  | 6 => ("BrookStonesModel", "pace", "I", false)
  | 7 => ("BrookStonesModel", "level", "I", false)
  | 8 => ("BrookStonesModel", "depth", "[I", true)
  | 9 => ("BrookStonesModel", "bed", "[I", true)
  | 10 => ("BrookStonesModel", "guarded", "[Z", true)
  | 11 => ("BrookStonesModel", "held", "[I", true)
  | 12 => ("BrookStonesModel", "at", "I", false)
  | 13 => ("BrookStonesModel", "readWide", "I", false)
  | 14 => ("BrookStonesModel", "readPace", "I", false)
  | 15 => ("BrookStonesModel", "readDepth", "[I", true)
  | 16 => ("BrookStonesModel", "readBed", "[I", true)
  | 17 => ("BrookStonesModel", "stones", "I", false)
  | 18 => ("BrookStonesModel", "stoneKind", "[I", true)
  | 19 => ("BrookStonesModel", "stoneHeight", "[I", true)
  | 20 => ("BrookStonesModel", "stoneWeight", "[I", true)
  | 21 => ("BrookStonesModel", "stoneLies", "[I", true)
  | 22 => ("BrookStonesModel", "stoneCell", "[I", true)
  | 23 => ("BrookStonesModel", "walkers", "I", false)
  | 24 => ("BrookStonesModel", "strides", "[I", true)
  | 25 => ("BrookStonesModel", "laid", "[I", true)
  | 26 => ("BrookStonesModel", "looked", "I", false)
  | 27 => ("BrookStonesModel", "far", "[I", true)
  | 28 => ("BrookStonesModel", "dugAt", "[I", true)
  | 29 => ("BrookStonesModel", "wentIn", "[I", true)
  | 30 => ("BrookStonesModel", "stood", "[Z", true)
  | 31 => ("BrookStonesModel", "alsoGuarded", "I", false)
  | 32 => ("BrookStonesModel", "tried", "[I", true)
  | 33 => ("BrookStonesModel", "bestRow", "[I", true)
  | 34 => ("BrookStonesModel", "bestWork", "I", false)
  | 35 => ("BrookStonesModel", "bestMany", "I", false)
  | _ => ("BrookStonesModel", "ways", "[I", true)
def tyX8 : Nat → FieldType := fun k => match k with
  | 0 => .int
  | 1 => .int
  | 2 => .array .int
  | 3 => .array .int
  | 4 => .array .int
  | 5 => .int
  | 6 => .int
  | 7 => .int
  | 8 => .array .int
  | 9 => .array .int
  | 10 => .array .boolean
  | 11 => .array .int
  | 12 => .int
  | 13 => .int
  | 14 => .int
  | 15 => .array .int
  | 16 => .array .int
  | 17 => .int
  | 18 => .array .int
  | 19 => .array .int
  | 20 => .array .int
  | 21 => .array .int
  | 22 => .array .int
  | 23 => .int
  | 24 => .array .int
  | 25 => .array .int
  | 26 => .int
  | 27 => .array .int
  | 28 => .array .int
  | 29 => .array .int
  | 30 => .array .boolean
  | 31 => .int
  | 32 => .array .int
  | 33 => .array .int
  | 34 => .int
  | 35 => .int
  | _ => .array .int
theorem nmX8 : ∀ a, a < 37 → ∀ b, b < 37 → a ≠ b → (TX8 a).2.1 ≠ (TX8 b).2.1 := by decide +kernel
theorem tyX8_ok : ∀ k, k < 37 → parseFieldDescriptor (TX8 k).2.2.1 = some (tyX8 k) := by decide +kernel
def RL : String := "BrookStonesLaw"
abbrev vwCl : List vw_C := [(RX0, TX0, 15), (RX1, TX1, 3), (RX2, TX2, 2), (RX3, TX3, 11), (RX4, TX4, 3), (RX6, TX6, 6), (RX7, TX7, 8), (RX8, TX8, 37)]
end
section
/-! ===== small worlds: cells by number (number 0 is the script), values whose references are numbers ===== -/
abbrev XC : Type := (Nat × List Value) ⊕ (Nat × List Int32)
abbrev XW : Type := List XC
abbrev XL : Type := List (Nat × Value)
abbrev XO : Type := Option Value × XW
abbrev Kont : Type := Nat → XL → List Value → XW → Option XO
abbrev Orc : Type := List Value → XW → Option XO
def xa (base b : Nat) : Nat → Nat
  | 0 => b
  | k + 1 => base + k
def xv (base b : Nat) : Value → Value
  | .ref k => .ref (xa base b k)
  | .int x => .int x
  | .long x => .long x
  | .float x => .float x
  | .double x => .double x
  | .null => .null
  | .retAddr x => .retAddr x
def xe (base b : Nat) (cA : Nat → ClassId) : XC → va_E
  | .inl (ci, fs) => .inr (ci, fs.map (xv base b))
  | .inr (t, xs) => .inl (cA t, xs.length, .inl (fun j => xs.getD j 0))
def xw (base b : Nat) (cA : Nat → ClassId) (w : XW) : va_W := w.tail.mapIdx fun k c => (base + k, xe base b cA c)
def xsz : XC → Nat
  | .inl (_, fs) => fs.length
  | .inr (_, xs) => xs.length
def gs (w : XW) : Nat := (w.map xsz).sum
/-! what is read and written -/
def gF (w : XW) (o ci k : Nat) : Option Value := match w[o]? with
  | some (.inl (c, fs)) => if c = ci then fs[k]? else none
  | _ => none
def gI (w : XW) (o ci k : Nat) : Option Int32 := match gF w o ci k with
  | some (.int x) => some x
  | _ => none
def gR (w : XW) (o ci k : Nat) : Option Nat := match gF w o ci k with
  | some (.ref x) => some x
  | _ => none
def pF (w : XW) (o ci k : Nat) (v : Value) : Option XW := match w[o]? with
  | some (.inl (c, fs)) => if c = ci ∧ k < fs.length ∧ o ≠ 0 then some (w.set o (.inl (c, fs.set k v))) else none
  | _ => none
def aI (w : XW) (o : Nat) (i : Int32) : Option Int32 := match w[o]? with
  | some (.inr (t, xs)) => if (t = 0 ∨ o = 0) ∧ 0 ≤ i then xs[i.toNatClampNeg]? else none
  | _ => none
def aZ (w : XW) (o : Nat) (i : Int32) : Option Int32 := match w[o]? with
  | some (.inr (t, xs)) => if t = 1 ∧ o ≠ 0 ∧ 0 ≤ i then xs[i.toNatClampNeg]? else none
  | _ => none
def aL (w : XW) (o : Nat) : Option Int32 := match w[o]? with
  | some (.inr (t, xs)) => if t = 0 ∨ t = 1 ∨ o = 0 then some (Int32.ofNat xs.length) else none
  | _ => none
def sI (w : XW) (o : Nat) (i x : Int32) : Option XW := match w[o]? with
  | some (.inr (t, xs)) => if t = 0 ∧ o ≠ 0 ∧ 0 ≤ i ∧ i.toNatClampNeg < xs.length then some (w.set o (.inr (0, xs.set i.toNatClampNeg x))) else none
  | _ => none
def sZ (w : XW) (o : Nat) (i x : Int32) : Option XW := match w[o]? with
  | some (.inr (t, xs)) => if t = 1 ∧ o ≠ 0 ∧ 0 ≤ i ∧ i.toNatClampNeg < xs.length then some (w.set o (.inr (1, xs.set i.toNatClampNeg (x &&& 1)))) else none
  | _ => none
/-- n cells from i on of an int array go to another one from j on -/
def sC (w : XW) (o : Nat) (i : Int32) (o2 : Nat) (j n : Int32) : Option XW := match w[o]?, w[o2]? with
  | some (.inr (t, xs)), some (.inr (t2, ys)) => if t = 0 ∧ t2 = 0 ∧ o ≠ 0 ∧ o2 ≠ 0 ∧ 0 ≤ i ∧ 0 ≤ j ∧ 0 ≤ n ∧ i.toNatClampNeg + n.toNatClampNeg ≤ xs.length ∧ j.toNatClampNeg + n.toNatClampNeg ≤ ys.length then
      some (w.set o2 (.inr (0, ys.take j.toNatClampNeg ++ ((xs.drop i.toNatClampNeg).take n.toNatClampNeg ++ ys.drop (j.toNatClampNeg + n.toNatClampNeg))))) else none
  | _, _ => none
def isO (w : XW) (o ci : Nat) : Bool := match w[o]? with
  | some (.inl (c, _)) => c == ci
  | _ => false
/-! what an answer is -/
def cI (m : Option XO) (k : Int32 → XW → Option XO) : Option XO := match m with
  | some (some (.int x), w) => k x w
  | _ => none
def cL (m : Option XO) (k : Int64 → XW → Option XO) : Option XO := match m with
  | some (some (.long x), w) => k x w
  | _ => none
def cV (m : Option XO) (k : XW → Option XO) : Option XO := match m with
  | some (none, w) => k w
  | _ => none
/-! ===== how they stand for the machine's ===== -/
theorem xw_get {base b : Nat} {cA : Nat → ClassId} {w : XW} {o : Nat} {c : XC} (h : w[o + 1]? = some c) : (xw base b cA w)[o]? = some (base + o, xe base b cA c) := by
  unfold xw
  rw [List.getElem?_mapIdx]
  have : w.tail[o]? = some c := by rw [List.getElem?_tail]; exact h
  rw [this]; rfl
theorem xw_of {base b : Nat} {cA : Nat → ClassId} {w : XW} {k : Nat} {q : Nat × va_E} (h : (xw base b cA w)[k]? = some q) : q.1 = base + k ∧ k + 1 < w.length := by
  unfold xw at h
  rw [List.getElem?_mapIdx] at h
  cases hc : w.tail[k]? with
  | none => rw [hc] at h; cases h
  | some c =>
    rw [hc] at h
    cases h
    refine ⟨rfl, ?_⟩
    have := (List.getElem?_eq_some_iff.mp hc).1
    rw [List.length_tail] at this
    omega
theorem xw_set {base b : Nat} {cA : Nat → ClassId} {w : XW} {o : Nat} {c : XC} : xw base b cA (w.set (o + 1) c) = (xw base b cA w).set o (base + o, xe base b cA c) := by
  unfold xw
  cases w with
  | nil => rfl
  | cons a r => simp [List.mapIdx_set]
theorem xw_push {base b : Nat} {cA : Nat → ClassId} {w : XW} {c : XC} (h : 0 < w.length) : xw base b cA (w ++ [c]) = xw base b cA w ++ [(base + (w.length - 1), xe base b cA c)] := by
  unfold xw
  cases w with
  | nil => simp at h
  | cons a r => simp [List.mapIdx_append]
theorem xw_D {base b : Nat} {cA : Nat → ClassId} (w : XW) : va_D (fun q => base ≤ q) (xw base b cA w) := by
  refine ⟨fun i j p q hi hj hpq => ?_, fun k q hk => ?_⟩
  · have h1 := (xw_of hi).1
    have h2 := (xw_of hj).1
    omega
  · rw [(xw_of hk).1]; omega
theorem gs_set {w : XW} {o : Nat} {c d : XC} (h : w[o]? = some c) (hs : xsz c = xsz d) : gs (w.set o d) = gs w := by
  unfold gs
  rw [List.map_set]
  congr 1
  apply List.ext_getElem?
  intro k
  rw [List.getElem?_set]
  split
  next hk =>
    subst hk
    split
    next => rw [List.getElem?_map, h]; simp [hs]
    next hl => rw [List.length_map] at hl; exact absurd (List.getElem?_eq_some_iff.mp h).1 hl
  next => rfl
theorem gs_push (w : XW) (c : XC) : gs (w ++ [c]) = gs w + xsz c := by simp [gs]
theorem xv_cat (base b : Nat) (v : Value) : (xv base b v).category = v.category := by cases v <;> rfl
theorem xv_sum (base b : Nat) (st : List Value) : ((st.map (xv base b)).map fun v => v.category).sum = (st.map fun v => v.category).sum := by
  rw [List.map_map]; congr 1; apply List.map_congr_left; intro v _; exact xv_cat base b v
theorem cat_le (st : List Value) : (st.map fun v => v.category).sum ≤ 2 * st.length := by
  induction st with
  | nil => simp
  | cons v r ih =>
    have : v.category ≤ 2 := by rcases lv_cat v with h | h <;> omega
    simp only [List.map_cons, List.sum_cons, List.length_cons]; omega
/-! locals -/
def xl (base b : Nat) (ls : XL) : List (Nat × Value) := ls.map fun q => (q.1, xv base b q.2)
def xL : XL → Nat → Option Value
  | [], _ => none
  | (j, v) :: r, i => bif j == i then some v else xL r i
def xst (ls : XL) (i : Nat) (v : Value) : XL := (i, v) :: ls.filter (fun q => !(q.1 == i) && !(q.1 + 1 == i && q.2.category == 2))
def xst2 (ls : XL) (i : Nat) (v : Value) : XL := (i, v) :: ls.filter (fun q => !(q.1 == i) && (!(q.1 == i + 1) && !(q.1 + 1 == i && q.2.category == 2)))
theorem xL_mem {ls : XL} {i : Nat} {v : Value} (h : xL ls i = some v) : (i, v) ∈ ls := by
  induction ls with
  | nil => cases h
  | cons q r ih =>
    obtain ⟨j, u⟩ := q
    unfold xL at h
    cases hj : j == i with
    | true =>
      rw [hj] at h
      cases h
      rw [eq_of_beq hj]
      exact List.mem_cons_self
    | false =>
      rw [hj] at h
      exact List.mem_cons_of_mem _ (ih h)
theorem xL_at {base b nL : Nat} {LS : Array Slot} {ls : XL} {i : Nat} {v : Value} (h : lv_has LS nL (xl base b ls)) (hv : xL ls i = some v) : LS[i]? = some (.val (xv base b v)) :=
  h.2.2 (i, xv base b v) (List.mem_map.mpr ⟨(i, v), xL_mem hv, rfl⟩)
theorem xL_place {base b : Nat} {ls : XL} {i : Nat} {v : Value} (hv : xL ls i = some v) : ∃ k : Nat, (xl base b ls)[k]? = some (i, xv base b v) :=
  List.getElem?_of_mem (List.mem_map.mpr ⟨(i, v), xL_mem hv, rfl⟩)
theorem xst_map (base b : Nat) (ls : XL) (i : Nat) (v : Value) : (i, xv base b v) :: (xl base b ls).filter (fun q => !(q.1 == i) && !(q.1 + 1 == i && q.2.category == 2)) = xl base b (xst ls i v) := by
  unfold xl xst
  rw [List.map_cons, List.filter_map]
  congr 2
  apply List.filter_congr
  intro q _
  simp [xv_cat]
theorem xst2_map (base b : Nat) (ls : XL) (i : Nat) (v : Value) : (i, xv base b v) :: (xl base b ls).filter (fun q => !(q.1 == i) && (!(q.1 == i + 1) && !(q.1 + 1 == i && q.2.category == 2))) = xl base b (xst2 ls i v) := by
  unfold xl xst2
  rw [List.map_cons, List.filter_map]
  congr 2
  apply List.filter_congr
  intro q _
  simp [xv_cat]
theorem xl_sub {base b nL : Nat} {LS : Array Slot} {ls ks : XL} (h : lv_has LS nL (xl base b ls)) (hk : ∀ q ∈ ks, xL ls q.1 = some q.2) : lv_has LS nL (xl base b ks) := by
  refine ⟨h.1, h.2.1, fun q hq => ?_⟩
  obtain ⟨p, hp, rfl⟩ := List.mem_map.mp hq
  exact xL_at h (hk p hp)
/-! words that are good at every state, and those of nest mates -/
def isNest : Jvm.Cond → Bool
  | .methodLinkNest .. => true
  | .fieldLinkNest .. => true
  | _ => false
def tblN : List Jvm.Cond := tables_1.filter isNest
def tblG : List Jvm.Cond := lw_tbl.filter goodWord
theorem tblG_good {w : Jvm.Cond} (h : w ∈ tblG) : (w.onTables && w.keeps) = true ∨ ∃ ty, w = .arrayClass ty := good_of_word (List.mem_filter.mp h).2
theorem tblG_of {i : Nat} {w : Jvm.Cond} (h : tables_1[i]? = some w) (hg : goodWord w = true) : w ∈ tblG :=
  List.mem_filter.mpr ⟨List.mem_append_right _ (List.mem_of_getElem? h), hg⟩
theorem tblG_sel {q : MethodName × Nat} (h : q ∈ lw_privs) : Jvm.Cond.selects q.1.cls q.1 q.1 ∈ tblG :=
  List.mem_filter.mpr ⟨List.mem_append_left _ (List.mem_map.mpr ⟨q, h, rfl⟩), rfl⟩
theorem tblN_of {i : Nat} {w : Jvm.Cond} (h : tables_1[i]? = some w) (hg : isNest w = true) : w ∈ tblN := List.mem_filter.mpr ⟨List.mem_of_getElem? h, hg⟩
theorem tblN_warm {s U : State} (hW : s.WarmedH U.vm) {n : Jvm.Cond} (hn : n ∈ tblN) (h : va_Nw n s) : va_Nw n U := by
  have h1 := (List.mem_filter.mp hn).2
  cases n <;> first | exact va_Nw.warmF hW h | exact va_Nw.warmM hW h | cases h1
/-! the world of a state -/
abbrev xTys (cA : Nat → ClassId) : List (ClassId × FieldType) := [(cA 0, .int), (cA 1, .boolean)]
def XR (D : va_G) (cA : Nat → ClassId) (base b : Nat) (w : XW) (U : State) : Prop :=
  va_P D vwCl (xw base b cA w) U.heap ∧ va_K D vwCl (xTys cA) U ∧ (∃ xs, w[0]? = some (.inr (2, xs)) ∧ va_X b xs.length (fun j => xs.getD j 0) U U.heap) ∧ (∀ n ∈ tblN, va_Nw n U) ∧ U.heap.size + 1 = base + w.length ∧ b < base
def QX (D : va_G) (cA : Nat → ClassId) (base b : Nat) (o : XO) : Array Value → State → Outcome → State → Prop :=
  fun _ st oc t => oc = .returned (o.1.map (xv base b)) ∧ XR D cA base b o.2 t ∧ va_F (fun q => base ≤ q) st t
/-- a method answers, and leaves the world, as a function says -/
def CS (l : Launch) (D : va_G) (cA : Nat → ClassId) (base b d : Nat) (y : MethodName) (bytes : ByteArray) (maxL : Nat) (ret : Option FieldType) (F : Orc) : Prop :=
  ∀ (as : List Value) (w : XW) (o : XO), F as w = some o → w.length ≤ o.2.length ∧ gs w ≤ gs o.2 ∧ o.2[0]? = w[0]? ∧
    ∀ mc ms : Nat, o.2.length = mc + w.length → gs o.2 = ms + gs w →
      Met l y (.code y bytes maxL ret :: tblG) { frames := d, cells := mc, slots := ms, locals := 100 * d } (va_Pc (as.map (xv base b)) (XR D cA base b w)) (QX D cA base b o) mc ms (fun q => base ≤ q)
theorem XR.len {D : va_G} {cA : Nat → ClassId} {base b : Nat} {w : XW} {U : State} (h : XR D cA base b w U) : 0 < w.length := by
  obtain ⟨xs, h0, -⟩ := h.2.2.1
  exact (List.getElem?_eq_some_iff.mp h0).1
theorem xw_size {D : va_G} {cA : Nat → ClassId} {base b : Nat} {w : XW} {H : Heap} (hP : va_P D vwCl (xw base b cA w) H) (h0 : base ≤ H.size) (hl : 0 < w.length) : base + w.length ≤ H.size + 1 := by
  by_cases h : w.length = 1
  · omega
  · obtain ⟨k, hk⟩ : ∃ k, w.length = k + 2 := ⟨w.length - 2, by omega⟩
    have h2 : w[k + 1]? = some (w[k + 1]'(by omega)) := List.getElem?_eq_getElem _
    have h3 := (hP k _ (xw_get h2)).lt
    simp only at h3
    omega
end
section
/-! ===== the instructions over small worlds ===== -/
def lk {α : Type} : List (Nat × α) → Nat → Option α
  | [], _ => none
  | (j, v) :: r, i => bif j == i then some v else lk r i
theorem lk_mem {α : Type} {l : List (Nat × α)} {i : Nat} {v : α} (h : lk l i = some v) : (i, v) ∈ l := by
  induction l with
  | nil => cases h
  | cons q r ih =>
    obtain ⟨j, u⟩ := q
    unfold lk at h
    cases hj : j == i with
    | true =>
      rw [hj] at h
      cases h
      rw [eq_of_beq hj]
      exact List.mem_cons_self
    | false =>
      rw [hj] at h
      exact List.mem_cons_of_mem _ (ih h)
/-- a place that a jump goes to -/
def tgo (pc : Nat) (off : Int) (k : Nat → Option XO) : Option XO := match (pc : Int) + off with
  | .ofNat t => k t
  | .negSucc _ => none
def swi (pc : Nat) (d : Int) (x : Int32) (k : Nat → Option XO) : List (Int × Int) → Option XO
  | [] => tgo pc d k
  | (a, o) :: r => if x = Int32.ofInt a then tgo pc o k else swi pc d x k r
def swOk (ps : List (Int × Int)) : Bool := ps.all (fun q => decide (-2147483648 ≤ q.1) && decide (q.1 < 2147483648)) && (ps.zip (ps.drop 1)).all (fun (a, next) => a.1 < next.1)
def oInit : Orc := fun as w => match as with
  | [.ref _] => some (none, w)
  | _ => none
def oCopy : Orc := fun as w => match as with
  | [.ref o, .int i, .ref o2, .int j, .int n] => (sC w o i o2 j n).map (fun w' => (none, w'))
  | _ => none
/-- an operation: what a method is beside its code: fields, classes, constants, calls; ints that are booleans -/
def callK (n rk : Nat) (F : Orc) (k : List Value → XW → Option XO) (st : List Value) (w : XW) : Option XO :=
  if n ≤ st.length ∧ (st.drop n).length ≤ 4 then
    (if rk = 1 then cI (F (st.take n).reverse w) (fun x w' => k (.int x :: st.drop n) w')
     else if rk = 2 then cL (F (st.take n).reverse w) (fun x w' => k (.long x :: st.drop n) w')
     else cV (F (st.take n).reverse w) (fun w' => k (st.drop n) w'))
  else none
def bin (f : Int32 → Int32 → Int32) (k : List Value → Option XO) (st : List Value) : Option XO := match st with
  | .int y :: .int x :: r => k (.int (f x y) :: r)
  | _ => none
/-- a boolean answer -/
def retZ (x : Int32) (w : XW) : Option XO := if x = 0 then some (some (.int 0), w) else if x = 1 then some (some (.int 1), w) else none
def un (f : Int32 → Int32) (k : List Value → Option XO) (st : List Value) : Option XO := match st with
  | .int x :: r => k (.int (f x) :: r)
  | _ => none
def opK (nL rz : Nat) (fl : List (Nat × Nat × Nat × Nat)) (nl : List (Nat × Nat × List Value)) (kl : List (Nat × Int32)) (k2 : List (Nat × Int64)) (mv ms mi : List (Nat × Nat × Nat × Orc)) (pc : Nat) (K : Kont) (ls : XL) (st : List Value) (w : XW) : Instr → Option XO
  | .iconst n => K (pc + 1) ls (.int (Int32.ofInt n) :: st) w
  | .bipush n => K (pc + 2) ls (.int (Int8.ofInt n).toInt32 :: st) w
  | .sipush n => K (pc + 3) ls (.int (Int16.ofInt n).toInt32 :: st) w
  | .lconst n => K (pc + 1) ls (.long (Int64.ofNat (n : Nat)) :: st) w
  | .ldc i => (lk kl i).bind fun v => K (pc + 2) ls (.int v :: st) w
  | .ldc_w i => (lk kl i).bind fun v => K (pc + 3) ls (.int v :: st) w
  | .ldc2_w i => (lk k2 i).bind fun v => K (pc + 3) ls (.long v :: st) w
  | .iload_n n => match xL ls n with | some (.int x) => K (pc + 1) ls (.int x :: st) w | _ => none
  | .iload n => match xL ls n with | some (.int x) => K (pc + 2) ls (.int x :: st) w | _ => none
  | .lload_n n => match xL ls n with | some (.long x) => K (pc + 1) ls (.long x :: st) w | _ => none
  | .lload n => match xL ls n with | some (.long x) => K (pc + 2) ls (.long x :: st) w | _ => none
  | .aload_n n => match xL ls n with | some (.ref x) => K (pc + 1) ls (.ref x :: st) w | _ => none
  | .aload n => match xL ls n with | some (.ref x) => K (pc + 2) ls (.ref x :: st) w | _ => none
  | .istore_n n => match st with | .int x :: r => if (n : Nat) < nL then K (pc + 1) (xst ls n (.int x)) r w else none | _ => none
  | .istore n => match st with | .int x :: r => if n < nL then K (pc + 2) (xst ls n (.int x)) r w else none | _ => none
  | .lstore_n n => match st with | .long x :: r => if (n : Nat) + 1 < nL then K (pc + 1) (xst2 ls n (.long x)) r w else none | _ => none
  | .lstore n => match st with | .long x :: r => if n + 1 < nL then K (pc + 2) (xst2 ls n (.long x)) r w else none | _ => none
  | .astore_n n => match st with | .ref x :: r => if (n : Nat) < nL then K (pc + 1) (xst ls n (.ref x)) r w else none | _ => none
  | .astore n => match st with | .ref x :: r => if n < nL then K (pc + 2) (xst ls n (.ref x)) r w else none | _ => none
  | .iinc n v => match xL ls n with | some (.int x) => if n < nL then K (pc + 3) (xst ls n (.int (x + Int32.ofInt v))) st w else none | _ => none
  | .iadd => bin (fun x y => x + y) (fun s => K (pc + 1) ls s w) st
  | .isub => bin (fun x y => x - y) (fun s => K (pc + 1) ls s w) st
  | .imul => bin (fun x y => x * y) (fun s => K (pc + 1) ls s w) st
  | .iand => bin (fun x y => x &&& y) (fun s => K (pc + 1) ls s w) st
  | .ior => bin (fun x y => x ||| y) (fun s => K (pc + 1) ls s w) st
  | .ixor => bin (fun x y => x ^^^ y) (fun s => K (pc + 1) ls s w) st
  | .ishl => bin (fun x y => x <<< (y &&& 31)) (fun s => K (pc + 1) ls s w) st
  | .ishr => bin (fun x y => x >>> (y &&& 31)) (fun s => K (pc + 1) ls s w) st
  | .iushr => bin (fun x y => (x.toUInt32 >>> (y.toUInt32 &&& Int32.toUInt32 31)).toInt32) (fun s => K (pc + 1) ls s w) st
  | .idiv => match st with | .int y :: .int x :: r => if y = 0 then none else K (pc + 1) ls (.int (x / y) :: r) w | _ => none
  | .irem => match st with | .int y :: .int x :: r => if y = 0 then none else K (pc + 1) ls (.int (x - x / y * y) :: r) w | _ => none
  | .ineg => un (fun x => -x) (fun s => K (pc + 1) ls s w) st
  | .i2b => un (fun x => x.toInt8.toInt32) (fun s => K (pc + 1) ls s w) st
  | .i2s => un (fun x => x.toInt16.toInt32) (fun s => K (pc + 1) ls s w) st
  | .i2l => match st with | .int x :: r => K (pc + 1) ls (.long x.toInt64 :: r) w | _ => none
  | .ldiv => match st with | .long y :: .long x :: r => if y = 0 then none else K (pc + 1) ls (.long (x / y) :: r) w | _ => none
  | .lrem => match st with | .long y :: .long x :: r => if y = 0 then none else K (pc + 1) ls (.long (x - x / y * y) :: r) w | _ => none
  | .lcmp => match st with | .long y :: .long x :: r => K (pc + 1) ls (.int (lg_cmp x y) :: r) w | _ => none
  | .dup => match st with | v :: r => if v.category = 1 then K (pc + 1) ls (v :: v :: r) w else none | _ => none
  | .dup2 => match st with | v :: u :: r => if v.category = 1 ∧ u.category = 1 then K (pc + 1) ls (v :: u :: v :: u :: r) w else none | _ => none
  | .pop => match st with | v :: r => if v.category = 1 then K (pc + 1) ls r w else none | _ => none
  | .goto off => tgo pc off fun t => K t ls st w
  | .ifCond c off => match st with
    | .int x :: r => match c with
      | .eq => if x = 0 then tgo pc off (fun t => K t ls r w) else K (pc + 3) ls r w
      | .ne => if x = 0 then K (pc + 3) ls r w else tgo pc off (fun t => K t ls r w)
      | .lt => if x < 0 then tgo pc off (fun t => K t ls r w) else K (pc + 3) ls r w
      | .ge => if x < 0 then K (pc + 3) ls r w else tgo pc off (fun t => K t ls r w)
      | .gt => if 0 < x then tgo pc off (fun t => K t ls r w) else K (pc + 3) ls r w
      | .le => if 0 < x then K (pc + 3) ls r w else tgo pc off (fun t => K t ls r w)
    | _ => none
  | .if_icmp c off => match st with
    | .int y :: .int x :: r => match c with
      | .eq => if x = y then tgo pc off (fun t => K t ls r w) else K (pc + 3) ls r w
      | .ne => if x = y then K (pc + 3) ls r w else tgo pc off (fun t => K t ls r w)
      | .lt => if x < y then tgo pc off (fun t => K t ls r w) else K (pc + 3) ls r w
      | .ge => if x < y then K (pc + 3) ls r w else tgo pc off (fun t => K t ls r w)
      | .gt => if y < x then tgo pc off (fun t => K t ls r w) else K (pc + 3) ls r w
      | .le => if y < x then K (pc + 3) ls r w else tgo pc off (fun t => K t ls r w)
    | _ => none
  | .tableswitch d lo hi offs => match st with
    | .int x :: r => if hi = lo + (offs.size : Int) - 1 ∧ -2147483648 ≤ lo ∧ hi < 2147483648 then swi pc d x (fun t => K t ls r w) (offs.toList.mapIdx fun i o => (lo + (i : Int), o)) else none
    | _ => none
  | .lookupswitch d ps => match st with
    | .int x :: r => if swOk ps.toList = true then swi pc d x (fun t => K t ls r w) ps.toList else none
    | _ => none
  | .getfield i => (lk fl i).bind fun f => match st with
    | .ref o :: r => if f.2.2 < 10 then (gI w o f.1 f.2.1).bind (fun x => K (pc + 3) ls (.int x :: r) w) else (gR w o f.1 f.2.1).bind (fun x => K (pc + 3) ls (.ref x :: r) w)
    | _ => none
  | .putfield i => (lk fl i).bind fun f => match st with
    | .int x :: .ref o :: r => if f.2.2 = 1 then (pF w o f.1 f.2.1 (.int x)).bind (fun w' => K (pc + 3) ls r w') else none
    | .ref x :: .ref o :: r => if f.2.2 = 12 then (pF w o f.1 f.2.1 (.ref x)).bind (fun w' => K (pc + 3) ls r w') else none
    | _ => none
  | .iaload => match st with | .int i :: .ref o :: r => (aI w o i).bind (fun x => K (pc + 1) ls (.int x :: r) w) | _ => none
  | .baload => match st with | .int i :: .ref o :: r => (aZ w o i).bind (fun x => K (pc + 1) ls (.int x :: r) w) | _ => none
  | .iastore => match st with | .int x :: .int i :: .ref o :: r => (sI w o i x).bind (fun w' => K (pc + 1) ls r w') | _ => none
  | .bastore => match st with | .int x :: .int i :: .ref o :: r => (sZ w o i x).bind (fun w' => K (pc + 1) ls r w') | _ => none
  | .arraylength => match st with | .ref o :: r => (aL w o).bind (fun x => K (pc + 1) ls (.int x :: r) w) | _ => none
  | .newarray t => match st with
    | .int n :: r => match t with
      | .int => if 0 ≤ n ∧ n ≤ 1000 ∧ 0 < w.length then K (pc + 2) ls (.ref w.length :: r) (w ++ [.inr (0, List.replicate n.toNatClampNeg 0)]) else none
      | .boolean => if 0 ≤ n ∧ n ≤ 1000 ∧ 0 < w.length then K (pc + 2) ls (.ref w.length :: r) (w ++ [.inr (1, List.replicate n.toNatClampNeg 0)]) else none
      | _ => none
    | _ => none
  | .new i => (lk nl i).bind fun f => if 0 < w.length then K (pc + 3) ls (.ref w.length :: st) (w ++ [.inl (f.1, f.2)]) else none
  | .invokevirtual i => (lk mv i).bind fun f => callK f.1 f.2.1 f.2.2 (fun s w' => K (pc + 3) ls s w') st w
  | .invokestatic i => (lk ms i).bind fun f => callK f.1 f.2.1 f.2.2 (fun s w' => K (pc + 3) ls s w') st w
  | .invokespecial i => (lk mi i).bind fun f => callK f.1 f.2.1 f.2.2 (fun s w' => K (pc + 3) ls s w') st w
  | .ireturn => match st with
    | [.int x] => if rz = 0 then some (some (.int x), w) else if rz = 1 then retZ x w else none
    | _ => none
  | .lreturn => match st with | [.long x] => if rz = 2 then some (some (.long x), w) else none | _ => none
  | .return_ => match st with | [] => if rz = 3 then some (none, w) else none | _ => none
  | _ => none
def okLen (ins : Instr) (len : Nat) : Bool := match ins with
  | .bipush _ | .iload _ | .lload _ | .aload _ | .istore _ | .lstore _ | .astore _ | .ldc _ | .newarray _ => len == 2
  | .sipush _ | .ldc_w _ | .ldc2_w _ | .iinc .. | .goto _ | .ifCond .. | .if_icmp .. | .getfield _ | .putfield _ | .new _ | .invokevirtual _ | .invokestatic _ | .invokespecial _ => len == 3
  | .tableswitch .. | .lookupswitch .. => true
  | _ => len == 1
def okAt (pc : Nat) (ins : Instr) (len : Nat) : Bool := okLen ins len && (match ins with
  | .ifCond _ off | .if_icmp _ off => decide (0 ≤ (pc : Int) + off)
  | _ => true)
/-- a method's code as a table; run from a place to the next cut -/
def opT (T : List (Nat × Instr)) (op : Nat → Kont → XL → List Value → XW → Instr → Option XO) (pc : Nat) (K : Kont) (ls : XL) (st : List Value) (w : XW) : Option XO := (lk T pc).bind fun i => op pc K ls st w i
def ev (T : List (Nat × Instr)) (op : Nat → Kont → XL → List Value → XW → Instr → Option XO) (cut : List Nat) (K : Kont) : Nat → Kont
  | 0 => fun _ _ _ _ => none
  | n + 1 => fun pc ls st w => opT T op pc (fun pc' ls' st' w' => bif cut.elem pc' then K pc' ls' st' w' else ev T op cut K n pc' ls' st' w') ls st w
end
section
/-! ===== the instructions stand for the machine's ===== -/
section SN
variable {p : Program} {l : Launch} {e : Env} {R : Room} {s : State} {m : MethodId} {args : Array Value} {below : List Frame} {meth : Method} {c : Code} {Q : State → Prop}
variable {D : va_G} {cA : Nat → ClassId} {base b nL : Nat} {cc : ByteArray} {w0 : XW} {o : XO}
theorem W.sized {H : Heap} {locs : List Loc} {cells slots : Nat} {g : JFrame} (k : s.heap.size ≤ H.size → H.size ≤ s.heap.size + cells → W p l e R s m args below meth c H locs cells slots Q g) : W p l e R s m args below meth c H locs cells slots Q g := by
  intro T hT X
  have h := X.same
  have h1 : (T.setVm s.vm).heap = H := hT
  exact k (by have := h.2.1; rw [h1] at this; exact this) (by have := h.2.2.1; rw [h1] at this; exact this) T hT X
/-- from a place, with locals, stack and world, the method comes to its end -/
def SND (p : Program) (l : Launch) (e : Env) (R : Room) (s : State) (m : MethodId) (args : Array Value) (below : List Frame) (meth : Method) (c : Code) (Q : State → Prop) (D : va_G) (cA : Nat → ClassId) (base b nL : Nat) (w0 : XW) (o : XO) (pc : Nat) (ls : XL) (st : List Value) (w : XW) : Prop :=
  w.length ≤ o.2.length ∧ gs w ≤ gs o.2 ∧ o.2[0]? = w[0]? ∧
  ∀ (H : Heap) (locs : List Loc) (cells slots : Nat) (LS : Array Slot), lv_has LS nL (xl base b ls) → va_P D vwCl (xw base b cA w) H → va_S (fun q => base ≤ q) s.heap H locs → w[0]? = w0[0]? → cells + w0.length = w.length → slots + gs w0 = gs w → o.2.length ≤ R.cells + w0.length → gs o.2 ≤ R.slots + gs w0 →
    W p l e R s m args below meth c H locs cells slots Q (F0 m pc LS (st.map (xv base b)))
def rOK (cc : ByteArray) (rz pc : Nat) (v : Option Value) : Prop := match v with
  | some (.int x) => decode cc pc = .ok (.ireturn, 1) ∧ (rz = 0 ∨ (rz = 1 ∧ (x = 0 ∨ x = 1)))
  | some (.long x) => decode cc pc = .ok (.lreturn, 1) ∧ rz = 2
  | none => decode cc pc = .ok (.return_, 1) ∧ rz = 3
  | _ => False
/-- what holds through a whole method -/
def ACT (p : Program) (l : Launch) (e : Env) (R : Room) (s : State) (m : MethodId) (args : Array Value) (below : List Frame) (meth : Method) (c : Code) (Q : State → Prop) (D : va_G) (cA : Nat → ClassId) (base b nL d rz : Nat) (own : String) (ini : Bool) (cc : ByteArray) (w0 : XW) (o : XO) : Prop :=
  (p.tables.exec = Jvm.exec ∧ c.code = cc ∧ c.maxLocals = nL ∧ s.vm.findClass own = some m.cls) ∧ (∀ w ∈ tblG, w.before args s = true) ∧ XR D cA base b w0 s ∧ (ini = true → meth.name = "<init>") ∧ base ≤ s.heap.size ∧ (d + 1 ≤ R.frames ∧ 100 * d + 100 ≤ R.locals) ∧
  ∀ (H : Heap) (locs : List Loc) (cells slots : Nat) (LS : Array Slot) (pc : Nat), va_P D vwCl (xw base b cA o.2) H → va_S (fun q => base ≤ q) s.heap H locs → o.2[0]? = w0[0]? → cells + w0.length = o.2.length → slots + gs w0 = gs o.2 → o.2.length ≤ R.cells + w0.length → gs o.2 ≤ R.slots + gs w0 →
    rOK cc rz pc o.1 →
    W p l e R s m args below meth c H locs cells slots Q (F0 m pc LS ((o.1.map (xv base b)).toList))
abbrev KS (p : Program) (l : Launch) (e : Env) (R : Room) (s : State) (m : MethodId) (args : Array Value) (below : List Frame) (meth : Method) (c : Code) (Q : State → Prop) (D : va_G) (cA : Nat → ClassId) (base b nL : Nat) (w0 : XW) (o : XO) (K : Kont) : Prop :=
  ∀ pc ls st w, K pc ls st w = some o → SND p l e R s m args below meth c Q D cA base b nL w0 o pc ls st w
/-- a step that leaves the world -/
theorem SND.step {pc pc' : Nat} {ls ls' : XL} {st st' : List Value} {w : XW} (h : SND p l e R s m args below meth c Q D cA base b nL w0 o pc' ls' st' w)
    (k : ∀ (H : Heap) (locs : List Loc) (cells slots : Nat) (LS : Array Slot), lv_has LS nL (xl base b ls) → va_P D vwCl (xw base b cA w) H → va_S (fun q => base ≤ q) s.heap H locs → w[0]? = w0[0]? →
      (∀ LS', lv_has LS' nL (xl base b ls') → W p l e R s m args below meth c H locs cells slots Q (F0 m pc' LS' (st'.map (xv base b)))) → W p l e R s m args below meth c H locs cells slots Q (F0 m pc LS (st.map (xv base b)))) :
    SND p l e R s m args below meth c Q D cA base b nL w0 o pc ls st w := by
  obtain ⟨h1, h2, h3, h4⟩ := h
  exact ⟨h1, h2, h3, fun H locs cells slots LS hl hP hS h0 hc hs hr1 hr2 => k H locs cells slots LS hl hP hS h0 fun LS' hl' => h4 H locs cells slots LS' hl' hP hS h0 hc hs hr1 hr2⟩
/-- a step that writes: the locals stay -/
theorem SND.put {pc pc' : Nat} {ls : XL} {st st' : List Value} {w w' : XW} (h : SND p l e R s m args below meth c Q D cA base b nL w0 o pc' ls st' w') (hl : w'.length = w.length) (hg : gs w' = gs w) (h0 : w'[0]? = w[0]?)
    (k : ∀ (H : Heap) (locs : List Loc) (cells slots : Nat) (LS : Array Slot), lv_has LS nL (xl base b ls) → va_P D vwCl (xw base b cA w) H → va_S (fun q => base ≤ q) s.heap H locs → w[0]? = w0[0]? →
      (∀ H1 locs1, va_P D vwCl (xw base b cA w') H1 → va_S (fun q => base ≤ q) s.heap H1 locs1 → W p l e R s m args below meth c H1 locs1 cells slots Q (F0 m pc' LS (st'.map (xv base b)))) → W p l e R s m args below meth c H locs cells slots Q (F0 m pc LS (st.map (xv base b)))) :
    SND p l e R s m args below meth c Q D cA base b nL w0 o pc ls st w := by
  obtain ⟨h1, h2, h3, h4⟩ := h
  exact ⟨by omega, by omega, h3.trans h0, fun H locs cells slots LS hl' hP hS hz hc hs hr1 hr2 => k H locs cells slots LS hl' hP hS hz fun H1 locs1 hP1 hS1 => h4 H1 locs1 cells slots LS hl' hP1 hS1 (h0.trans hz) (by omega) (by omega) hr1 hr2⟩
end SN
end
section
/-! ===== what a method's tables must say ===== -/
def fOK (own : String) (ini : Bool) (q : Nat × Nat × Nat × Nat) : Prop :=
  ∃ (C : String) (T : u_T) (N : Nat) (ty : Nat → FieldType) (host : String), vwCl[q.2.1]? = some (C, T, N) ∧ q.2.2.1 < N ∧ (∀ w ∈ u_ws C T N, w ∈ tblG) ∧ (∀ k, k < N → parseFieldDescriptor (T k).2.2.1 = some (ty k)) ∧
    (∀ a, a < N → ∀ b, b < N → a ≠ b → (T a).2.1 ≠ (T b).2.1) ∧ (T q.2.2.1).1 = C ∧
    ((Jvm.Cond.fieldLink own q.1 C (T q.2.2.1).2.1 (T q.2.2.1).2.2.1) ∈ tblG ∨ (Jvm.Cond.fieldLinkNest own q.1 C (T q.2.2.1).2.1 (T q.2.2.1).2.2.1 host) ∈ tblN) ∧
    (q.2.2.2 = 1 → (T q.2.2.1).2.2.2 = false ∧ ty q.2.2.1 = .int) ∧
    (q.2.2.2 = 12 → (T q.2.2.1).2.2.2 = true ∧ own = C ∧ ini = true ∧ ((∃ n, ty q.2.2.1 = .object n) ∨ ∃ t, ty q.2.2.1 = .array t) ∧ (Jvm.Cond.fieldLink own q.1 C (T q.2.2.1).2.1 (T q.2.2.1).2.2.1) ∈ tblG)
def nOK (own : String) (q : Nat × Nat × List Value) : Prop :=
  ∃ (C : String) (T : u_T) (N : Nat) (ty : Nat → FieldType), vwCl[q.2.1]? = some (C, T, N) ∧ (∀ w ∈ u_ws C T N, w ∈ tblG) ∧ (∀ k, k < N → parseFieldDescriptor (T k).2.2.1 = some (ty k)) ∧
    Jvm.Cond.classLink own q.1 C ∈ tblG ∧ Jvm.Cond.instantiable C N ∈ tblG ∧ Jvm.Cond.initialized C ∈ tblG ∧ q.2.2.length = N ∧ (∀ j, j < N → defaultValue (ty j) = vp_V q.2.2 j) ∧ (∀ v ∈ q.2.2, v = .null ∨ v = .int 0)
def pl3 (y : MethodName) (n : Nat) : Prop := y.cls ≠ "java/lang/invoke/MethodHandle" ∧ y.cls ≠ "java/lang/invoke/VarHandle" ∧ (parseMethodDescriptor y.desc).map (fun d => d.parameters.length) = some n
def vOK (l : Launch) (D : va_G) (cA : Nat → ClassId) (base b d : Nat) (own : String) (q : Nat × Nat × Nat × Orc) : Prop :=
  ∃ (y : MethodName) (bytes : ByteArray) (maxL : Nat) (ret : Option FieldType) (d' : Nat) (host : String) (ci : Nat) (T : u_T) (N n : Nat),
    CS l D cA base b d' y bytes maxL ret q.2.2.2 ∧ d' ≤ d ∧ maxL ≤ 60 ∧ q.2.1 = n + 1 ∧ (∀ as w o, q.2.2.2 as w = some o → ∃ a r, as = .ref a :: r ∧ r.length = n ∧ isO w a ci = true) ∧
    vwCl[ci]? = some (y.cls, T, N) ∧ Jvm.Cond.code y bytes maxL ret ∈ tblG ∧ Jvm.Cond.initialized y.cls ∈ tblG ∧ Jvm.Cond.instanceMethod y ∈ tblG ∧ Jvm.Cond.selects y.cls y y ∈ tblG ∧ pl3 y n ∧
    (Jvm.Cond.methodLink own q.1 y ∈ tblG ∨ Jvm.Cond.methodLinkNest own q.1 y host ∈ tblN)
def sOK (l : Launch) (D : va_G) (cA : Nat → ClassId) (base b d : Nat) (own : String) (q : Nat × Nat × Nat × Orc) : Prop :=
  (∃ (y : MethodName) (bytes : ByteArray) (maxL : Nat) (ret : Option FieldType) (d' : Nat) (host : String),
    CS l D cA base b d' y bytes maxL ret q.2.2.2 ∧ d' ≤ d ∧ maxL ≤ 60 ∧
    Jvm.Cond.code y bytes maxL ret ∈ tblG ∧ Jvm.Cond.initialized y.cls ∈ tblG ∧ Jvm.Cond.static y ∈ tblG ∧ pl3 y q.2.1 ∧
    (Jvm.Cond.methodLink own q.1 y ∈ tblG ∨ Jvm.Cond.methodLinkNest own q.1 y host ∈ tblN)) ∨
  (q.2.1 = 5 ∧ q.2.2.1 = 0 ∧ q.2.2.2 = oCopy ∧ Jvm.Cond.methodLink own q.1 arraycopyName ∈ tblG ∧ Jvm.Cond.native arraycopyName ∈ tblG ∧ Jvm.Cond.static arraycopyName ∈ tblG ∧ Jvm.Cond.initialized "java/lang/System" ∈ tblG)
def iOK (l : Launch) (D : va_G) (cA : Nat → ClassId) (base b d : Nat) (own : String) (q : Nat × Nat × Nat × Orc) : Prop :=
  (∃ (y : MethodName) (bytes : ByteArray) (maxL d' : Nat) (host : String) (n : Nat),
    CS l D cA base b d' y bytes maxL none q.2.2.2 ∧ d' ≤ d ∧ maxL ≤ 60 ∧ q.2.1 = n + 1 ∧ (∀ as w o, q.2.2.2 as w = some o → ∃ a r, as = .ref a :: r ∧ r.length = n) ∧ y.name = "<init>" ∧
    Jvm.Cond.code y bytes maxL none ∈ tblG ∧ Jvm.Cond.initialized y.cls ∈ tblG ∧ Jvm.Cond.instanceMethod y ∈ tblG ∧ pl3 y n ∧
    (Jvm.Cond.methodLink own q.1 y ∈ tblG ∨ Jvm.Cond.methodLinkNest own q.1 y host ∈ tblN)) ∨
  (q.2.1 = 1 ∧ q.2.2.1 = 0 ∧ q.2.2.2 = oInit ∧ Jvm.Cond.methodLink own q.1 objectInit ∈ tblG ∧ Jvm.Cond.instanceMethod objectInit ∈ tblG ∧ Jvm.Cond.code objectInit ⟨#[0xb1]⟩ 1 none ∈ tblG)
theorem tgo_of {pc : Nat} {off : Int} {k : Nat → Option XO} {o : XO} (h : tgo pc off k = some o) : ∃ t : Nat, (pc : Int) + off = (t : Int) ∧ k t = some o := by
  unfold tgo at h
  cases ht : (pc : Int) + off with
  | ofNat t => rw [ht] at h; exact ⟨t, rfl, h⟩
  | negSucc t => rw [ht] at h; cases h
theorem cI_of {x : Option XO} {k : Int32 → XW → Option XO} {o : XO} (h : cI x k = some o) : ∃ v w, x = some (some (.int v), w) ∧ k v w = some o := by
  unfold cI at h
  split at h
  next v w => exact ⟨v, w, rfl, h⟩
  next => cases h
theorem cL_of {x : Option XO} {k : Int64 → XW → Option XO} {o : XO} (h : cL x k = some o) : ∃ v w, x = some (some (.long v), w) ∧ k v w = some o := by
  unfold cL at h
  split at h
  next v w => exact ⟨v, w, rfl, h⟩
  next => cases h
theorem cV_of {x : Option XO} {k : XW → Option XO} {o : XO} (h : cV x k = some o) : ∃ w, x = some (none, w) ∧ k w = some o := by
  unfold cV at h
  split at h
  next w => exact ⟨w, rfl, h⟩
  next => cases h
section ST
variable {p : Program} {l : Launch} {e : Env} {R : Room} {s : State} {m : MethodId} {args : Array Value} {below : List Frame} {meth : Method} {c : Code} {Q : State → Prop}
variable {D : va_G} {cA : Nat → ClassId} {base b nL d rz : Nat} {own : String} {ini : Bool} {cc : ByteArray} {w0 : XW} {o : XO}
/-- behind a call -/
theorem SND.call {pc : Nat} {ls : XL} {st rest : List Value} {as : List Value} {w : XW} {v : Option Value} {w' : XW} {F : Orc} {d' maxL : Nat} {y : MethodName} {bytes : ByteArray} {ret : Option FieldType}
    (A : ACT p l e R s m args below meth c Q D cA base b nL d rz own ini cc w0 o) (hC : CS l D cA base b d' y bytes maxL ret F) (hF : F as w = some (v, w'))
    (h : SND p l e R s m args below meth c Q D cA base b nL w0 o (pc + 3) ls (v.toList ++ rest) w')
    (k : ∀ (H : Heap) (locs : List Loc) (cells slots mc ms : Nat) (LS : Array Slot), lv_has LS nL (xl base b ls) → va_P D vwCl (xw base b cA w) H → (∀ U : State, U.heap = H → s.WarmedH U.vm → XR D cA base b w U) →
      cells + mc ≤ R.cells → slots + ms ≤ R.slots →
      Met l y (.code y bytes maxL ret :: tblG) { frames := d', cells := mc, slots := ms, locals := 100 * d' } (va_Pc (as.map (xv base b)) (XR D cA base b w)) (QX D cA base b (v, w')) mc ms (fun q => base ≤ q) →
      va_Run p l e R s m args below meth c H locs cells slots mc ms (F0 m pc LS (st.map (xv base b))) (rest.map (xv base b)) (QX D cA base b (v, w') (as.map (xv base b)).toArray) (fun q => base ≤ q)) :
    SND p l e R s m args below meth c Q D cA base b nL w0 o pc ls st w := by
  obtain ⟨h1, h2, h3, h4⟩ := h
  obtain ⟨c1, c2, c3, c4⟩ := hC as w _ hF
  refine ⟨Nat.le_trans c1 h1, Nat.le_trans c2 h2, h3.trans c3, fun H locs cells slots LS hl hP hS hz hc hs hr1 hr2 => ?_⟩
  obtain ⟨⟨hx, hb, hml, hown⟩, hts, ⟨-, hK, ⟨xs, hx0, hX⟩, hN, hsz, hbb⟩, hini, hbase, hroom, -⟩ := A
  refine W.sized fun z1 z2 => ?_
  have hw0 : 0 < w0.length := (List.getElem?_eq_some_iff.mp hx0).1
  have hwl : 0 < w.length := by omega
  have hXH : va_X b xs.length (fun j => xs.getD j 0) s H := hX.kept (hS.2.1 b (by omega) (by omega))
  have hsize : H.size + 1 = base + w.length := by
    have := xw_size hP (by omega) hwl
    omega
  have hXR : ∀ U : State, U.heap = H → s.WarmedH U.vm → XR D cA base b w U := fun U hU hW => by
    refine ⟨by rw [hU]; exact hP, va_K.moved hW.alike hK, ⟨xs, hz.trans hx0, ?_⟩, fun n hn => tblN_warm hW hn (hN n hn), by rw [hU]; exact hsize, hbb⟩
    rw [hU]
    exact va_X.moved hW.alike hXH
  have c1 : w.length ≤ w'.length := c1
  have c2 : gs w ≤ gs w' := c2
  have h1 : w'.length ≤ o.2.length := h1
  have h2 : gs w' ≤ gs o.2 := h2
  obtain ⟨mc, hmc⟩ : ∃ mc, w'.length = mc + w.length := ⟨w'.length - w.length, by omega⟩
  obtain ⟨ms, hms⟩ : ∃ ms, gs w' = ms + gs w := ⟨gs w' - gs w, by omega⟩
  have hrun := k H locs cells slots mc ms LS hl hP hXR (by omega) (by omega) (c4 mc ms hmc hms)
  intro T hT X
  obtain ⟨v2, st₀, t, T', L, g0, X', hL, e1, e2, ⟨q1, q2, q3⟩, stp⟩ := hrun T hT X
  have hv2 : v2 = v.map (xv base b) := by cases q1; rfl
  subst hv2
  have hH : va_P D vwCl (xw base b cA w') T'.heap := by rw [e1]; exact q2.1
  have hS' : va_S (fun q => base ≤ q) s.heap T'.heap (locs ++ L) := by
    refine ⟨by rw [e1]; exact Nat.le_trans hS.1 (by rw [← g0]; exact q3.1), fun q g1 g2 => ?_, fun q hq => ?_⟩
    · rw [e1, q3.2 q (by rw [g0]; exact Nat.lt_of_lt_of_le g1 hS.1) g2, g0]
      exact hS.2.1 q g1 g2
    · rcases List.mem_append.mp hq with h | h
      · exact hS.2.2 q h
      · exact hL q h
  obtain ⟨t2, a1, b1⟩ := h4 T'.heap (locs ++ L) (cells + mc) (slots + ms) LS hl hH hS' (c3.trans hz) (by omega) (by omega) hr1 hr2 T' rfl X'
  refine ⟨t2, stp t2 ?_, b1⟩
  have : (v.toList ++ rest).map (xv base b) = (v.map (xv base b)).toList ++ rest.map (xv base b) := by cases v <;> rfl
  rw [this] at a1
  exact a1
end ST
end
section
section IN
variable {p : Program} {l : Launch} {e : Env} {R : Room} {s : State} {m : MethodId} {args : Array Value} {below : List Frame} {meth : Method} {c : Code} {Q : State → Prop}
variable {D : va_G} {cA : Nat → ClassId} {base b nL d rz : Nat} {own : String} {ini : Bool} {cc : ByteArray} {w0 : XW} {o : XO}
theorem bin_of {f : Int32 → Int32 → Int32} {k : List Value → Option XO} {st : List Value} {o : XO} (h : bin f k st = some o) : ∃ x y r, st = .int y :: .int x :: r ∧ k (.int (f x y) :: r) = some o := by
  unfold bin at h
  split at h
  next y x r => exact ⟨x, y, r, rfl, h⟩
  next => cases h
theorem un_of {f : Int32 → Int32} {k : List Value → Option XO} {st : List Value} {o : XO} (h : un f k st = some o) : ∃ x r, st = .int x :: r ∧ k (.int (f x) :: r) = some o := by
  unfold un at h
  split at h
  next x r => exact ⟨x, r, rfl, h⟩
  next => cases h
theorem some_of {α : Type} {x : Option α} {k : α → Option XO} {o : XO} (h : x.bind k = some o) : ∃ v, x = some v ∧ k v = some o := by
  cases x with
  | none => cases h
  | some v => exact ⟨v, rfl, h⟩
theorem gF_of {w : XW} {o ci k : Nat} {v : Value} (h : gF w o ci k = some v) : ∃ fs, w[o]? = some (.inl (ci, fs)) ∧ fs[k]? = some v := by
  unfold gF at h
  split at h
  next c fs hc =>
    split at h
    next hh => subst hh; exact ⟨fs, hc, h⟩
    next => cases h
  next => cases h
theorem gI_of {w : XW} {o ci k : Nat} {x : Int32} (h : gI w o ci k = some x) : ∃ fs, w[o]? = some (.inl (ci, fs)) ∧ fs[k]? = some (.int x) := by
  unfold gI at h
  split at h
  next y hy => cases h; exact gF_of hy
  next => cases h
theorem gR_of {w : XW} {o ci k : Nat} {x : Nat} (h : gR w o ci k = some x) : ∃ fs, w[o]? = some (.inl (ci, fs)) ∧ fs[k]? = some (.ref x) := by
  unfold gR at h
  split at h
  next y hy => cases h; exact gF_of hy
  next => cases h
theorem pF_of {w : XW} {o ci k : Nat} {v : Value} {w' : XW} (h : pF w o ci k v = some w') : ∃ fs o', w[o]? = some (.inl (ci, fs)) ∧ k < fs.length ∧ o = o' + 1 ∧ w' = w.set (o' + 1) (.inl (ci, fs.set k v)) := by
  unfold pF at h
  split at h
  next c fs hc =>
    split at h
    next hh =>
      obtain ⟨rfl, h2, h3⟩ := hh
      cases h
      obtain ⟨o', rfl⟩ : ∃ o', o = o' + 1 := ⟨o - 1, by omega⟩
      exact ⟨fs, o', hc, h2, rfl, rfl⟩
    next => cases h
  next => cases h
theorem aI_of {w : XW} {o : Nat} {i x : Int32} (h : aI w o i = some x) : ∃ t xs, w[o]? = some (.inr (t, xs)) ∧ (t = 0 ∨ o = 0) ∧ vp_in i xs.length ∧ xs.getD i.toNatClampNeg 0 = x := by
  unfold aI at h
  split at h
  next t xs hc =>
    split at h
    next hh =>
      refine ⟨t, xs, hc, hh.1, ?_, ?_⟩
      · rintro (q | q)
        · exact absurd hh.2 (Int32.not_le.mpr q)
        · have := (List.getElem?_eq_some_iff.mp h).1; omega
      · rw [List.getD_eq_getElem?_getD, h]; rfl
    next => cases h
  next => cases h
theorem aZ_of {w : XW} {o : Nat} {i x : Int32} (h : aZ w o i = some x) : ∃ xs o', o = o' + 1 ∧ w[o]? = some (.inr (1, xs)) ∧ vp_in i xs.length ∧ xs.getD i.toNatClampNeg 0 = x := by
  unfold aZ at h
  split at h
  next t xs hc =>
    split at h
    next hh =>
      obtain ⟨rfl, h2, h3⟩ := hh
      refine ⟨xs, o - 1, by omega, hc, ?_, ?_⟩
      · rintro (q | q)
        · exact absurd h3 (Int32.not_le.mpr q)
        · have := (List.getElem?_eq_some_iff.mp h).1; omega
      · rw [List.getD_eq_getElem?_getD, h]; rfl
    next => cases h
  next => cases h
theorem sI_of {w : XW} {o : Nat} {i x : Int32} {w' : XW} (h : sI w o i x = some w') : ∃ xs o', o = o' + 1 ∧ w[o]? = some (.inr (0, xs)) ∧ vp_in i xs.length ∧ w' = w.set (o' + 1) (.inr (0, xs.set i.toNatClampNeg x)) := by
  unfold sI at h
  split at h
  next t xs hc =>
    split at h
    next hh =>
      obtain ⟨rfl, h2, h3, h4⟩ := hh
      cases h
      obtain ⟨o', rfl⟩ : ∃ o', o = o' + 1 := ⟨o - 1, by omega⟩
      refine ⟨xs, o', rfl, hc, ?_, rfl⟩
      rintro (q | q)
      · exact absurd h3 (Int32.not_le.mpr q)
      · omega
    next => cases h
  next => cases h
theorem sZ_of {w : XW} {o : Nat} {i x : Int32} {w' : XW} (h : sZ w o i x = some w') : ∃ xs o', o = o' + 1 ∧ w[o]? = some (.inr (1, xs)) ∧ vp_in i xs.length ∧ w' = w.set (o' + 1) (.inr (1, xs.set i.toNatClampNeg (x &&& 1))) := by
  unfold sZ at h
  split at h
  next t xs hc =>
    split at h
    next hh =>
      obtain ⟨rfl, h2, h3, h4⟩ := hh
      cases h
      obtain ⟨o', rfl⟩ : ∃ o', o = o' + 1 := ⟨o - 1, by omega⟩
      refine ⟨xs, o', rfl, hc, ?_, rfl⟩
      rintro (q | q)
      · exact absurd h3 (Int32.not_le.mpr q)
      · omega
    next => cases h
  next => cases h
theorem getD_set {xs : List Int32} {k : Nat} (h : k < xs.length) (x : Int32) : (fun j => (xs.set k x).getD j 0) = upd (fun j => xs.getD j 0) k x := by
  funext j
  simp only [upd, List.getD_eq_getElem?_getD, List.getElem?_set]
  by_cases hj : k = j
  · subst hj
    simp [h]
  · have hj' : ¬ j = k := fun q => hj q.symm
    simp [hj, hj']
theorem swi_of {pc : Nat} {d : Int} {x : Int32} {k : Nat → Option XO} {o : XO} : ∀ (ps : List (Int × Int)), (∀ q ∈ ps, -2147483648 ≤ q.1 ∧ q.1 < 2147483648) → swi pc d x k ps = some o → ∃ t : Nat, (pc : Int) + Op.lookupswitch.offset ps d x.toInt = (t : Int) ∧ k t = some o := by
  intro ps
  induction ps with
  | nil => intro _ h; exact tgo_of h
  | cons q r ih =>
    obtain ⟨a, f⟩ := q
    intro hb h
    have ha := hb (a, f) List.mem_cons_self
    have ht : (Int32.ofInt a).toInt = a := Int32.toInt_ofInt_of_le (by have := ha.1; simpa using this) (by have := ha.2; simpa using this)
    unfold swi at h
    rw [Op.lookupswitch.offset_cons]
    by_cases hx : x = Int32.ofInt a
    · rw [if_pos hx] at h
      rw [if_pos (by rw [hx, ht])]
      exact tgo_of h
    · rw [if_neg hx] at h
      rw [if_neg (fun z => hx (Int32.toInt_inj.mp (by rw [ht]; exact z.symm)))]
      exact ih (fun q hq => hb q (List.mem_cons_of_mem _ hq)) h
end IN
end
section
section OK
variable {p : Program} {l : Launch} {e : Env} {R : Room} {s : State} {m : MethodId} {args : Array Value} {below : List Frame} {meth : Method} {c : Code} {Q : State → Prop}
variable {D : va_G} {cA : Nat → ClassId} {base b nL d rz : Nat} {own : String} {ini : Bool} {cc : ByteArray} {w0 : XW} {o : XO}
set_option maxHeartbeats 4000000 in
theorem opK_plain {fl : List (Nat × Nat × Nat × Nat)} {nl : List (Nat × Nat × List Value)} {kl : List (Nat × Int32)} {k2 : List (Nat × Int64)} {mv ms mi : List (Nat × Nat × Nat × Orc)}
    (hkl : ∀ q ∈ kl, Jvm.Cond.constant own q.1 q.2 ∈ tblG) (hk2 : ∀ q ∈ k2, Jvm.Cond.constantLong own q.1 q.2 ∈ tblG)
    (A : ACT p l e R s m args below meth c Q D cA base b nL d rz own ini cc w0 o) {K : Kont} (hK : KS p l e R s m args below meth c Q D cA base b nL w0 o K)
    {pc : Nat} {ins : Instr} {len : Nat} (hdg : decode cc pc = .ok (ins, len)) (hat : okAt pc ins len = true) {ls : XL} {st : List Value} {w : XW}
    (hn : match ins with | .getfield _ | .putfield _ | .iaload | .baload | .iastore | .bastore | .arraylength | .newarray _ | .new _ | .invokevirtual _ | .invokestatic _ | .invokespecial _ | .ireturn | .lreturn | .return_ | .tableswitch .. | .lookupswitch .. => False | _ => True)
    (h : opK nL rz fl nl kl k2 mv ms mi pc K ls st w ins = some o) : SND p l e R s m args below meth c Q D cA base b nL w0 o pc ls st w := by
  obtain ⟨⟨hx, hb, hml, hown⟩, hts, -⟩ := A
  cases ins <;> first | exact hn.elim | (simp only [opK] at h; cases h; done) | skip
  case iconst n =>
    obtain rfl : len = 1 := by simpa [okLen] using (Bool.and_eq_true_iff.mp hat).1
    exact (hK _ _ _ _ h).step fun H locs cells slots LS hl hP hS h0 k => lv_iconst hx hb hdg rfl (k LS hl)
  case bipush n =>
    obtain rfl : len = 2 := by simpa [okLen] using (Bool.and_eq_true_iff.mp hat).1
    exact (hK _ _ _ _ h).step fun H locs cells slots LS hl hP hS h0 k => lv_bipush hx hb hdg rfl (k LS hl)
  case sipush n =>
    obtain rfl : len = 3 := by simpa [okLen] using (Bool.and_eq_true_iff.mp hat).1
    exact (hK _ _ _ _ h).step fun H locs cells slots LS hl hP hS h0 k => lv_sipush hx hb hdg rfl (k LS hl)
  case lconst n =>
    obtain rfl : len = 1 := by simpa [okLen] using (Bool.and_eq_true_iff.mp hat).1
    exact (hK _ _ _ _ h).step fun H locs cells slots LS hl hP hS h0 k => lv_lconst hx hb hdg rfl (k LS hl)
  case ldc i =>
    obtain rfl : len = 2 := by simpa [okLen] using (Bool.and_eq_true_iff.mp hat).1
    obtain ⟨v, hv, h⟩ := some_of h
    exact (hK _ _ _ _ h).step fun H locs cells slots LS hl hP hS h0 k => lv_ldc hx hb hown (hts _ (hkl _ (lk_mem hv))) hdg (k LS hl)
  case ldc_w i =>
    obtain rfl : len = 3 := by simpa [okLen] using (Bool.and_eq_true_iff.mp hat).1
    obtain ⟨v, hv, h⟩ := some_of h
    exact (hK _ _ _ _ h).step fun H locs cells slots LS hl hP hS h0 k => lv_ldcw hx hb hown (hts _ (hkl _ (lk_mem hv))) hdg (k LS hl)
  case ldc2_w i =>
    obtain rfl : len = 3 := by simpa [okLen] using (Bool.and_eq_true_iff.mp hat).1
    obtain ⟨v, hv, h⟩ := some_of h
    exact (hK _ _ _ _ h).step fun H locs cells slots LS hl hP hS h0 k => lv_ldc2 hx hb hown (hts _ (hk2 _ (lk_mem hv))) hdg (k LS hl)
  case iload_n n =>
    obtain rfl : len = 1 := by simpa [okLen] using (Bool.and_eq_true_iff.mp hat).1
    simp only [opK] at h
    split at h
    next x hx2 => exact (hK _ _ _ _ h).step fun H locs cells slots LS hl hP hS h0 k => lv_iload_n hx hb hdg rfl (xL_at hl hx2) (k LS hl)
    next => cases h
  case iload n =>
    obtain rfl : len = 2 := by simpa [okLen] using (Bool.and_eq_true_iff.mp hat).1
    simp only [opK] at h
    split at h
    next x hx2 => exact (hK _ _ _ _ h).step fun H locs cells slots LS hl hP hS h0 k => lv_iload hx hb hdg (xL_at hl hx2) (k LS hl)
    next => cases h
  case lload_n n =>
    obtain rfl : len = 1 := by simpa [okLen] using (Bool.and_eq_true_iff.mp hat).1
    simp only [opK] at h
    split at h
    next x hx2 => exact (hK _ _ _ _ h).step fun H locs cells slots LS hl hP hS h0 k => lv_lload_n hx hb hdg rfl (xL_at hl hx2) (k LS hl)
    next => cases h
  case lload n =>
    obtain rfl : len = 2 := by simpa [okLen] using (Bool.and_eq_true_iff.mp hat).1
    simp only [opK] at h
    split at h
    next x hx2 => exact (hK _ _ _ _ h).step fun H locs cells slots LS hl hP hS h0 k => lv_lload hx hb hdg (xL_at hl hx2) (k LS hl)
    next => cases h
  case aload_n n =>
    obtain rfl : len = 1 := by simpa [okLen] using (Bool.and_eq_true_iff.mp hat).1
    simp only [opK] at h
    split at h
    next x hx2 => exact (hK _ _ _ _ h).step fun H locs cells slots LS hl hP hS h0 k => lv_aload_n hx hb hdg rfl (xL_at hl hx2) (k LS hl)
    next => cases h
  case aload n =>
    obtain rfl : len = 2 := by simpa [okLen] using (Bool.and_eq_true_iff.mp hat).1
    simp only [opK] at h
    split at h
    next x hx2 => exact (hK _ _ _ _ h).step fun H locs cells slots LS hl hP hS h0 k => lv_aload hx hb hdg (xL_at hl hx2) (k LS hl)
    next => cases h
  case istore_n n =>
    obtain rfl : len = 1 := by simpa [okLen] using (Bool.and_eq_true_iff.mp hat).1
    simp only [opK] at h
    split at h
    next x r =>
      split at h
      next hn2 => exact (hK _ _ _ _ h).step fun H locs cells slots LS hl hP hS h0 k => lv_istore_n hx hb hdg rfl hl hn2 (xst_map base b ls _ (.int x)) (fun ls' hl' => k ls' hl')
      next => cases h
    next => cases h
  case istore n =>
    obtain rfl : len = 2 := by simpa [okLen] using (Bool.and_eq_true_iff.mp hat).1
    simp only [opK] at h
    split at h
    next x r =>
      split at h
      next hn2 => exact (hK _ _ _ _ h).step fun H locs cells slots LS hl hP hS h0 k => lv_istore hx hb hdg hl hn2 (xst_map base b ls _ (.int x)) (fun ls' hl' => k ls' hl')
      next => cases h
    next => cases h
  case lstore_n n =>
    obtain rfl : len = 1 := by simpa [okLen] using (Bool.and_eq_true_iff.mp hat).1
    simp only [opK] at h
    split at h
    next x r =>
      split at h
      next hn2 => exact (hK _ _ _ _ h).step fun H locs cells slots LS hl hP hS h0 k => lv_lstore_n hx hb hdg rfl hl hn2 (xst2_map base b ls _ (.long x)) (fun ls' hl' => k ls' hl')
      next => cases h
    next => cases h
  case lstore n =>
    obtain rfl : len = 2 := by simpa [okLen] using (Bool.and_eq_true_iff.mp hat).1
    simp only [opK] at h
    split at h
    next x r =>
      split at h
      next hn2 => exact (hK _ _ _ _ h).step fun H locs cells slots LS hl hP hS h0 k => lv_lstore hx hb hdg hl hn2 (xst2_map base b ls _ (.long x)) (fun ls' hl' => k ls' hl')
      next => cases h
    next => cases h
  case astore_n n =>
    obtain rfl : len = 1 := by simpa [okLen] using (Bool.and_eq_true_iff.mp hat).1
    simp only [opK] at h
    split at h
    next x r =>
      split at h
      next hn2 => exact (hK _ _ _ _ h).step fun H locs cells slots LS hl hP hS h0 k => lv_astore_n hx hb hdg rfl hl hn2 (xst_map base b ls _ (.ref x)) (fun ls' hl' => k ls' hl')
      next => cases h
    next => cases h
  case astore n =>
    obtain rfl : len = 2 := by simpa [okLen] using (Bool.and_eq_true_iff.mp hat).1
    simp only [opK] at h
    split at h
    next x r =>
      split at h
      next hn2 => exact (hK _ _ _ _ h).step fun H locs cells slots LS hl hP hS h0 k => lv_astore hx hb hdg hl hn2 (xst_map base b ls _ (.ref x)) (fun ls' hl' => k ls' hl')
      next => cases h
    next => cases h
  case iinc n v =>
    obtain rfl : len = 3 := by simpa [okLen] using (Bool.and_eq_true_iff.mp hat).1
    simp only [opK] at h
    split at h
    next x hx2 =>
      split at h
      next hn2 =>
        exact (hK _ _ _ _ h).step fun H locs cells slots LS hl hP hS h0 k => by
          obtain ⟨q, hq⟩ := xL_place (base := base) (b := b) hx2
          exact lv_iinc hx hb hdg hl hq rfl hn2 (xst_map base b ls _ (.int (x + Int32.ofInt v))) (fun ls' hl' => k ls' hl')
      next => cases h
    next => cases h
  case iadd =>
    obtain rfl : len = 1 := by simpa [okLen] using (Bool.and_eq_true_iff.mp hat).1
    simp only [opK] at h
    obtain ⟨x, y, r, rfl, h⟩ := bin_of h
    exact (hK _ _ _ _ h).step fun H locs cells slots LS hl hP hS h0 k => lv_iadd hx hb hdg (k LS hl)
  case isub =>
    obtain rfl : len = 1 := by simpa [okLen] using (Bool.and_eq_true_iff.mp hat).1
    simp only [opK] at h
    obtain ⟨x, y, r, rfl, h⟩ := bin_of h
    exact (hK _ _ _ _ h).step fun H locs cells slots LS hl hP hS h0 k => lv_isub hx hb hdg (k LS hl)
  case imul =>
    obtain rfl : len = 1 := by simpa [okLen] using (Bool.and_eq_true_iff.mp hat).1
    simp only [opK] at h
    obtain ⟨x, y, r, rfl, h⟩ := bin_of h
    exact (hK _ _ _ _ h).step fun H locs cells slots LS hl hP hS h0 k => lv_imul hx hb hdg (k LS hl)
  case iand =>
    obtain rfl : len = 1 := by simpa [okLen] using (Bool.and_eq_true_iff.mp hat).1
    simp only [opK] at h
    obtain ⟨x, y, r, rfl, h⟩ := bin_of h
    exact (hK _ _ _ _ h).step fun H locs cells slots LS hl hP hS h0 k => lv_iand hx hb hdg (k LS hl)
  case ior =>
    obtain rfl : len = 1 := by simpa [okLen] using (Bool.and_eq_true_iff.mp hat).1
    simp only [opK] at h
    obtain ⟨x, y, r, rfl, h⟩ := bin_of h
    exact (hK _ _ _ _ h).step fun H locs cells slots LS hl hP hS h0 k => lv_ior hx hb hdg (k LS hl)
  case ixor =>
    obtain rfl : len = 1 := by simpa [okLen] using (Bool.and_eq_true_iff.mp hat).1
    simp only [opK] at h
    obtain ⟨x, y, r, rfl, h⟩ := bin_of h
    exact (hK _ _ _ _ h).step fun H locs cells slots LS hl hP hS h0 k => lv_ixor hx hb hdg (k LS hl)
  case ishl =>
    obtain rfl : len = 1 := by simpa [okLen] using (Bool.and_eq_true_iff.mp hat).1
    simp only [opK] at h
    obtain ⟨x, y, r, rfl, h⟩ := bin_of h
    exact (hK _ _ _ _ h).step fun H locs cells slots LS hl hP hS h0 k => lv_ishl hx hb hdg (k LS hl)
  case ishr =>
    obtain rfl : len = 1 := by simpa [okLen] using (Bool.and_eq_true_iff.mp hat).1
    simp only [opK] at h
    obtain ⟨x, y, r, rfl, h⟩ := bin_of h
    exact (hK _ _ _ _ h).step fun H locs cells slots LS hl hP hS h0 k => lv_ishr hx hb hdg (k LS hl)
  case iushr =>
    obtain rfl : len = 1 := by simpa [okLen] using (Bool.and_eq_true_iff.mp hat).1
    simp only [opK] at h
    obtain ⟨x, y, r, rfl, h⟩ := bin_of h
    exact (hK _ _ _ _ h).step fun H locs cells slots LS hl hP hS h0 k => lv_iushr hx hb hdg rfl (k LS hl)
  case ineg =>
    obtain rfl : len = 1 := by simpa [okLen] using (Bool.and_eq_true_iff.mp hat).1
    simp only [opK] at h
    obtain ⟨x, r, rfl, h⟩ := un_of h
    exact (hK _ _ _ _ h).step fun H locs cells slots LS hl hP hS h0 k => lv_ineg hx hb hdg (k LS hl)
  case i2b =>
    obtain rfl : len = 1 := by simpa [okLen] using (Bool.and_eq_true_iff.mp hat).1
    simp only [opK] at h
    obtain ⟨x, r, rfl, h⟩ := un_of h
    exact (hK _ _ _ _ h).step fun H locs cells slots LS hl hP hS h0 k => lv_i2b hx hb hdg rfl (k LS hl)
  case i2s =>
    obtain rfl : len = 1 := by simpa [okLen] using (Bool.and_eq_true_iff.mp hat).1
    simp only [opK] at h
    obtain ⟨x, r, rfl, h⟩ := un_of h
    exact (hK _ _ _ _ h).step fun H locs cells slots LS hl hP hS h0 k => lv_i2s hx hb hdg rfl (k LS hl)
  case idiv =>
    obtain rfl : len = 1 := by simpa [okLen] using (Bool.and_eq_true_iff.mp hat).1
    simp only [opK] at h
    split at h
    next y x r =>
      split at h
      next => cases h
      next hne => exact (hK _ _ _ _ h).step fun H locs cells slots LS hl hP hS h0 k => lv_idiv hx hb hdg hne (k LS hl)
    next => cases h
  case irem =>
    obtain rfl : len = 1 := by simpa [okLen] using (Bool.and_eq_true_iff.mp hat).1
    simp only [opK] at h
    split at h
    next y x r =>
      split at h
      next => cases h
      next hne => exact (hK _ _ _ _ h).step fun H locs cells slots LS hl hP hS h0 k => lv_irem hx hb hdg hne (k LS hl)
    next => cases h
  case ldiv =>
    obtain rfl : len = 1 := by simpa [okLen] using (Bool.and_eq_true_iff.mp hat).1
    simp only [opK] at h
    split at h
    next y x r =>
      split at h
      next => cases h
      next hne => exact (hK _ _ _ _ h).step fun H locs cells slots LS hl hP hS h0 k => lv_ldiv hx hb hdg hne (k LS hl)
    next => cases h
  case lrem =>
    obtain rfl : len = 1 := by simpa [okLen] using (Bool.and_eq_true_iff.mp hat).1
    simp only [opK] at h
    split at h
    next y x r =>
      split at h
      next => cases h
      next hne => exact (hK _ _ _ _ h).step fun H locs cells slots LS hl hP hS h0 k => lv_lrem hx hb hdg hne (k LS hl)
    next => cases h
  case i2l =>
    obtain rfl : len = 1 := by simpa [okLen] using (Bool.and_eq_true_iff.mp hat).1
    simp only [opK] at h
    split at h
    next x r => exact (hK _ _ _ _ h).step fun H locs cells slots LS hl hP hS h0 k => lv_i2l hx hb hdg rfl (k LS hl)
    next => cases h
  case lcmp =>
    obtain rfl : len = 1 := by simpa [okLen] using (Bool.and_eq_true_iff.mp hat).1
    simp only [opK] at h
    split at h
    next y x r => exact (hK _ _ _ _ h).step fun H locs cells slots LS hl hP hS h0 k => W.lcmp hx hb hdg (k LS hl)
    next => cases h
  case dup =>
    obtain rfl : len = 1 := by simpa [okLen] using (Bool.and_eq_true_iff.mp hat).1
    simp only [opK] at h
    split at h
    next v r =>
      split at h
      next hc => exact (hK _ _ _ _ h).step fun H locs cells slots LS hl hP hS h0 k => lv_dup hx hb hdg (by rw [xv_cat]; exact hc) (k LS hl)
      next => cases h
    next => cases h
  case pop =>
    obtain rfl : len = 1 := by simpa [okLen] using (Bool.and_eq_true_iff.mp hat).1
    simp only [opK] at h
    split at h
    next v r =>
      split at h
      next hc => exact (hK _ _ _ _ h).step fun H locs cells slots LS hl hP hS h0 k => lv_pop hx hb hdg (by rw [xv_cat]; exact hc) (k LS hl)
      next => cases h
    next => cases h
  case dup2 =>
    obtain rfl : len = 1 := by simpa [okLen] using (Bool.and_eq_true_iff.mp hat).1
    simp only [opK] at h
    split at h
    next v u r =>
      split at h
      next hc => exact (hK _ _ _ _ h).step fun H locs cells slots LS hl hP hS h0 k => lv_dup2_11 hx hb hdg (by rw [xv_cat]; exact hc.1) (by rw [xv_cat]; exact hc.2) (k LS hl)
      next => cases h
    next => cases h
  case goto off =>
    obtain rfl : len = 3 := by simpa [okLen] using (Bool.and_eq_true_iff.mp hat).1
    obtain ⟨t, ht, h⟩ := tgo_of h
    exact (hK _ _ _ _ h).step fun H locs cells slots LS hl hP hS h0 k => lv_goto hx hb hdg ht (k LS hl)
  case ifCond cnd off =>
    obtain rfl : len = 3 := by simpa [okLen] using (Bool.and_eq_true_iff.mp hat).1
    simp only [opK] at h
    split at h
    next x r =>
      cases cnd <;> simp only at h <;> split at h
      next hc =>
        obtain ⟨t, ht, h⟩ := tgo_of h
        exact (hK _ _ _ _ h).step fun H locs cells slots LS hl hP hS h0 k => lv_if_eq hx hb hdg ht (fun _ => k LS hl) (fun hf => absurd (hc) hf)
      next hc =>
        exact (hK _ _ _ _ h).step fun H locs cells slots LS hl hP hS h0 k => lv_if_eq hx hb hdg (tgt := ((pc : Int) + off).toNat) (Int.toNat_of_nonneg (by simpa [okAt] using (Bool.and_eq_true_iff.mp hat).2)).symm (fun hf => absurd hf hc) (fun _ => k LS hl)
      next hc =>
        exact (hK _ _ _ _ h).step fun H locs cells slots LS hl hP hS h0 k => lv_if_ne hx hb hdg (tgt := ((pc : Int) + off).toNat) (Int.toNat_of_nonneg (by simpa [okAt] using (Bool.and_eq_true_iff.mp hat).2)).symm (fun hf => absurd hc hf) (fun _ => k LS hl)
      next hc =>
        obtain ⟨t, ht, h⟩ := tgo_of h
        exact (hK _ _ _ _ h).step fun H locs cells slots LS hl hP hS h0 k => lv_if_ne hx hb hdg ht (fun _ => k LS hl) (fun hf => absurd hf hc)
      next hc =>
        obtain ⟨t, ht, h⟩ := tgo_of h
        exact (hK _ _ _ _ h).step fun H locs cells slots LS hl hP hS h0 k => lv_if_lt hx hb hdg ht (fun _ => k LS hl) (fun hf => absurd (hc) hf)
      next hc =>
        exact (hK _ _ _ _ h).step fun H locs cells slots LS hl hP hS h0 k => lv_if_lt hx hb hdg (tgt := ((pc : Int) + off).toNat) (Int.toNat_of_nonneg (by simpa [okAt] using (Bool.and_eq_true_iff.mp hat).2)).symm (fun hf => absurd hf hc) (fun _ => k LS hl)
      next hc =>
        exact (hK _ _ _ _ h).step fun H locs cells slots LS hl hP hS h0 k => lv_if_ge hx hb hdg (tgt := ((pc : Int) + off).toNat) (Int.toNat_of_nonneg (by simpa [okAt] using (Bool.and_eq_true_iff.mp hat).2)).symm (fun hf => absurd hf (Int32.not_le.mpr hc)) (fun _ => k LS hl)
      next hc =>
        obtain ⟨t, ht, h⟩ := tgo_of h
        exact (hK _ _ _ _ h).step fun H locs cells slots LS hl hP hS h0 k => lv_if_ge hx hb hdg ht (fun _ => k LS hl) (fun hf => absurd (Int32.not_lt.mp hc) hf)
      next hc =>
        obtain ⟨t, ht, h⟩ := tgo_of h
        exact (hK _ _ _ _ h).step fun H locs cells slots LS hl hP hS h0 k => lv_if_gt hx hb hdg ht (fun _ => k LS hl) (fun hf => absurd (hc) hf)
      next hc =>
        exact (hK _ _ _ _ h).step fun H locs cells slots LS hl hP hS h0 k => lv_if_gt hx hb hdg (tgt := ((pc : Int) + off).toNat) (Int.toNat_of_nonneg (by simpa [okAt] using (Bool.and_eq_true_iff.mp hat).2)).symm (fun hf => absurd hf hc) (fun _ => k LS hl)
      next hc =>
        exact (hK _ _ _ _ h).step fun H locs cells slots LS hl hP hS h0 k => lv_if_le hx hb hdg (tgt := ((pc : Int) + off).toNat) (Int.toNat_of_nonneg (by simpa [okAt] using (Bool.and_eq_true_iff.mp hat).2)).symm (fun hf => absurd hf (Int32.not_le.mpr hc)) (fun _ => k LS hl)
      next hc =>
        obtain ⟨t, ht, h⟩ := tgo_of h
        exact (hK _ _ _ _ h).step fun H locs cells slots LS hl hP hS h0 k => lv_if_le hx hb hdg ht (fun _ => k LS hl) (fun hf => absurd (Int32.not_lt.mp hc) hf)
    next => cases h
  case if_icmp cnd off =>
    obtain rfl : len = 3 := by simpa [okLen] using (Bool.and_eq_true_iff.mp hat).1
    simp only [opK] at h
    split at h
    next y x r =>
      cases cnd <;> simp only at h <;> split at h
      next hc =>
        obtain ⟨t, ht, h⟩ := tgo_of h
        exact (hK _ _ _ _ h).step fun H locs cells slots LS hl hP hS h0 k => lv_icmp_eq hx hb hdg ht (fun _ => k LS hl) (fun hf => absurd (hc) hf)
      next hc =>
        exact (hK _ _ _ _ h).step fun H locs cells slots LS hl hP hS h0 k => lv_icmp_eq hx hb hdg (tgt := ((pc : Int) + off).toNat) (Int.toNat_of_nonneg (by simpa [okAt] using (Bool.and_eq_true_iff.mp hat).2)).symm (fun hf => absurd hf hc) (fun _ => k LS hl)
      next hc =>
        exact (hK _ _ _ _ h).step fun H locs cells slots LS hl hP hS h0 k => lv_icmp_ne hx hb hdg (tgt := ((pc : Int) + off).toNat) (Int.toNat_of_nonneg (by simpa [okAt] using (Bool.and_eq_true_iff.mp hat).2)).symm (fun hf => absurd hc hf) (fun _ => k LS hl)
      next hc =>
        obtain ⟨t, ht, h⟩ := tgo_of h
        exact (hK _ _ _ _ h).step fun H locs cells slots LS hl hP hS h0 k => lv_icmp_ne hx hb hdg ht (fun _ => k LS hl) (fun hf => absurd hf hc)
      next hc =>
        obtain ⟨t, ht, h⟩ := tgo_of h
        exact (hK _ _ _ _ h).step fun H locs cells slots LS hl hP hS h0 k => lv_icmp_lt hx hb hdg ht (fun _ => k LS hl) (fun hf => absurd (hc) hf)
      next hc =>
        exact (hK _ _ _ _ h).step fun H locs cells slots LS hl hP hS h0 k => lv_icmp_lt hx hb hdg (tgt := ((pc : Int) + off).toNat) (Int.toNat_of_nonneg (by simpa [okAt] using (Bool.and_eq_true_iff.mp hat).2)).symm (fun hf => absurd hf hc) (fun _ => k LS hl)
      next hc =>
        exact (hK _ _ _ _ h).step fun H locs cells slots LS hl hP hS h0 k => lv_icmp_ge hx hb hdg (tgt := ((pc : Int) + off).toNat) (Int.toNat_of_nonneg (by simpa [okAt] using (Bool.and_eq_true_iff.mp hat).2)).symm (fun hf => absurd hf (Int32.not_le.mpr hc)) (fun _ => k LS hl)
      next hc =>
        obtain ⟨t, ht, h⟩ := tgo_of h
        exact (hK _ _ _ _ h).step fun H locs cells slots LS hl hP hS h0 k => lv_icmp_ge hx hb hdg ht (fun _ => k LS hl) (fun hf => absurd (Int32.not_lt.mp hc) hf)
      next hc =>
        obtain ⟨t, ht, h⟩ := tgo_of h
        exact (hK _ _ _ _ h).step fun H locs cells slots LS hl hP hS h0 k => lv_icmp_gt hx hb hdg ht (fun _ => k LS hl) (fun hf => absurd (hc) hf)
      next hc =>
        exact (hK _ _ _ _ h).step fun H locs cells slots LS hl hP hS h0 k => lv_icmp_gt hx hb hdg (tgt := ((pc : Int) + off).toNat) (Int.toNat_of_nonneg (by simpa [okAt] using (Bool.and_eq_true_iff.mp hat).2)).symm (fun hf => absurd hf hc) (fun _ => k LS hl)
      next hc =>
        exact (hK _ _ _ _ h).step fun H locs cells slots LS hl hP hS h0 k => lv_icmp_le hx hb hdg (tgt := ((pc : Int) + off).toNat) (Int.toNat_of_nonneg (by simpa [okAt] using (Bool.and_eq_true_iff.mp hat).2)).symm (fun hf => absurd hf (Int32.not_le.mpr hc)) (fun _ => k LS hl)
      next hc =>
        obtain ⟨t, ht, h⟩ := tgo_of h
        exact (hK _ _ _ _ h).step fun H locs cells slots LS hl hP hS h0 k => lv_icmp_le hx hb hdg ht (fun _ => k LS hl) (fun hf => absurd (Int32.not_lt.mp hc) hf)
    next => cases h
end OK
end
section
theorem xw_same {base b : Nat} {cA : Nat → ClassId} {w : XW} {o' : Nat} {c0 c : XC} (h : w[o' + 1]? = some c0) (hs : xsz c0 = xsz c) : (w.set (o' + 1) c).length = w.length ∧ gs (w.set (o' + 1) c) = gs w ∧ (w.set (o' + 1) c)[0]? = w[0]? :=
  ⟨List.length_set, gs_set h hs, by rw [List.getElem?_set_ne (by omega)]⟩
section OK2
variable {p : Program} {l : Launch} {e : Env} {R : Room} {s : State} {m : MethodId} {args : Array Value} {below : List Frame} {meth : Method} {c : Code} {Q : State → Prop}
variable {D : va_G} {cA : Nat → ClassId} {base b nL d rz : Nat} {own : String} {ini : Bool} {cc : ByteArray} {w0 : XW} {o : XO}
set_option maxHeartbeats 4000000 in
theorem ok_getfield {fl : List (Nat × Nat × Nat × Nat)} (hfl : ∀ q ∈ fl, fOK own ini q) (A : ACT p l e R s m args below meth c Q D cA base b nL d rz own ini cc w0 o) {K : Kont} (hK : KS p l e R s m args below meth c Q D cA base b nL w0 o K)
    {pc i : Nat} (hdg : decode cc pc = .ok (.getfield i, 3)) {ls : XL} {st : List Value} {w : XW}
    (h : ((lk fl i).bind fun f => match st with
      | .ref o :: r => if f.2.2 < 10 then (gI w o f.1 f.2.1).bind (fun x => K (pc + 3) ls (.int x :: r) w) else (gR w o f.1 f.2.1).bind (fun x => K (pc + 3) ls (.ref x :: r) w)
      | _ => none) = some o) : SND p l e R s m args below meth c Q D cA base b nL w0 o pc ls st w := by
  obtain ⟨⟨hx, hb, hml, hown⟩, hts, ⟨-, hKK, ⟨xs, hx0, -⟩, hN, -⟩, -⟩ := A
  obtain ⟨⟨ci, k, fg⟩, hf, h⟩ := some_of h
  obtain ⟨C, T, N, ty, host, g1, g2, g3, g4, g5, g6, g7, -, -⟩ := hfl _ (lk_mem hf)
  dsimp only at h g1 g2 g6 g7
  have key : ∀ (a : Nat) (v : Value) (r : List Value) (fs : List Value), w[a]? = some (.inl (ci, fs)) → fs[k]? = some v → SND p l e R s m args below meth c Q D cA base b nL w0 o (pc + 3) ls (v :: r) w → SND p l e R s m args below meth c Q D cA base b nL w0 o pc ls (.ref a :: r) w := by
    intro a v r fs ha hv hS
    refine hS.step fun H locs cells slots LS hl hP hS h0 kk => ?_
    obtain ⟨a', rfl⟩ : ∃ a', a = a' + 1 := by
      cases a with
      | zero => rw [h0.trans hx0] at ha; cases ha
      | succ a => exact ⟨a, rfl⟩
    have he := xw_get (base := base) (b := b) (cA := cA) ha
    have hv' : (fs.map (xv base b))[k]? = some (xv base b v) := by rw [List.getElem?_map, hv]; rfl
    rcases g7 with g7 | g7
    · exact va_get hx hb hts g3 hown hKK hP a' he g1 k g2 (hts _ g7) (fun x hx => by rw [g6] at hx; exact hx) hv' hdg (kk LS hl)
    · exact va_getN hx hb hts g3 hown hKK hP a' he g1 k g2 (va_Nw.use rfl (hN _ g7)) (fun x hx => by rw [g6] at hx; exact hx) hv' hdg (kk LS hl)
  cases st with
  | nil => cases h
  | cons v r => cases v with
    | ref a =>
      dsimp only at h
      split at h
      next =>
        obtain ⟨z, hx1, h⟩ := some_of h
        obtain ⟨fs, ha, hv⟩ := gI_of hx1
        exact key a _ r fs ha hv (hK _ _ _ _ h)
      next =>
        obtain ⟨z, hx1, h⟩ := some_of h
        obtain ⟨fs, ha, hv⟩ := gR_of hx1
        exact key a _ r fs ha hv (hK _ _ _ _ h)
    | _ => cases h
set_option maxHeartbeats 4000000 in
theorem ok_putfield {fl : List (Nat × Nat × Nat × Nat)} (hfl : ∀ q ∈ fl, fOK own ini q) (A : ACT p l e R s m args below meth c Q D cA base b nL d rz own ini cc w0 o) {K : Kont} (hK : KS p l e R s m args below meth c Q D cA base b nL w0 o K)
    {pc i : Nat} (hdg : decode cc pc = .ok (.putfield i, 3)) {ls : XL} {st : List Value} {w : XW}
    (h : ((lk fl i).bind fun f => match st with
      | .int x :: .ref o :: r => if f.2.2 = 1 then (pF w o f.1 f.2.1 (.int x)).bind (fun w' => K (pc + 3) ls r w') else none
      | .ref x :: .ref o :: r => if f.2.2 = 12 then (pF w o f.1 f.2.1 (.ref x)).bind (fun w' => K (pc + 3) ls r w') else none
      | _ => none) = some o) : SND p l e R s m args below meth c Q D cA base b nL w0 o pc ls st w := by
  obtain ⟨⟨hx, hb, hml, hown⟩, hts, ⟨-, hKK, ⟨xs, hx0, -⟩, hN, -⟩, hini, -⟩ := A
  obtain ⟨⟨ci, k, fg⟩, hf, h⟩ := some_of h
  obtain ⟨C, T, N, ty, host, g1, g2, g3, g4, g5, g6, g7, g8, g9⟩ := hfl _ (lk_mem hf)
  dsimp only at h g1 g2 g6 g7 g8 g9
  cases st with
  | nil => cases h
  | cons v r => cases v with
    | int z => cases r with
      | nil => cases h
      | cons u r => cases u with
        | ref a =>
          dsimp only at h
          split at h
          next hfg =>
              obtain ⟨w', hw', h⟩ := some_of h
              obtain ⟨fs, a', ha, hk, rfl, rfl⟩ := pF_of hw'
              obtain ⟨g10, g11⟩ := g8 hfg
              obtain ⟨e1, e2, e3⟩ := xw_same (base := base) (b := b) (cA := cA) ha (c := .inl (ci, fs.set k (.int z))) (by simp [xsz])
              refine (hK _ _ _ _ h).put e1 e2 e3 fun H locs cells slots LS hl hP hS h0 kk => ?_
              have he := xw_get (base := base) (b := b) (cA := cA) ha
              have hset : xw base b cA (w.set (a' + 1) (.inl (ci, fs.set k (.int z)))) = (xw base b cA w).set a' (base + a', .inr (ci, (fs.map (xv base b)).set k (.int z))) := by
                rw [xw_set]; simp [xe, List.map_set, xv]
              have hk' : k < (fs.map (xv base b)).length := by simpa using hk
              rcases g7 with g7 | g7
              · exact va_put hx hb hts g3 ty g4 g5 hown hKK hP (xw_D w) hS a' he g1 k g2 (hts _ g7) (fun x hx => by rw [g6] at hx; exact hx) g10 (g4 k g2) (by rw [g11]; rfl) (by rw [g11]; rfl) hk' hdg (fun H1 locs1 hP1 hD1 hS1 => kk H1 locs1 (by rw [hset]; exact hP1) hS1)
              · exact va_putN hx hb hts g3 ty g4 g5 hown hKK hP (xw_D w) hS a' he g1 k g2 (va_Nw.use rfl (hN _ g7)) (fun x hx => by rw [g6] at hx; exact hx) g10 (g4 k g2) (by rw [g11]; rfl) (by rw [g11]; rfl) hk' hdg (fun H1 locs1 hP1 hD1 hS1 => kk H1 locs1 (by rw [hset]; exact hP1) hS1)
          next => cases h
        | _ => cases h
    | ref z => cases r with
      | nil => cases h
      | cons u r => cases u with
        | ref a =>
          dsimp only at h
          split at h
          next hfg =>
              obtain ⟨w', hw', h⟩ := some_of h
              obtain ⟨fs, a', ha, hk, rfl, rfl⟩ := pF_of hw'
              obtain ⟨g10, g11, g12, g13, g14⟩ := g9 hfg
              obtain ⟨e1, e2, e3⟩ := xw_same (base := base) (b := b) (cA := cA) ha (c := .inl (ci, fs.set k (.ref z))) (by simp [xsz])
              refine (hK _ _ _ _ h).put e1 e2 e3 fun H locs cells slots LS hl hP hS h0 kk => ?_
              have he := xw_get (base := base) (b := b) (cA := cA) ha
              have hset : xw base b cA (w.set (a' + 1) (.inl (ci, fs.set k (.ref z)))) = (xw base b cA w).set a' (base + a', .inr (ci, (fs.map (xv base b)).set k (.ref (xa base b z)))) := by
                rw [xw_set]; simp [xe, List.map_set, xv]
              have hk' : k < (fs.map (xv base b)).length := by simpa using hk
              have hn : narrow (ty k) (.ref (xa base b z)) = .ref (xa base b z) := by rcases g13 with ⟨n, q⟩ | ⟨n, q⟩ <;> rw [q] <;> rfl
              have hfit : fits (ty k) (.ref (xa base b z)) = true := by rcases g13 with ⟨n, q⟩ | ⟨n, q⟩ <;> rw [q] <;> rfl
              exact va_putF hx hb hts g3 ty g4 g5 hown hKK hP (xw_D w) hS a' he g1 k g2 (hts _ g14) (fun x hx => by rw [g6] at hx; exact hx) g10 (hini g12) (g6.trans g11.symm) (g4 k g2) hn hfit hk' hdg (fun H1 locs1 hP1 hD1 hS1 => kk H1 locs1 (by rw [hset]; exact hP1) hS1)
          next => cases h
        | _ => cases h
    | _ => cases h
end OK2
end
section
section OK3
variable {p : Program} {l : Launch} {e : Env} {R : Room} {s : State} {m : MethodId} {args : Array Value} {below : List Frame} {meth : Method} {c : Code} {Q : State → Prop}
variable {D : va_G} {cA : Nat → ClassId} {base b nL d rz : Nat} {own : String} {ini : Bool} {cc : ByteArray} {w0 : XW} {o : XO}
set_option maxHeartbeats 4000000 in
theorem ok_iaload (A : ACT p l e R s m args below meth c Q D cA base b nL d rz own ini cc w0 o) {K : Kont} (hK : KS p l e R s m args below meth c Q D cA base b nL w0 o K)
    {pc : Nat} (hdg : decode cc pc = .ok (.iaload, 1)) {ls : XL} {r : List Value} {w : XW} {a : Nat} {i x : Int32} (hx1 : aI w a i = some x) (h : K (pc + 1) ls (.int x :: r) w = some o) :
    SND p l e R s m args below meth c Q D cA base b nL w0 o pc ls (.int i :: .ref a :: r) w := by
  obtain ⟨⟨hx, hb, hml, hown⟩, hts, ⟨-, hKK, ⟨xs, hx0, hX⟩, hN, -, hbb⟩, -, hbase, -⟩ := A
  obtain ⟨t, ys, ha, ht, hin, hv⟩ := aI_of hx1
  refine (hK _ _ _ _ h).step fun H locs cells slots LS hl hP hS h0 kk => ?_
  cases a with
  | zero =>
    rw [h0.trans hx0] at ha
    cases ha
    refine va_sld hx hb hX (by omega) (fun q => absurd q (by omega)) hS hin hdg ?_
    rw [hv]
    exact kk LS hl
  | succ a =>
    obtain rfl : t = 0 := by omega
    have he := xw_get (base := base) (b := b) (cA := cA) ha
    refine va_iald hx hb hKK hP a 0 he rfl hin hdg ?_
    rw [hv]
    exact kk LS hl
set_option maxHeartbeats 4000000 in
theorem ok_baload (A : ACT p l e R s m args below meth c Q D cA base b nL d rz own ini cc w0 o) {K : Kont} (hK : KS p l e R s m args below meth c Q D cA base b nL w0 o K)
    {pc : Nat} (hdg : decode cc pc = .ok (.baload, 1)) {ls : XL} {r : List Value} {w : XW} {a : Nat} {i x : Int32} (hx1 : aZ w a i = some x) (h : K (pc + 1) ls (.int x :: r) w = some o) :
    SND p l e R s m args below meth c Q D cA base b nL w0 o pc ls (.int i :: .ref a :: r) w := by
  obtain ⟨⟨hx, hb, hml, hown⟩, hts, ⟨-, hKK, ⟨xs, hx0, hX⟩, hN, -, hbb⟩, -, hbase, -⟩ := A
  obtain ⟨ys, a', rfl, ha, hin, hv⟩ := aZ_of hx1
  refine (hK _ _ _ _ h).step fun H locs cells slots LS hl hP hS h0 kk => ?_
  have he := xw_get (base := base) (b := b) (cA := cA) ha
  refine va_zald hx hb hKK hP a' 1 he rfl hin hdg ?_
  rw [hv]
  exact kk LS hl
set_option maxHeartbeats 4000000 in
theorem ok_iastore (A : ACT p l e R s m args below meth c Q D cA base b nL d rz own ini cc w0 o) {K : Kont} (hK : KS p l e R s m args below meth c Q D cA base b nL w0 o K)
    {pc : Nat} (hdg : decode cc pc = .ok (.iastore, 1)) {ls : XL} {r : List Value} {w w' : XW} {a : Nat} {i x : Int32} (hx1 : sI w a i x = some w') (h : K (pc + 1) ls r w' = some o) :
    SND p l e R s m args below meth c Q D cA base b nL w0 o pc ls (.int x :: .int i :: .ref a :: r) w := by
  obtain ⟨⟨hx, hb, hml, hown⟩, hts, ⟨-, hKK, ⟨xs, hx0, hX⟩, hN, -, hbb⟩, -, hbase, -⟩ := A
  obtain ⟨ys, a', rfl, ha, hin, rfl⟩ := sI_of hx1
  obtain ⟨e1, e2, e3⟩ := xw_same (base := base) (b := b) (cA := cA) ha (c := .inr (0, ys.set i.toNatClampNeg x)) (by simp [xsz])
  refine (hK _ _ _ _ h).put e1 e2 e3 fun H locs cells slots LS hl hP hS h0 kk => ?_
  have he := xw_get (base := base) (b := b) (cA := cA) ha
  have hlt : i.toNatClampNeg < ys.length := Nat.not_le.mp fun q => hin (Or.inr q)
  refine va_iast hx hb hKK hP (xw_D w) hS a' 0 he rfl hin hdg fun H1 locs1 hP1 hD1 hS1 => kk H1 locs1 ?_ hS1
  rw [xw_set]
  simp only [xe, List.length_set]
  rw [getD_set hlt]
  exact hP1
set_option maxHeartbeats 4000000 in
theorem ok_bastore (A : ACT p l e R s m args below meth c Q D cA base b nL d rz own ini cc w0 o) {K : Kont} (hK : KS p l e R s m args below meth c Q D cA base b nL w0 o K)
    {pc : Nat} (hdg : decode cc pc = .ok (.bastore, 1)) {ls : XL} {r : List Value} {w w' : XW} {a : Nat} {i x : Int32} (hx1 : sZ w a i x = some w') (h : K (pc + 1) ls r w' = some o) :
    SND p l e R s m args below meth c Q D cA base b nL w0 o pc ls (.int x :: .int i :: .ref a :: r) w := by
  obtain ⟨⟨hx, hb, hml, hown⟩, hts, ⟨-, hKK, ⟨xs, hx0, hX⟩, hN, -, hbb⟩, -, hbase, -⟩ := A
  obtain ⟨ys, a', rfl, ha, hin, rfl⟩ := sZ_of hx1
  obtain ⟨e1, e2, e3⟩ := xw_same (base := base) (b := b) (cA := cA) ha (c := .inr (1, ys.set i.toNatClampNeg (x &&& 1))) (by simp [xsz])
  refine (hK _ _ _ _ h).put e1 e2 e3 fun H locs cells slots LS hl hP hS h0 kk => ?_
  have he := xw_get (base := base) (b := b) (cA := cA) ha
  have hlt : i.toNatClampNeg < ys.length := Nat.not_le.mp fun q => hin (Or.inr q)
  refine va_zast hx hb hKK hP (xw_D w) hS a' 1 he rfl hin hdg fun H1 locs1 hP1 hD1 hS1 => kk H1 locs1 ?_ hS1
  rw [xw_set]
  simp only [xe, List.length_set]
  rw [getD_set hlt]
  exact hP1
set_option maxHeartbeats 4000000 in
theorem ok_alen (A : ACT p l e R s m args below meth c Q D cA base b nL d rz own ini cc w0 o) {K : Kont} (hK : KS p l e R s m args below meth c Q D cA base b nL w0 o K)
    {pc : Nat} (hdg : decode cc pc = .ok (.arraylength, 1)) {ls : XL} {r : List Value} {w : XW} {a : Nat} {x : Int32} (hx1 : aL w a = some x) (h : K (pc + 1) ls (.int x :: r) w = some o) :
    SND p l e R s m args below meth c Q D cA base b nL w0 o pc ls (.ref a :: r) w := by
  obtain ⟨⟨hx, hb, hml, hown⟩, hts, ⟨-, hKK, ⟨xs, hx0, hX⟩, hN, -, hbb⟩, -, hbase, -⟩ := A
  refine (hK _ _ _ _ h).step fun H locs cells slots LS hl hP hS h0 kk => ?_
  unfold aL at hx1
  split at hx1
  next t ys ha =>
    split at hx1
    next ht =>
      cases hx1
      cases a with
      | zero =>
        rw [h0.trans hx0] at ha
        cases ha
        exact va_slen (b := b) hx hb hX (by omega) (fun q => absurd q (by omega)) hS hdg (kk LS hl)
      | succ a =>
        have he := xw_get (base := base) (b := b) (cA := cA) ha
        rcases ht with rfl | rfl | ht
        · exact va_alen hx hb hKK hP a 0 he rfl rfl hdg (kk LS hl)
        · exact va_alen hx hb hKK hP a 1 he rfl rfl hdg (kk LS hl)
        · omega
    next => cases hx1
  next => cases hx1
/-- a new cell: where it stands -/
theorem new_at {H H1 : Heap} {w : XW} {q : Nat} {e1 : va_E} (hP : va_P D vwCl (xw base b cA w ++ [(q, e1)]) H1) (hD : va_D (fun q => base ≤ q) (xw base b cA w ++ [(q, e1)])) (hl : 0 < w.length) (hz : H1.size + 1 ≤ base + w.length + 1) : q = base + (w.length - 1) := by
  have hlen : (xw base b cA w).length = w.length - 1 := by simp [xw]
  have h1 : (xw base b cA w ++ [(q, e1)])[w.length - 1]? = some (q, e1) := by
    rw [List.getElem?_append_right (by omega), hlen]; simp
  have h2 := (hP _ _ h1).lt
  have h3 := hD.2 _ _ h1
  simp only at h2 h3
  by_cases hq : q < base + (w.length - 1)
  · obtain ⟨k, hk⟩ : ∃ k, q = base + k := ⟨q - base, by omega⟩
    have hw : w[k + 1]? = some (w[k + 1]'(by omega)) := List.getElem?_eq_getElem _
    have hg := xw_get (base := base) (b := b) (cA := cA) hw
    have h4 : (xw base b cA w ++ [(q, e1)])[k]? = some (base + k, xe base b cA (w[k + 1]'(by omega))) := by
      rw [List.getElem?_append_left (by omega)]; exact hg
    have := hD.1 _ _ _ _ h4 h1 hk.symm
    omega
  · omega
/-- a step that makes a cell -/
theorem SND.made {pc pc' : Nat} {ls : XL} {st st' : List Value} {w : XW} {cl : XC} (A : ACT p l e R s m args below meth c Q D cA base b nL d rz own ini cc w0 o) (h : SND p l e R s m args below meth c Q D cA base b nL w0 o pc' ls (.ref w.length :: st') (w ++ [cl])) (hw : 0 < w.length)
    (k : ∀ (H : Heap) (locs : List Loc) (cells slots : Nat) (LS : Array Slot), lv_has LS nL (xl base b ls) → va_P D vwCl (xw base b cA w) H → va_S (fun q => base ≤ q) s.heap H locs → cells + 1 ≤ R.cells → slots + xsz cl ≤ R.slots →
      (∀ q H1, va_P D vwCl (xw base b cA w ++ [(q, xe base b cA cl)]) H1 → va_D (fun q => base ≤ q) (xw base b cA w ++ [(q, xe base b cA cl)]) → va_S (fun q => base ≤ q) s.heap H1 locs → W p l e R s m args below meth c H1 locs (cells + 1) (slots + xsz cl) Q (F0 m pc' LS (.ref q :: st'.map (xv base b)))) →
      W p l e R s m args below meth c H locs cells slots Q (F0 m pc LS (st.map (xv base b)))) :
    SND p l e R s m args below meth c Q D cA base b nL w0 o pc ls st w := by
  obtain ⟨-, -, ⟨-, -, -, -, hsz, -⟩, -⟩ := A
  obtain ⟨h1, h2, h3, h4⟩ := h
  rw [List.length_append, List.length_singleton] at h1
  rw [gs_push] at h2
  refine ⟨by omega, by omega, h3.trans (by rw [List.getElem?_append_left hw]), fun H locs cells slots LS hl hP hS hz hc hs hr1 hr2 => ?_⟩
  refine k H locs cells slots LS hl hP hS (by omega) (by omega) fun q H1 hP1 hD1 hS1 => W.sized fun z1 z2 => ?_
  have hq := new_at hP1 hD1 hw (H := H) (by omega)
  subst hq
  have hkk := h4 H1 locs (cells + 1) (slots + xsz cl) LS hl (by rw [xw_push hw]; exact hP1) hS1 (by rw [List.getElem?_append_left hw]; exact hz) (by rw [List.length_append, List.length_singleton]; omega) (by rw [gs_push]; omega) hr1 hr2
  have hx : xa base b w.length = base + (w.length - 1) := by
    obtain ⟨n, hn⟩ : ∃ n, w.length = n + 1 := ⟨w.length - 1, by omega⟩
    rw [hn]; rfl
  rw [List.map_cons, xv, hx] at hkk
  exact hkk
end OK3
end
section
section OK4
variable {p : Program} {l : Launch} {e : Env} {R : Room} {s : State} {m : MethodId} {args : Array Value} {below : List Frame} {meth : Method} {c : Code} {Q : State → Prop}
variable {D : va_G} {cA : Nat → ClassId} {base b nL d rz : Nat} {own : String} {ini : Bool} {cc : ByteArray} {w0 : XW} {o : XO}
theorem i_nn {n : Int32} (h : 0 ≤ n) : ¬ n < 0 := Int32.not_lt.mpr h
theorem i_small {n : Int32} (h : n ≤ 1000) : n.toNatClampNeg ≤ 1000 := by
  have h1 : n.toInt ≤ 1000 := by simpa using Int32.le_iff_toInt_le.mp h
  show n.toInt.toNat ≤ 1000
  omega
set_option maxHeartbeats 4000000 in
theorem ok_newarray (hI : Jvm.Cond.arrayClass .int ∈ tblG) (hZ : Jvm.Cond.arrayClass .boolean ∈ tblG) (A : ACT p l e R s m args below meth c Q D cA base b nL d rz own ini cc w0 o) {K : Kont} (hK : KS p l e R s m args below meth c Q D cA base b nL w0 o K)
    {pc : Nat} {t : ArrayType} (hdg : decode cc pc = .ok (.newarray t, 2)) {ls : XL} {r : List Value} {w : XW} {n : Int32} (h1 : 0 ≤ n) (h2 : n ≤ 1000) (hw : 0 < w.length) {k : Nat} (ht : (t = .int ∧ k = 0) ∨ (t = .boolean ∧ k = 1))
    (h : K (pc + 2) ls (.ref w.length :: r) (w ++ [.inr (k, List.replicate n.toNatClampNeg 0)]) = some o) :
    SND p l e R s m args below meth c Q D cA base b nL w0 o pc ls (.int n :: r) w := by
  refine SND.made A (hK _ _ _ _ h) hw fun H locs cells slots LS hl hP hS hc hs kk => ?_
  obtain ⟨⟨hx, hb, hml, hown⟩, hts, ⟨-, hKK, ⟨xs, hx0, hX⟩, hN, -, hbb⟩, -, hbase, -⟩ := A
  have hN' := i_small h2
  have hsz : xsz (.inr (k, List.replicate n.toNatClampNeg 0)) = n.toNatClampNeg := by simp [xsz]
  rw [hsz] at hs kk
  have hxe : xe base b cA (.inr (k, List.replicate n.toNatClampNeg 0)) = .inl (cA k, n.toNatClampNeg, .inl (fun _ => 0)) := by
    simp only [xe, List.length_replicate]
    congr 3
    refine congrArg Sum.inl ?_
    funext j
    simp only [List.getD_eq_getElem?_getD, List.getElem?_replicate]
    split <;> rfl
  rw [hxe] at kk
  have hA' : ∀ q : Nat, s.heap.size ≤ q → base ≤ q := fun q hq => Nat.le_trans hbase hq
  rcases ht with ⟨rfl, rfl⟩ | ⟨rfl, rfl⟩
  · refine va_newa (atype := .int) (a0 := (n.toNatClampNeg, .inl (fun _ => 0))) hx hb (hts _ hI) rfl hKK hP (xw_D w) hS hA' (fun cA => rfl) (i_nn h1) rfl (by show n.toNatClampNeg * 4 ≤ 536870912; omega) hc hs hdg fun q cA' H1 hK1 hP1 hD1 hS1 => ?_
    have e1 := (hK1.2 2 _ rfl).2
    have e2 := (hKK.2 0 _ rfl).2
    have : cA' = cA 0 := Option.some.inj (e1.symm.trans e2)
    subst this
    exact kk q H1 hP1 hD1 hS1
  · refine va_newa (atype := .boolean) (a0 := (n.toNatClampNeg, .inl (fun _ => 0))) hx hb (hts _ hZ) rfl hKK hP (xw_D w) hS hA' (fun cA => rfl) (i_nn h1) rfl (by show n.toNatClampNeg * 1 ≤ 536870912; omega) hc hs hdg fun q cA' H1 hK1 hP1 hD1 hS1 => ?_
    have e1 := (hK1.2 2 _ rfl).2
    have e2 := (hKK.2 1 _ rfl).2
    have : cA' = cA 1 := Option.some.inj (e1.symm.trans e2)
    subst this
    exact kk q H1 hP1 hD1 hS1
set_option maxHeartbeats 4000000 in
theorem ok_new {nl : List (Nat × Nat × List Value)} (hnl : ∀ q ∈ nl, nOK own q) (A : ACT p l e R s m args below meth c Q D cA base b nL d rz own ini cc w0 o) {K : Kont} (hK : KS p l e R s m args below meth c Q D cA base b nL w0 o K)
    {pc i : Nat} (hdg : decode cc pc = .ok (.new i, 3)) {ls : XL} {st : List Value} {w : XW}
    (h : ((lk nl i).bind fun f => if 0 < w.length then K (pc + 3) ls (.ref w.length :: st) (w ++ [.inl (f.1, f.2)]) else none) = some o) :
    SND p l e R s m args below meth c Q D cA base b nL w0 o pc ls st w := by
  obtain ⟨⟨ci, fs⟩, hf, h⟩ := some_of h
  split at h
  next hw =>
    refine SND.made A (hK _ _ _ _ h) hw fun H locs cells slots LS hl hP hS hc hs kk => ?_
    obtain ⟨⟨hx, hb, hml, hown⟩, hts, ⟨-, hKK, ⟨xs, hx0, hX⟩, hN, -, hbb⟩, -, hbase, -⟩ := A
    obtain ⟨C, T, N, ty, g1, g2, g3, g4, g5, g6, g7, g8, g9⟩ := hnl _ (lk_mem hf)
    dsimp only at g1 g7 g8 g9
    have hsz : xsz (.inl (ci, fs)) = N := g7
    dsimp only at hs kk
    rw [hsz] at hs kk
    have hxe : xe base b cA (.inl (ci, fs)) = .inr (ci, fs) := by
      simp only [xe]
      congr 2
      refine (List.map_congr_left fun v hv => ?_).trans (List.map_id _)
      rcases g9 v hv with rfl | rfl <;> rfl
    rw [hxe] at kk
    exact va_new hx hb hts g2 ty g3 hown (hts _ g4) (hts _ g5) (hts _ g6) hKK hP (xw_D w) hS (fun q hq => Nat.le_trans hbase hq) g1 g8 hc hs hdg fun q H1 hP1 hD1 hS1 => kk q H1 hP1 hD1 hS1
  next => cases h
set_option maxHeartbeats 4000000 in
theorem ok_tsw (A : ACT p l e R s m args below meth c Q D cA base b nL d rz own ini cc w0 o) {K : Kont} (hK : KS p l e R s m args below meth c Q D cA base b nL w0 o K)
    {pc len : Nat} {dflt lo hi : Int} {offs : Array Int} (hdg : decode cc pc = .ok (.tableswitch dflt lo hi offs, len)) {ls : XL} {r : List Value} {w : XW} {z : Int32}
    (h1 : hi = lo + (offs.size : Int) - 1) (h2 : -2147483648 ≤ lo) (h3 : hi < 2147483648) (h : swi pc dflt z (fun t => K t ls r w) (offs.toList.mapIdx fun i o => (lo + (i : Int), o)) = some o) :
    SND p l e R s m args below meth c Q D cA base b nL w0 o pc ls (.int z :: r) w := by
  obtain ⟨⟨hx, hb, hml, hown⟩, hts, -⟩ := A
  have hps : ∀ q ∈ (offs.toList.mapIdx fun i o => (lo + (i : Int), o)), -2147483648 ≤ q.1 ∧ q.1 < 2147483648 := by
    intro q hq
    obtain ⟨k, hk⟩ := List.getElem?_of_mem hq
    rw [List.getElem?_mapIdx] at hk
    cases ho : offs.toList[k]? with
    | none => rw [ho] at hk; cases hk
    | some f =>
      rw [ho] at hk
      cases hk
      have := (List.getElem?_eq_some_iff.mp ho).1
      rw [Array.length_toList] at this
      show -2147483648 ≤ lo + (k : Int) ∧ lo + (k : Int) < 2147483648
      omega
  obtain ⟨t, ht, hk⟩ := swi_of _ hps h
  have key : ∀ (n : Nat) (xs : List Int) (a : Int), Op.lookupswitch.offset (xs.mapIdx fun i o => (a + (i : Int), o)) dflt z.toInt = if z.toInt < a then dflt else (xs[(z.toInt - a).toNat]?).getD dflt := by
    intro _ xs
    induction xs with
    | nil => intro a; simp [Op.lookupswitch.offset]
    | cons f xs ih =>
      intro a
      rw [List.mapIdx_cons]
      rw [Op.lookupswitch.offset_cons]
      by_cases hz : a = z.toInt
      · rw [if_pos (by simpa using hz), if_neg (by omega)]
        rw [show (z.toInt - a).toNat = 0 by omega]
        rfl
      · rw [if_neg (by simpa using hz)]
        have e : (fun (i : Nat) (o : Int) => (a + ((i + 1 : Nat) : Int), o)) = fun (i : Nat) (o : Int) => ((a + 1) + (i : Int), o) := by
          funext i o
          congr 1
          omega
        have := ih (a + 1)
        rw [e, this]
        by_cases h1 : z.toInt < a
        · rw [if_pos (by omega), if_pos h1]
        · rw [if_neg (by omega), if_neg h1]
          obtain ⟨n, hn⟩ : ∃ n : Nat, (z.toInt - a).toNat = n + 1 := ⟨(z.toInt - a).toNat - 1, by omega⟩
          rw [hn, List.getElem?_cons_succ, show (z.toInt - (a + 1)).toNat = n by omega]
  rw [key 0] at ht
  refine (hK _ _ _ _ hk).step fun H locs cells slots LS hl hP hS h0 kk => ?_
  by_cases g1 : z.toInt < lo
  · rw [if_pos g1] at ht
    exact lv_tableOut hx hb hdg (Or.inl g1) ht (kk LS hl)
  · rw [if_neg g1] at ht
    by_cases g2 : hi < z.toInt
    · rw [List.getElem?_eq_none (by rw [Array.length_toList]; omega)] at ht
      exact lv_tableOut hx hb hdg (Or.inr g2) ht (kk LS hl)
    · have hlt : (z.toInt - lo).toNat < offs.size := by omega
      have he : offs[(z.toInt - lo).toNat]? = some (offs[(z.toInt - lo).toNat]'hlt) := Array.getElem?_eq_getElem hlt
      rw [Array.getElem?_toList, he] at ht
      exact lv_tableIn hx hb hdg g1 g2 he ht (kk LS hl)
set_option maxHeartbeats 4000000 in
theorem ok_lsw (A : ACT p l e R s m args below meth c Q D cA base b nL d rz own ini cc w0 o) {K : Kont} (hK : KS p l e R s m args below meth c Q D cA base b nL w0 o K)
    {pc len : Nat} {dflt : Int} {ps : Array (Int × Int)} (hdg : decode cc pc = .ok (.lookupswitch dflt ps, len)) {ls : XL} {r : List Value} {w : XW} {z : Int32}
    (h1 : swOk ps.toList = true) (h : swi pc dflt z (fun t => K t ls r w) ps.toList = some o) :
    SND p l e R s m args below meth c Q D cA base b nL w0 o pc ls (.int z :: r) w := by
  obtain ⟨⟨hx, hb, hml, hown⟩, hts, -⟩ := A
  obtain ⟨g1, g2⟩ := Bool.and_eq_true_iff.mp h1
  obtain ⟨t, ht, hk⟩ := swi_of _ (fun q hq => by simpa using List.all_eq_true.mp g1 q hq) h
  exact (hK _ _ _ _ hk).step fun H locs cells slots LS hl hP hS h0 kk => lv_lookup hx hb hdg g2 rfl ht (kk LS hl)
end OK4
end
section
theorem callK_of {n rk : Nat} {F : Orc} {k : List Value → XW → Option XO} {st : List Value} {w : XW} {o : XO} (h : callK n rk F k st w = some o) :
    n ≤ st.length ∧ (st.drop n).length ≤ 4 ∧ ∃ v w', F (st.take n).reverse w = some (v, w') ∧ k (v.toList ++ st.drop n) w' = some o := by
  unfold callK at h
  split at h
  next hh =>
    refine ⟨hh.1, hh.2, ?_⟩
    split at h
    next => obtain ⟨v, w', h1, h2⟩ := cI_of h; exact ⟨_, w', h1, h2⟩
    next =>
      split at h
      next => obtain ⟨v, w', h1, h2⟩ := cL_of h; exact ⟨_, w', h1, h2⟩
      next => obtain ⟨w', h1, h2⟩ := cV_of h; exact ⟨_, w', h1, h2⟩
  next => cases h
section OK5
variable {p : Program} {l : Launch} {e : Env} {R : Room} {s : State} {m : MethodId} {args : Array Value} {below : List Frame} {meth : Method} {c : Code} {Q : State → Prop}
variable {D : va_G} {cA : Nat → ClassId} {base b nL d rz : Nat} {own : String} {ini : Bool} {cc : ByteArray} {w0 : XW} {o : XO}
theorem blindX {av : List Value} {w : XW} : FrameBlind (va_Pc av (XR D cA base b w)) := by
  intro a U g mk h
  obtain ⟨h1, h2, h3, h4, h5, h6⟩ := h
  refine ⟨h1, h2, va_K.moved (u := U) (U := U.calling g mk a) (Vm.Alike.refl U.vm) h3, ?_, fun n hn => ?_, h6⟩
  · obtain ⟨xs, g1, g2⟩ := h4
    exact ⟨xs, g1, va_X.moved (u := U) (U := U.calling g mk a) (Vm.Alike.refl U.vm) g2⟩
  · have h7 := h5 n hn
    have h8 := (List.mem_filter.mp hn).2
    cases n <;> first | exact va_Nw.same rfl (u := U) (U := U.calling g mk a) rfl h7 | cases h8
theorem wsX (hts : ∀ w ∈ tblG, w.before args s = true) {y : MethodName} {bytes : ByteArray} {maxL : Nat} {ret : Option FieldType} (hc : Jvm.Cond.code y bytes maxL ret ∈ tblG) :
    ∀ w ∈ (Jvm.Cond.code y bytes maxL ret :: tblG), ∀ (a' : Array Value) (U : State), s.WarmedH U.vm → w.before a' U = true := by
  intro w hw a' U hW
  rcases List.mem_cons.mp hw with rfl | hw
  · exact word_at hW (tblG_good hc) (hts _ hc)
  · exact word_at hW (tblG_good hw) (hts _ hw)
theorem lenX {y : MethodName} {n : Nat} (h : pl3 y n) : ∀ sig, parseMethodDescriptor y.desc = some sig → n = sig.parameters.length := by
  intro sig hs
  have h2 := h.2.2
  rw [hs] at h2
  exact (Option.some.inj h2).symm
theorem roomX {m : MethodId} {pc : Nat} {LS : Array Slot} {stk : List Value} {rest : List Value} (h : rest.length ≤ 4) : 2 * (F0 m pc LS stk).monitorRoom + ((rest.map (xv base b)).map fun v => v.category).sum ≤ 8 := by
  rw [xv_sum]
  have := cat_le rest
  show 2 * 0 + _ ≤ 8
  omega
theorem splitX {st : List Value} {n : Nat} : st.map (xv base b) = (((st.take n).reverse).map (xv base b)).reverse ++ (st.drop n).map (xv base b) := by
  rw [← List.map_reverse, List.reverse_reverse, ← List.map_append, List.take_append_drop]
set_option maxHeartbeats 4000000 in
theorem ok_static {q : Nat × Nat × Nat × Orc} (hq : sOK l D cA base b d own q) (A : ACT p l e R s m args below meth c Q D cA base b nL d rz own ini cc w0 o) {K : Kont} (hK : KS p l e R s m args below meth c Q D cA base b nL w0 o K)
    {pc : Nat} (hdg : decode cc pc = .ok (.invokestatic q.1, 3)) {ls : XL} {st : List Value} {w : XW}
    (h : callK q.2.1 q.2.2.1 q.2.2.2 (fun s w' => K (pc + 3) ls s w') st w = some o) : SND p l e R s m args below meth c Q D cA base b nL w0 o pc ls st w := by
  have A' := A
  obtain ⟨⟨hx, hb, hml, hown⟩, hts, ⟨-, hKK, ⟨xs, hx0, hX⟩, hN, -, hbb⟩, -, hbase, hrm, -⟩ := A
  rcases hq with ⟨y, bytes, maxL, ret, d', host, hC, hd, hmx, g1, g2, g3, g4, g5⟩ | ⟨g1, g2, g3, g4, g5, g6, g7⟩
  · obtain ⟨h1, h2, v, w', h3, h4⟩ := callK_of h
    refine SND.call A' hC h3 (hK _ _ _ _ h4) fun H locs cells slots mc ms LS hl hP hXR hc hs hM => ?_
    have hn : (((st.take q.2.1).reverse).map (xv base b)).length = q.2.1 := by simp; omega
    have hpre : PreS s H (va_Pc (((st.take q.2.1).reverse).map (xv base b)) (XR D cA base b w)) (((st.take q.2.1).reverse).map (xv base b)) := ⟨blindX, fun U hU hW => ⟨rfl, hXR U hU hW⟩⟩
    rcases g5 with g5 | g5
    · exact va_runS (Ts := tblG) (nL := nL) (n := q.2.1) (maxL := maxL) (ret := ret) ⟨hx, hb, hml, hown, hts⟩ hM ⟨⟨rfl, rfl, by show d' + 1 ≤ R.frames; omega, by show 8 + (maxL + 11) + 100 * d' ≤ R.locals; omega, wsX hts g1, List.mem_cons_self, hts _ g1, hts _ g2, ⟨g4.1, g4.2.1⟩, lenX g4, hts _ g5⟩, hts _ g3⟩ hpre rfl hn hl.1 splitX (roomX h2) hdg ⟨hc, hs⟩
    · exact va_runSN (Ts := tblG) (nL := nL) (n := q.2.1) (maxL := maxL) (ret := ret) ⟨hx, hb, hml, hown, hts⟩ hM ⟨⟨⟨rfl, rfl, by show d' + 1 ≤ R.frames; omega, by show 8 + (maxL + 11) + 100 * d' ≤ R.locals; omega, wsX hts g1, List.mem_cons_self⟩, hts _ g1, hts _ g2, ⟨g4.1, g4.2.1⟩, lenX g4, va_Nw.use rfl (hN _ g5)⟩, hts _ g3, trivial⟩ hpre rfl hn hl.1 splitX (roomX h2) hdg ⟨hc, hs⟩
  · obtain ⟨h1, h2, v, w', h3, h4⟩ := callK_of h
    rw [g3] at h3
    unfold oCopy at h3
    split at h3
    next as a i a2 j n heq =>
      have hst : st = .int n :: .int j :: .ref a2 :: .int i :: .ref a :: st.drop q.2.1 := by
        have h5 := congrArg List.reverse heq
        rw [List.reverse_reverse] at h5
        have h6 := List.take_append_drop q.2.1 st
        rw [h5] at h6
        exact h6.symm
      cases hsc : sC w a i a2 j n with
      | none => rw [hsc] at h3; cases h3
      | some w1 =>
        rw [hsc] at h3
        cases h3
        unfold sC at hsc
        split at hsc
        next t xs1 t2 ys ha ha2 =>
          split at hsc
          next hh =>
            obtain ⟨rfl, rfl, q1, q2, q3, q4, q5, q6, q7⟩ := hh
            cases hsc
            obtain ⟨a, rfl⟩ : ∃ a' : Nat, a = a' + 1 := ⟨a - 1, (Nat.sub_one_add_one q1).symm⟩
            obtain ⟨a2, rfl⟩ : ∃ a' : Nat, a2 = a' + 1 := ⟨a2 - 1, (Nat.sub_one_add_one q2).symm⟩
            have hzl : (ys.take j.toNatClampNeg ++ ((xs1.drop i.toNatClampNeg).take n.toNatClampNeg ++ ys.drop (j.toNatClampNeg + n.toNatClampNeg))).length = ys.length := by
              simp only [List.length_append, List.length_take, List.length_drop]; omega
            obtain ⟨e1, e2, e3⟩ := xw_same (base := base) (b := b) (cA := cA) ha2 (c := .inr (0, ys.take j.toNatClampNeg ++ ((xs1.drop i.toNatClampNeg).take n.toNatClampNeg ++ ys.drop (j.toNatClampNeg + n.toNatClampNeg)))) hzl.symm
            refine (hK _ _ _ _ h4).put e1 e2 e3 fun H locs cells slots LS hl hP hS h0 kk => ?_
            have he := xw_get (base := base) (b := b) (cA := cA) ha
            have he2 := xw_get (base := base) (b := b) (cA := cA) ha2
            rw [hst]
            refine va_copyi (s := s) hx hb (hml.trans hl.1.symm) hown (hts _ g4) (hts _ g5) (hts _ g6) (hts _ g7) hKK hP (xw_D w) hS a a2 0 0 he he2 rfl rfl rfl (i_nn q3) (i_nn q4) (i_nn q5) q6 q7 (fun _ _ => rfl) (by omega) ?_ hdg fun H1 locs1 hP1 hD1 hS1 => kk H1 locs1 ?_ hS1
            · rw [xv_sum]
              have := cat_le (st.drop q.2.1)
              have h7 : nativeFrameWords "java/lang/System" "arraycopy" 5 = 7 := by decide +kernel
              rw [h7]
              omega
            · rw [xw_set]
              simp only [xe]
              rw [hzl]
              have hf : (fun k => (ys.take j.toNatClampNeg ++ ((xs1.drop i.toNatClampNeg).take n.toNatClampNeg ++ ys.drop (j.toNatClampNeg + n.toNatClampNeg))).getD k 0) = va_cpy (fun k => xs1.getD k 0) (fun k => ys.getD k 0) i.toNatClampNeg j.toNatClampNeg n.toNatClampNeg := by
                funext k
                simp only [va_cpy, List.getD_eq_getElem?_getD]
                by_cases h8 : k < j.toNatClampNeg
                · rw [List.getElem?_append_left (by simp only [List.length_take]; omega), List.getElem?_take, if_pos h8, if_neg (by omega)]
                · rw [List.getElem?_append_right (by simp only [List.length_take]; omega)]
                  have h9 : (List.take j.toNatClampNeg ys).length = j.toNatClampNeg := by rw [List.length_take]; omega
                  rw [h9]
                  have h10 : (List.take n.toNatClampNeg (List.drop i.toNatClampNeg xs1)).length = n.toNatClampNeg := by rw [List.length_take, List.length_drop]; omega
                  by_cases h11 : k < j.toNatClampNeg + n.toNatClampNeg
                  · rw [List.getElem?_append_left (by omega), List.getElem?_take, if_pos (by omega), List.getElem?_drop, if_pos (by omega)]
                  · rw [List.getElem?_append_right (by omega), h10, List.getElem?_drop, if_neg (by omega), show j.toNatClampNeg + n.toNatClampNeg + (k - j.toNatClampNeg - n.toNatClampNeg) = k by omega]
              rw [hf]
              exact hP1
          next => cases hsc
        next => cases hsc
    next => cases h3
end OK5
end
section
section OK6
variable {p : Program} {l : Launch} {e : Env} {R : Room} {s : State} {m : MethodId} {args : Array Value} {below : List Frame} {meth : Method} {c : Code} {Q : State → Prop}
variable {D : va_G} {cA : Nat → ClassId} {base b nL d rz : Nat} {own : String} {ini : Bool} {cc : ByteArray} {w0 : XW} {o : XO}
theorem headX {st r : List Value} {n a : Nat} (h : (st.take (n + 1)).reverse = .ref a :: r) (hl : r.length = n) : st.take n = r.reverse ∧ st = r.reverse ++ .ref a :: st.drop (n + 1) := by
  have h5 := congrArg List.reverse h
  rw [List.reverse_reverse, List.reverse_cons] at h5
  have h6 := List.take_append_drop (n + 1) st
  rw [h5] at h6
  refine ⟨?_, by rw [List.append_assoc] at h6; exact h6.symm⟩
  have h7 : st.take n = (st.take (n + 1)).take n := by rw [List.take_take]; congr 1; omega
  rw [h7, h5, List.take_append_of_le_length (by rw [List.length_reverse, hl]; exact Nat.le_refl _), List.take_of_length_le (by rw [List.length_reverse, hl]; exact Nat.le_refl _)]
set_option maxHeartbeats 4000000 in
theorem ok_virtual {q : Nat × Nat × Nat × Orc} (hq : vOK l D cA base b d own q) (A : ACT p l e R s m args below meth c Q D cA base b nL d rz own ini cc w0 o) {K : Kont} (hK : KS p l e R s m args below meth c Q D cA base b nL w0 o K)
    {pc : Nat} (hdg : decode cc pc = .ok (.invokevirtual q.1, 3)) {ls : XL} {st : List Value} {w : XW}
    (h : callK q.2.1 q.2.2.1 q.2.2.2 (fun s w' => K (pc + 3) ls s w') st w = some o) : SND p l e R s m args below meth c Q D cA base b nL w0 o pc ls st w := by
  have A' := A
  obtain ⟨⟨hx, hb, hml, hown⟩, hts, ⟨-, hKK, ⟨xs, hx0, hX⟩, hN, -, hbb⟩, -, hbase, hrm, -⟩ := A
  obtain ⟨y, bytes, maxL, ret, d', host, ci, T, N, n, hC, hd, hmx, hn1, hsh, hcl, g1, g2, g3, g4, g5, g6⟩ := hq
  obtain ⟨h1, h2, v, w', h3, h4⟩ := callK_of h
  obtain ⟨a, r, hr1, hr2, hr3⟩ := hsh _ _ _ h3
  rw [hn1] at hr1 h1 h2 h3 h4
  obtain ⟨-, hst⟩ := headX hr1 hr2
  rw [hr1] at h3
  refine SND.call (rest := st.drop (n + 1)) A' hC h3 (hK _ _ _ _ h4) fun H locs cells slots mc ms LS hl hP hXR hc hs hM => ?_
  have hobj : ∃ cellB : Cell, H[xa base b a]? = some cellB ∧ cellB.vm.isStatics = false ∧ s.vm.findClass y.cls = some cellB.cls := by
    unfold isO at hr3
    split at hr3
    next c1 fs ha =>
      have hci : c1 = ci := by simpa using hr3
      subst hci
      obtain ⟨a', rfl⟩ : ∃ a' : Nat, a = a' + 1 := by
        cases a with
        | zero =>
          obtain ⟨xs', hx', -⟩ := (hXR { s with heap := H } rfl (State.WarmedH.refl s)).2.2.1
          rw [hx'] at ha; cases ha
        | succ a => exact ⟨a, rfl⟩
      exact va_recv hKK hP hcl (xw_get (base := base) (b := b) (cA := cA) ha)
    next => cases hr3
  have hpre : PreV s H y.cls (xa base b a) (va_Pc ((Value.ref a :: r).map (xv base b)) (XR D cA base b w)) (r.map (xv base b)) := ⟨blindX, hobj, fun U hU hW => ⟨rfl, hXR U hU hW⟩⟩
  have hnl : (r.map (xv base b)).length = n := by rw [List.length_map]; exact hr2
  have hstk : st.map (xv base b) = (r.map (xv base b)).reverse ++ .ref (xa base b a) :: (st.drop (n + 1)).map (xv base b) := by
    conv => lhs; rw [hst]
    rw [List.map_append, List.map_reverse, List.map_cons]; rfl
  rcases g6 with g6 | g6
  · exact va_runV (Ts := tblG) (nL := nL) (n := n) (maxL := maxL) (ret := ret) (C := y.cls) ⟨hx, hb, hml, hown, hts⟩ hM ⟨⟨rfl, rfl, by show d' + 1 ≤ R.frames; omega, by show 8 + (maxL + 11) + 100 * d' ≤ R.locals; omega, wsX hts g1, List.mem_cons_self, hts _ g1, hts _ g2, ⟨g5.1, g5.2.1⟩, lenX g5, hts _ g6⟩, hts _ g3, hts _ g4⟩ hpre rfl hnl hl.1 hstk (roomX h2) hdg ⟨hc, hs⟩
  · exact va_runVN (Ts := tblG) (nL := nL) (n := n) (maxL := maxL) (ret := ret) (C := y.cls) ⟨hx, hb, hml, hown, hts⟩ hM ⟨⟨⟨rfl, rfl, by show d' + 1 ≤ R.frames; omega, by show 8 + (maxL + 11) + 100 * d' ≤ R.locals; omega, wsX hts g1, List.mem_cons_self⟩, hts _ g1, hts _ g2, ⟨g5.1, g5.2.1⟩, lenX g5, va_Nw.use rfl (hN _ g6)⟩, hts _ g3, hts _ g4⟩ hpre rfl hnl hl.1 hstk (roomX h2) hdg ⟨hc, hs⟩
set_option maxHeartbeats 4000000 in
theorem ok_special {q : Nat × Nat × Nat × Orc} (hq : iOK l D cA base b d own q) (A : ACT p l e R s m args below meth c Q D cA base b nL d rz own ini cc w0 o) {K : Kont} (hK : KS p l e R s m args below meth c Q D cA base b nL w0 o K)
    {pc : Nat} (hdg : decode cc pc = .ok (.invokespecial q.1, 3)) {ls : XL} {st : List Value} {w : XW}
    (h : callK q.2.1 q.2.2.1 q.2.2.2 (fun s w' => K (pc + 3) ls s w') st w = some o) : SND p l e R s m args below meth c Q D cA base b nL w0 o pc ls st w := by
  have A' := A
  obtain ⟨⟨hx, hb, hml, hown⟩, hts, ⟨-, hKK, ⟨xs, hx0, hX⟩, hN, -, hbb⟩, -, hbase, hrm, -⟩ := A
  rcases hq with ⟨y, bytes, maxL, d', host, n, hC, hd, hmx, hn1, hsh, hy1, g1, g2, g3, g5, g6⟩ | ⟨g1, g2, g3, g4, g5, g6⟩
  · obtain ⟨h1, h2, v, w', h3, h4⟩ := callK_of h
    obtain ⟨a, r, hr1, hr2⟩ := hsh _ _ _ h3
    rw [hn1] at hr1 h1 h2 h3 h4
    obtain ⟨-, hst⟩ := headX hr1 hr2
    rw [hr1] at h3
    refine SND.call (rest := st.drop (n + 1)) A' hC h3 (hK _ _ _ _ h4) fun H locs cells slots mc ms LS hl hP hXR hc hs hM => ?_
    have hpre : PreS s H (va_Pc ((Value.ref a :: r).map (xv base b)) (XR D cA base b w)) (.ref (xa base b a) :: r.map (xv base b)) := ⟨blindX, fun U hU hW => ⟨rfl, hXR U hU hW⟩⟩
    have hnl : (r.map (xv base b)).length = n := by rw [List.length_map]; exact hr2
    have hstk : st.map (xv base b) = (r.map (xv base b)).reverse ++ .ref (xa base b a) :: (st.drop (n + 1)).map (xv base b) := by
      conv => lhs; rw [hst]
      rw [List.map_append, List.map_reverse, List.map_cons]; rfl
    rcases g6 with g6 | g6
    · exact va_runI (Ts := tblG) (nL := nL) (n := n) (maxL := maxL) ⟨hx, hb, hml, hown, hts⟩ hM ⟨⟨rfl, rfl, by show d' + 1 ≤ R.frames; omega, by show 8 + (maxL + 11) + 100 * d' ≤ R.locals; omega, wsX hts g1, List.mem_cons_self, hts _ g1, hts _ g2, ⟨g5.1, g5.2.1⟩, lenX g5, hts _ g6⟩, hy1, hts _ g3⟩ hpre rfl hnl hl.1 hstk (roomX h2) hdg ⟨hc, hs⟩
    · exact va_runIN (Ts := tblG) (nL := nL) (n := n) (maxL := maxL) ⟨hx, hb, hml, hown, hts⟩ hM ⟨⟨⟨rfl, rfl, by show d' + 1 ≤ R.frames; omega, by show 8 + (maxL + 11) + 100 * d' ≤ R.locals; omega, wsX hts g1, List.mem_cons_self⟩, hts _ g1, hts _ g2, ⟨g5.1, g5.2.1⟩, lenX g5, va_Nw.use rfl (hN _ g6)⟩, hy1, hts _ g3⟩ hpre rfl hnl hl.1 hstk (roomX h2) hdg ⟨hc, hs⟩
  · obtain ⟨h1, h2, v, w', h3, h4⟩ := callK_of h
    rw [g1] at h1 h2 h3 h4
    rw [g3] at h3
    unfold oInit at h3
    split at h3
    next as a heq =>
      cases h3
      have hst : st = .ref a :: st.drop 1 := by
        have h5 := congrArg List.reverse heq
        rw [List.reverse_reverse] at h5
        have h6 := List.take_append_drop 1 st
        rw [h5] at h6
        exact h6.symm
      refine (hK _ _ _ _ h4).step fun H locs cells slots LS hl hP hS h0 kk => ?_
      have hstk : st.map (xv base b) = .ref (xa base b a) :: (st.drop 1).map (xv base b) := by
        conv => lhs; rw [hst]
        rfl
      refine W.objInit hx hb hown (hts _ g4) (hts _ g5) (hts _ g6) rfl (hl.1.trans hml.symm) hstk hdg (by omega) ?_ (kk LS hl)
      rw [xv_sum]
      have := cat_le (st.drop 1)
      show 2 * 0 + _ + 12 ≤ _
      omega
    next => cases h3
/-- the end of a method -/
theorem ok_ret (A : ACT p l e R s m args below meth c Q D cA base b nL d rz own ini cc w0 o) {pc : Nat} {ls : XL} {v : Option Value} {w : XW} (ho : o = (v, w))
    (hv : rOK cc rz pc v) : SND p l e R s m args below meth c Q D cA base b nL w0 o pc ls v.toList w := by
  subst ho
  obtain ⟨-, -, -, -, -, -, hret⟩ := A
  refine ⟨Nat.le_refl _, Nat.le_refl _, rfl, fun H locs cells slots LS hl hP hS h0 hc hs hr1 hr2 => ?_⟩
  have h := hret H locs cells slots LS pc hP hS h0 hc hs hr1 hr2 hv
  have e1 : v.toList.map (xv base b) = (v.map (xv base b)).toList := by cases v <;> rfl
  rw [e1]
  exact h
set_option maxHeartbeats 4000000 in
/-- every operation stands for the machine's -/
theorem opK_ok {fl : List (Nat × Nat × Nat × Nat)} {nl : List (Nat × Nat × List Value)} {kl : List (Nat × Int32)} {k2 : List (Nat × Int64)} {mv ms mi : List (Nat × Nat × Nat × Orc)}
    (hI : Jvm.Cond.arrayClass .int ∈ tblG) (hZ : Jvm.Cond.arrayClass .boolean ∈ tblG)
    (hfl : ∀ q ∈ fl, fOK own ini q) (hnl : ∀ q ∈ nl, nOK own q) (hkl : ∀ q ∈ kl, Jvm.Cond.constant own q.1 q.2 ∈ tblG) (hk2 : ∀ q ∈ k2, Jvm.Cond.constantLong own q.1 q.2 ∈ tblG)
    (hmv : ∀ q ∈ mv, vOK l D cA base b d own q) (hms : ∀ q ∈ ms, sOK l D cA base b d own q) (hmi : ∀ q ∈ mi, iOK l D cA base b d own q)
    (A : ACT p l e R s m args below meth c Q D cA base b nL d rz own ini cc w0 o) {K : Kont} (hK : KS p l e R s m args below meth c Q D cA base b nL w0 o K)
    {pc : Nat} {ins : Instr} {len : Nat} (hdg : decode cc pc = .ok (ins, len)) (hat : okAt pc ins len = true) {ls : XL} {st : List Value} {w : XW}
    (h : opK nL rz fl nl kl k2 mv ms mi pc K ls st w ins = some o) : SND p l e R s m args below meth c Q D cA base b nL w0 o pc ls st w := by
  have hlen := (Bool.and_eq_true_iff.mp hat).1
  cases ins <;> first | exact opK_plain hkl hk2 A hK hdg hat trivial h | skip
  case getfield i =>
    obtain rfl : len = 3 := by simpa [okLen] using hlen
    exact ok_getfield hfl A hK hdg h
  case putfield i =>
    obtain rfl : len = 3 := by simpa [okLen] using hlen
    exact ok_putfield hfl A hK hdg h
  case iaload =>
    obtain rfl : len = 1 := by simpa [okLen] using hlen
    simp only [opK] at h
    split at h
    next => obtain ⟨v, hv, h⟩ := some_of h; exact ok_iaload A hK hdg hv h
    next => cases h
  case baload =>
    obtain rfl : len = 1 := by simpa [okLen] using hlen
    simp only [opK] at h
    split at h
    next => obtain ⟨v, hv, h⟩ := some_of h; exact ok_baload A hK hdg hv h
    next => cases h
  case iastore =>
    obtain rfl : len = 1 := by simpa [okLen] using hlen
    simp only [opK] at h
    split at h
    next => obtain ⟨v, hv, h⟩ := some_of h; exact ok_iastore A hK hdg hv h
    next => cases h
  case bastore =>
    obtain rfl : len = 1 := by simpa [okLen] using hlen
    simp only [opK] at h
    split at h
    next => obtain ⟨v, hv, h⟩ := some_of h; exact ok_bastore A hK hdg hv h
    next => cases h
  case arraylength =>
    obtain rfl : len = 1 := by simpa [okLen] using hlen
    simp only [opK] at h
    split at h
    next => obtain ⟨v, hv, h⟩ := some_of h; exact ok_alen A hK hdg hv h
    next => cases h
  case newarray t =>
    obtain rfl : len = 2 := by simpa [okLen] using hlen
    simp only [opK] at h
    split at h
    next =>
      split at h
      next =>
        split at h
        next hh => exact ok_newarray hI hZ A hK hdg hh.1 hh.2.1 hh.2.2 (Or.inl ⟨rfl, rfl⟩) h
        next => cases h
      next =>
        split at h
        next hh => exact ok_newarray hI hZ A hK hdg hh.1 hh.2.1 hh.2.2 (Or.inr ⟨rfl, rfl⟩) h
        next => cases h
      next => cases h
    next => cases h
  case new i =>
    obtain rfl : len = 3 := by simpa [okLen] using hlen
    exact ok_new hnl A hK hdg h
  case invokevirtual i =>
    obtain rfl : len = 3 := by simpa [okLen] using hlen
    obtain ⟨f, hf, h⟩ := some_of h
    exact ok_virtual (q := (i, f)) (hmv _ (lk_mem hf)) A hK hdg h
  case invokestatic i =>
    obtain rfl : len = 3 := by simpa [okLen] using hlen
    obtain ⟨f, hf, h⟩ := some_of h
    exact ok_static (q := (i, f)) (hms _ (lk_mem hf)) A hK hdg h
  case invokespecial i =>
    obtain rfl : len = 3 := by simpa [okLen] using hlen
    obtain ⟨f, hf, h⟩ := some_of h
    exact ok_special (q := (i, f)) (hmi _ (lk_mem hf)) A hK hdg h
  case ireturn =>
    obtain rfl : len = 1 := by simpa [okLen] using hlen
    simp only [opK] at h
    split at h
    next =>
      split at h
      next hz => cases h; exact ok_ret (v := some (.int _)) A rfl ⟨hdg, Or.inl hz⟩
      next =>
        split at h
        next hz =>
          unfold retZ at h
          split at h
          next hx => subst hx; cases h; exact ok_ret (v := some (.int 0)) A rfl ⟨hdg, Or.inr ⟨hz, Or.inl rfl⟩⟩
          next =>
            split at h
            next hx => subst hx; cases h; exact ok_ret (v := some (.int 1)) A rfl ⟨hdg, Or.inr ⟨hz, Or.inr rfl⟩⟩
            next => cases h
        next => cases h
    next => cases h
  case lreturn =>
    obtain rfl : len = 1 := by simpa [okLen] using hlen
    simp only [opK] at h
    split at h
    next =>
      split at h
      next hz => cases h; exact ok_ret (v := some (.long _)) A rfl ⟨hdg, hz⟩
      next => cases h
    next => cases h
  case return_ =>
    obtain rfl : len = 1 := by simpa [okLen] using hlen
    simp only [opK] at h
    split at h
    next =>
      split at h
      next hz => cases h; exact ok_ret (v := none) A rfl ⟨hdg, hz⟩
      next => cases h
    next => cases h
  case tableswitch d lo hi offs =>
    simp only [opK] at h
    split at h
    next =>
      split at h
      next hh => exact ok_tsw A hK hdg hh.1 hh.2.1 hh.2.2 h
      next => cases h
    next => cases h
  case lookupswitch d ps =>
    simp only [opK] at h
    split at h
    next =>
      split at h
      next hh => exact ok_lsw A hK hdg hh h
      next => cases h
    next => cases h
end OK6
end
section
/-! ===== a world only grows ===== -/
def MO (w w' : XW) : Prop := w.length ≤ w'.length ∧ gs w ≤ gs w' ∧ w'[0]? = w[0]?
theorem MO.set {w : XW} {o' : Nat} {c0 c : XC} {w' : XW} (h : w[o' + 1]? = some c0) (hs : xsz c0 = xsz c) (k : MO (w.set (o' + 1) c) w') : MO w w' := by
  obtain ⟨e1, e2, e3⟩ := xw_same (base := 0) (b := 0) (cA := fun _ => 0) h hs
  obtain ⟨k1, k2, k3⟩ := k
  exact ⟨by omega, by omega, k3.trans e3⟩
theorem MO.push {w : XW} {c : XC} {w' : XW} (hw : 0 < w.length) (k : MO (w ++ [c]) w') : MO w w' := by
  obtain ⟨k1, k2, k3⟩ := k
  rw [List.length_append, List.length_singleton] at k1
  rw [gs_push] at k2
  exact ⟨by omega, by omega, k3.trans (by rw [List.getElem?_append_left hw])⟩
theorem MO.trans {a b c : XW} (h : MO a b) (k : MO b c) : MO a c := ⟨Nat.le_trans h.1 k.1, Nat.le_trans h.2.1 k.2.1, k.2.2.trans h.2.2⟩
theorem MO.rfl {a : XW} : MO a a := ⟨Nat.le_refl _, Nat.le_refl _, Eq.refl _⟩
def OM (F : Orc) : Prop := ∀ as w o, F as w = some o → MO w o.2
theorem om_init : OM oInit := by
  intro as w o h
  unfold oInit at h
  split at h
  next => cases h; exact MO.rfl
  next => cases h
theorem om_copy : OM oCopy := by
  intro as w o h
  unfold oCopy at h
  split at h
  next =>
    rename_i a i a2 j n
    cases hsc : sC w a i a2 j n with
    | none => rw [hsc] at h; cases h
    | some w1 =>
      rw [hsc] at h
      cases h
      unfold sC at hsc
      split at hsc
      next t xs1 t2 ys ha ha2 =>
        split at hsc
        next hh =>
          obtain ⟨rfl, rfl, q1, q2, q3, q4, q5, q6, q7⟩ := hh
          cases hsc
          obtain ⟨a2, rfl⟩ : ∃ a' : Nat, a2 = a' + 1 := ⟨a2 - 1, (Nat.sub_one_add_one q2).symm⟩
          refine MO.set ha2 ?_ MO.rfl
          simp only [xsz, List.length_append, List.length_take, List.length_drop]
          omega
        next => cases hsc
      next => cases hsc
  next => cases h
theorem opK_mono {nL rz : Nat} {fl : List (Nat × Nat × Nat × Nat)} {nl : List (Nat × Nat × List Value)} {kl : List (Nat × Int32)} {k2 : List (Nat × Int64)} {mv ms mi : List (Nat × Nat × Nat × Orc)} {o : XO}
    (hmv : ∀ q ∈ mv, OM q.2.2.2) (hms : ∀ q ∈ ms, OM q.2.2.2) (hmi : ∀ q ∈ mi, OM q.2.2.2) {K : Kont} (hK : ∀ pc ls st w, K pc ls st w = some o → MO w o.2)
    {pc : Nat} {ins : Instr} {ls : XL} {st : List Value} {w : XW} (h : opK nL rz fl nl kl k2 mv ms mi pc K ls st w ins = some o) : MO w o.2 := by
  have hsw : ∀ (d : Int) (x : Int32) (r : List Value) (ps : List (Int × Int)), swi pc d x (fun t => K t ls r w) ps = some o → MO w o.2 := by
    intro d x r ps
    induction ps with
    | nil => intro h; obtain ⟨_, _, h⟩ := tgo_of h; exact hK _ _ _ _ h
    | cons q ps ih =>
      obtain ⟨a, f⟩ := q
      intro h
      unfold swi at h
      split at h
      next => obtain ⟨_, _, h⟩ := tgo_of h; exact hK _ _ _ _ h
      next => exact ih h
  have hcall : ∀ (n rk : Nat) (F : Orc) (pc' : Nat), OM F → callK n rk F (fun s w' => K pc' ls s w') st w = some o → MO w o.2 := by
    intro n rk F pc' hF h
    obtain ⟨-, -, v, w', h3, h4⟩ := callK_of h
    exact (hF _ _ _ h3).trans (hK _ _ _ _ h4)
  cases ins <;> simp only [opK] at h <;> first
    | (cases h; done)
    | exact hK _ _ _ _ h
    | (obtain ⟨f, hf, h⟩ := some_of h; exact hcall _ _ _ _ (hmv _ (lk_mem hf)) h)
    | (obtain ⟨f, hf, h⟩ := some_of h; exact hcall _ _ _ _ (hms _ (lk_mem hf)) h)
    | (obtain ⟨f, hf, h⟩ := some_of h; exact hcall _ _ _ _ (hmi _ (lk_mem hf)) h)
    | (obtain ⟨_, _, h⟩ := some_of h; exact hK _ _ _ _ h)
    | (obtain ⟨_, _, h⟩ := tgo_of h; exact hK _ _ _ _ h)
    | (obtain ⟨_, _, _, _, h⟩ := bin_of h; exact hK _ _ _ _ h)
    | (obtain ⟨_, _, _, h⟩ := un_of h; exact hK _ _ _ _ h)
    | (split at h <;> first | (cases h; done) | exact hK _ _ _ _ h)
    | (split at h <;> first | (cases h; done) | (split at h <;> first | (cases h; done) | exact hK _ _ _ _ h))
    | skip
  case getfield i =>
    obtain ⟨f, hf, h⟩ := some_of h
    split at h
    next =>
      split at h
      next => obtain ⟨_, _, h⟩ := some_of h; exact hK _ _ _ _ h
      next => obtain ⟨_, _, h⟩ := some_of h; exact hK _ _ _ _ h
    next => cases h
  case putfield i =>
    obtain ⟨f, hf, h⟩ := some_of h
    split at h
    next =>
      split at h
      next =>
        obtain ⟨w', hw, hh⟩ := some_of h
        obtain ⟨fs, o', g1, g2, g3, rfl⟩ := pF_of hw
        subst g3
        exact MO.set g1 (by simp [xsz]) (hK _ _ _ _ hh)
      next => cases h
    next =>
      split at h
      next =>
        obtain ⟨w', hw, hh⟩ := some_of h
        obtain ⟨fs, o', g1, g2, g3, rfl⟩ := pF_of hw
        subst g3
        exact MO.set g1 (by simp [xsz]) (hK _ _ _ _ hh)
      next => cases h
    next => cases h
  case iaload => split at h <;> first | (cases h; done) | (obtain ⟨_, _, h⟩ := some_of h; exact hK _ _ _ _ h)
  case baload => split at h <;> first | (cases h; done) | (obtain ⟨_, _, h⟩ := some_of h; exact hK _ _ _ _ h)
  case arraylength => split at h <;> first | (cases h; done) | (obtain ⟨_, _, h⟩ := some_of h; exact hK _ _ _ _ h)
  case iastore =>
    split at h
    next =>
      obtain ⟨w', hw, h⟩ := some_of h
      obtain ⟨fs, o', rfl, g1, g2, rfl⟩ := sI_of hw
      exact MO.set g1 (by simp [xsz]) (hK _ _ _ _ h)
    next => cases h
  case bastore =>
    split at h
    next =>
      obtain ⟨w', hw, h⟩ := some_of h
      obtain ⟨fs, o', rfl, g1, g2, rfl⟩ := sZ_of hw
      exact MO.set g1 (by simp [xsz]) (hK _ _ _ _ h)
    next => cases h
  case newarray t =>
    split at h
    next =>
      split at h
      next =>
        split at h
        next hh => exact MO.push hh.2.2 (hK _ _ _ _ h)
        next => cases h
      next =>
        split at h
        next hh => exact MO.push hh.2.2 (hK _ _ _ _ h)
        next => cases h
      next => cases h
    next => cases h
  case new i =>
    obtain ⟨f, hf, h⟩ := some_of h
    split at h
    next hw => exact MO.push hw (hK _ _ _ _ h)
    next => cases h
  case ifCond cn off =>
    split at h
    next => split at h <;> split at h <;> first | exact hK _ _ _ _ h | (obtain ⟨_, _, h⟩ := tgo_of h; exact hK _ _ _ _ h)
    next => cases h
  case if_icmp cn off =>
    split at h
    next => split at h <;> split at h <;> first | exact hK _ _ _ _ h | (obtain ⟨_, _, h⟩ := tgo_of h; exact hK _ _ _ _ h)
    next => cases h
  case tableswitch d lo hi offs =>
    split at h
    next =>
      split at h
      next => exact hsw _ _ _ _ h
      next => cases h
    next => cases h
  case lookupswitch d ps =>
    split at h
    next =>
      split at h
      next => exact hsw _ _ _ _ h
      next => cases h
    next => cases h
  case ireturn =>
    split at h
    next =>
      split at h
      next => cases h; exact MO.rfl
      next =>
        split at h
        next =>
          unfold retZ at h
          split at h
          next => cases h; exact MO.rfl
          next =>
            split at h
            next => cases h; exact MO.rfl
            next => cases h
        next => cases h
    next => cases h
  case lreturn =>
    split at h
    next =>
      split at h
      next => cases h; exact MO.rfl
      next => cases h
    next => cases h
  case return_ =>
    split at h
    next =>
      split at h
      next => cases h; exact MO.rfl
      next => cases h
    next => cases h

/-! ===== a method out of its table ===== -/
def rzOf : Option FieldType → Nat
  | some .int => 0
  | some .boolean => 1
  | some .long => 2
  | none => 3
  | _ => 9
def chkT (cc : ByteArray) (T : List (Nat × Instr)) : Bool := T.all fun q => match decode cc q.1 with
  | .ok (i, len) => decide (i = q.2) && okAt q.1 i len
  | _ => false
theorem chkT_of {cc : ByteArray} {T : List (Nat × Instr)} (h : chkT cc T = true) {pc : Nat} {ins : Instr} (hl : lk T pc = some ins) : ∃ len, decode cc pc = .ok (ins, len) ∧ okAt pc ins len = true := by
  have h1 := List.all_eq_true.mp h _ (lk_mem hl)
  dsimp only at h1
  split at h1
  next i len hd =>
    obtain ⟨h2, h3⟩ := Bool.and_eq_true_iff.mp h1
    have h4 : i = ins := by simpa using h2
    subst h4
    exact ⟨len, hd, h3⟩
  next => cases h1
/-- a method's cuts: what a family of answers must do -/
def DS (T : List (Nat × Instr)) (op : Nat → Kont → XL → List Value → XW → Instr → Option XO) (cut : List Nat) (N : Nat) (Dn : Nat → Kont) : Prop :=
  (∀ pc ls st w, Dn 0 pc ls st w = none) ∧
  ∀ n pc ls st w o, Dn (n + 1) pc ls st w = some o → ∃ ks : XL, (∀ q ∈ ks, xL ls q.1 = some q.2) ∧ ev T op cut (Dn n) N pc ks st w = some o
theorem args_len (base b : Nat) (vs : List Value) : (lg_sl (vs.map (xv base b))).length = (lg_sl vs).length := by
  induction vs with
  | nil => rfl
  | cons v r ih =>
    unfold lg_sl at ih ⊢
    rw [List.map_cons, List.flatMap_cons, List.flatMap_cons, List.length_append, List.length_append, ih, xv_cat]
    by_cases h : v.category = 2 <;> simp [h]
theorem lv_args_map (base b : Nat) (vs : List Value) : ∀ i, lv_args i (vs.map (xv base b)) = xl base b (lv_args i vs) := by
  induction vs with
  | nil => intro i; rfl
  | cons v r ih =>
    intro i
    simp only [List.map_cons, lv_args, xv_cat]
    rw [ih]
    rfl
theorem ev_mono {nL rz : Nat} {fl : List (Nat × Nat × Nat × Nat)} {nl : List (Nat × Nat × List Value)} {kl : List (Nat × Int32)} {k2 : List (Nat × Int64)} {mv ms mi : List (Nat × Nat × Nat × Orc)} {o : XO}
    (hmv : ∀ q ∈ mv, OM q.2.2.2) (hms : ∀ q ∈ ms, OM q.2.2.2) (hmi : ∀ q ∈ mi, OM q.2.2.2) {T : List (Nat × Instr)} {cut : List Nat} {K : Kont} (hK : ∀ pc ls st w, K pc ls st w = some o → MO w o.2) :
    ∀ N pc ls st w, ev T (opK nL rz fl nl kl k2 mv ms mi) cut K N pc ls st w = some o → MO w o.2 := by
  intro N
  induction N with
  | zero => intro pc ls st w h; cases h
  | succ N ih =>
    intro pc ls st w h
    unfold ev opT at h
    obtain ⟨ins, -, h⟩ := some_of h
    refine opK_mono hmv hms hmi (fun pc' ls' st' w' h' => ?_) h
    cases hc : cut.elem pc' with
    | true => rw [hc] at h'; exact hK _ _ _ _ h'
    | false => rw [hc] at h'; exact ih _ _ _ _ h'
section RUN
variable {p : Program} {l : Launch} {e : Env} {R : Room} {s : State} {m : MethodId} {args : Array Value} {below : List Frame} {meth : Method} {c : Code} {Q : State → Prop}
variable {D : va_G} {cA : Nat → ClassId} {base b nL d rz : Nat} {own : String} {ini : Bool} {cc : ByteArray} {w0 : XW} {o : XO}
theorem ev_snd {fl : List (Nat × Nat × Nat × Nat)} {nl : List (Nat × Nat × List Value)} {kl : List (Nat × Int32)} {k2 : List (Nat × Int64)} {mv ms mi : List (Nat × Nat × Nat × Orc)}
    (hI : Jvm.Cond.arrayClass .int ∈ tblG) (hZ : Jvm.Cond.arrayClass .boolean ∈ tblG)
    (hfl : ∀ q ∈ fl, fOK own ini q) (hnl : ∀ q ∈ nl, nOK own q) (hkl : ∀ q ∈ kl, Jvm.Cond.constant own q.1 q.2 ∈ tblG) (hk2 : ∀ q ∈ k2, Jvm.Cond.constantLong own q.1 q.2 ∈ tblG)
    (hmv : ∀ q ∈ mv, vOK l D cA base b d own q) (hms : ∀ q ∈ ms, sOK l D cA base b d own q) (hmi : ∀ q ∈ mi, iOK l D cA base b d own q)
    {T : List (Nat × Instr)} (hT : chkT cc T = true) {cut : List Nat} (A : ACT p l e R s m args below meth c Q D cA base b nL d rz own ini cc w0 o) {K : Kont} (hK : KS p l e R s m args below meth c Q D cA base b nL w0 o K) :
    ∀ N, KS p l e R s m args below meth c Q D cA base b nL w0 o (ev T (opK nL rz fl nl kl k2 mv ms mi) cut K N) := by
  intro N
  induction N with
  | zero => intro pc ls st w h; cases h
  | succ N ih =>
    intro pc ls st w h
    unfold ev opT at h
    obtain ⟨ins, hl, h⟩ := some_of h
    obtain ⟨len, hd, hat⟩ := chkT_of hT hl
    refine opK_ok hI hZ hfl hnl hkl hk2 hmv hms hmi A (K := fun pc' ls' st' w' => bif cut.elem pc' then K pc' ls' st' w' else ev T (opK nL rz fl nl kl k2 mv ms mi) cut K N pc' ls' st' w') (fun pc' ls' st' w' h' => ?_) hd hat h
    dsimp only at h'
    cases hc : cut.elem pc' with
    | true => rw [hc] at h'; exact hK _ _ _ _ h'
    | false => rw [hc] at h'; exact ih _ _ _ _ h'
theorem ds_snd {fl : List (Nat × Nat × Nat × Nat)} {nl : List (Nat × Nat × List Value)} {kl : List (Nat × Int32)} {k2 : List (Nat × Int64)} {mv ms mi : List (Nat × Nat × Nat × Orc)}
    (hI : Jvm.Cond.arrayClass .int ∈ tblG) (hZ : Jvm.Cond.arrayClass .boolean ∈ tblG)
    (hfl : ∀ q ∈ fl, fOK own ini q) (hnl : ∀ q ∈ nl, nOK own q) (hkl : ∀ q ∈ kl, Jvm.Cond.constant own q.1 q.2 ∈ tblG) (hk2 : ∀ q ∈ k2, Jvm.Cond.constantLong own q.1 q.2 ∈ tblG)
    (hmv : ∀ q ∈ mv, vOK l D cA base b d own q) (hms : ∀ q ∈ ms, sOK l D cA base b d own q) (hmi : ∀ q ∈ mi, iOK l D cA base b d own q)
    {T : List (Nat × Instr)} (hT : chkT cc T = true) {cut : List Nat} {N : Nat} {Dn : Nat → Kont} (hD : DS T (opK nL rz fl nl kl k2 mv ms mi) cut N Dn) (A : ACT p l e R s m args below meth c Q D cA base b nL d rz own ini cc w0 o) :
    ∀ n, KS p l e R s m args below meth c Q D cA base b nL w0 o (Dn n) := by
  intro n
  induction n with
  | zero => intro pc ls st w h; rw [hD.1] at h; cases h
  | succ n ih =>
    intro pc ls st w h
    obtain ⟨ks, hks, h⟩ := hD.2 n pc ls st w o h
    obtain ⟨g1, g2, g3, g4⟩ := ev_snd hI hZ hfl hnl hkl hk2 hmv hms hmi hT A ih N _ _ _ _ h
    exact ⟨g1, g2, g3, fun H locs cells slots LS hl => g4 H locs cells slots LS (xl_sub hl hks)⟩
end RUN
set_option maxHeartbeats 4000000 in
theorem CS_of {l : Launch} {D : va_G} {cA : Nat → ClassId} {base b d : Nat} {y : MethodName} {cc : ByteArray} {nL : Nat} {ret : Option FieldType} {F : Orc}
    {fl : List (Nat × Nat × Nat × Nat)} {nl : List (Nat × Nat × List Value)} {kl : List (Nat × Int32)} {k2 : List (Nat × Int64)} {mv ms mi : List (Nat × Nat × Nat × Orc)} {ini : Bool}
    (hI : Jvm.Cond.arrayClass .int ∈ tblG) (hZ : Jvm.Cond.arrayClass .boolean ∈ tblG)
    (hfl : ∀ q ∈ fl, fOK y.cls ini q) (hnl : ∀ q ∈ nl, nOK y.cls q) (hkl : ∀ q ∈ kl, Jvm.Cond.constant y.cls q.1 q.2 ∈ tblG) (hk2 : ∀ q ∈ k2, Jvm.Cond.constantLong y.cls q.1 q.2 ∈ tblG)
    (hmv : ∀ q ∈ mv, vOK l D cA base b d y.cls q ∧ OM q.2.2.2) (hms : ∀ q ∈ ms, sOK l D cA base b d y.cls q ∧ OM q.2.2.2) (hmi : ∀ q ∈ mi, iOK l D cA base b d y.cls q ∧ OM q.2.2.2)
    {T : List (Nat × Instr)} (hT : chkT cc T = true) {cut : List Nat} {N : Nat} {Dn : Nat → Kont} (hD : DS T (opK nL (rzOf ret) fl nl kl k2 mv ms mi) cut N Dn)
    (hpl : plainName y.cls = true) (hini : ini = true → y.name = "<init>")
    (hF : ∀ as w o, F as w = some o → (lg_sl as).length ≤ nL ∧ ∃ n, ev T (opK nL (rzOf ret) fl nl kl k2 mv ms mi) cut (Dn n) N 0 (lv_args 0 as) [] w = some o) :
    CS l D cA base b (d + 1) y cc nL ret F ∧ OM F := by
  have hDm : ∀ n pc ls st w o, Dn n pc ls st w = some o → MO w o.2 := by
    intro n
    induction n with
    | zero => intro pc ls st w o h; rw [hD.1] at h; cases h
    | succ n ih =>
      intro pc ls st w o h
      obtain ⟨ks, -, h⟩ := hD.2 n pc ls st w o h
      exact ev_mono (fun q hq => (hmv q hq).2) (fun q hq => (hms q hq).2) (fun q hq => (hmi q hq).2) (fun pc ls st w h => ih pc ls st w o h) N _ _ _ _ h
  have hFm : OM F := by
    intro as w o h
    obtain ⟨-, n, h⟩ := hF as w o h
    exact ev_mono (fun q hq => (hmv q hq).2) (fun q hq => (hms q hq).2) (fun q hq => (hmi q hq).2) (fun pc ls st w h => hDm n pc ls st w o h) N _ _ _ _ h
  refine ⟨fun as w o h => ⟨(hFm _ _ _ h).1, (hFm _ _ _ h).2.1, (hFm _ _ _ h).2.2, fun mc ms' hmc hms' => ?_⟩, hFm⟩
  obtain ⟨hlen, n, hev⟩ := hF as w o h
  refine Met.ofW (cc := cc) (maxL := nL) (ret := ret) hpl rfl ?_
  intro p e s m args below meth c s₁ B hml hv
  obtain ⟨rfl, hXR⟩ := hv
  have hx := B.exec
  have hb := B.bytes
  have hr := B.returns
  have hts := atoms_spec (ws := .code y cc nL ret :: tblG) B.pre
  have hown : s.vm.findClass y.cls = some m.cls := findClass_of_methodNamed B.named
  have hlocks := B.notSynchronized
  have hin : ini = true → meth.name = "<init>" := fun q => (name_of_methodNamed B.named B.method).1.trans (hini q)
  have hwl := hXR.len
  have hbase : base ≤ s.heap.size := by have := hXR.2.2.2.2.1; omega
  have A : ACT p l e ({ frames := d + 1, cells := mc, slots := ms', locals := 100 * (d + 1) } : Room) s m (as.map (xv base b)).toArray below meth c (MQ below (QX D cA base b o) (as.map (xv base b)).toArray s mc ms' (fun q => base ≤ q)) D cA base b nL d (rzOf ret) y.cls ini cc w o := by
    refine ⟨⟨hx, hb, hml, hown⟩, fun w hw => hts w (List.mem_cons_of_mem _ hw), hXR, hin, hbase, ⟨Nat.le_refl _, by show 100 * d + 100 ≤ 100 * (d + 1); omega⟩, ?_⟩
    intro H locs cells slots LS pc hP hS h0 hc hs hr1 hr2 hv
    obtain rfl : cells = mc := by omega
    obtain rfl : slots = ms' := by omega
    refine W.sized fun z1 z2 => ?_
    have hQ : ∀ t : State, t.heap = H → s.WarmedH t.vm → QX D cA base b o (as.map (xv base b)).toArray s (.returned (o.1.map (xv base b))) t := by
      intro t ht hW
      obtain ⟨-, hKK, ⟨xs, hx0, hX⟩, hN, hsz, hbb⟩ := hXR
      have hol : 0 < o.2.length := by omega
      have hge := xw_size hP (by omega) hol
      have hXH : va_X b xs.length (fun j => xs.getD j 0) s H := hX.kept (hS.2.1 b (by omega) (by omega))
      refine ⟨rfl, ⟨by rw [ht]; exact hP, va_K.moved hW.alike hKK, ⟨xs, h0.trans hx0, by rw [ht]; exact va_X.moved hW.alike hXH⟩, fun n hn => tblN_warm hW hn (hN n hn), by rw [ht]; omega, hbb⟩, hS.F ht⟩
    have hf : ∀ q ∈ locs, (fun q => base ≤ q) q.base := hS.2.2
    obtain ⟨v, w'⟩ := o
    cases v with
    | none =>
      obtain ⟨hdg, hz⟩ := hv
      have hr0 : ret = none := by
        cases ret with
        | none => rfl
        | some t => cases t <;> simp [rzOf] at hz
      exact W.vret hx hb (by rw [hr, hr0]) hQ hf hdg hlocks
    | some v =>
      cases v with
      | int x =>
        obtain ⟨hdg, hz⟩ := hv
        rcases hz with hz | ⟨hz, hx01⟩
        · have hr0 : ret = some .int := by
            cases ret with
            | none => simp [rzOf] at hz
            | some t => cases t <;> first | rfl | simp [rzOf] at hz
          exact W.iret hx hb (by rw [hr, hr0]) hQ hf hdg hlocks
        · have hr0 : ret = some .boolean := by
            cases ret with
            | none => simp [rzOf] at hz
            | some t => cases t <;> first | rfl | simp [rzOf] at hz
          refine W.zret (ty := .boolean) hx hb (by rw [hr, hr0]) ?_ hQ hf hdg hlocks
          rcases hx01 with rfl | rfl <;> rfl
      | long x =>
        obtain ⟨hdg, hz⟩ := hv
        have hr0 : ret = some .long := by
          cases ret with
          | none => simp [rzOf] at hz
          | some t => cases t <;> first | rfl | simp [rzOf] at hz
        exact W.lret hx hb (by rw [hr, hr0]) hQ hf hdg hlocks
      | _ => exact hv.elim
  obtain ⟨-, -, -, hW⟩ := ev_snd hI hZ hfl hnl hkl hk2 (fun q hq => (hmv q hq).1) (fun q hq => (hms q hq).1) (fun q hq => (hmi q hq).1) hT A (ds_snd hI hZ hfl hnl hkl hk2 (fun q hq => (hmv q hq).1) (fun q hq => (hms q hq).1) (fun q hq => (hmi q hq).1) hT hD A n) N _ _ _ _ hev
  rw [lg_entry_eq]
  exact hW s.heap [] 0 0 _ (by rw [← lv_args_map]; exact lv_entry (as.map (xv base b)) (by rw [args_len]; exact hlen)) hXR.1 va_S.rf rfl (by omega) (by omega) (by show o.2.length ≤ mc + w.length; omega) (by show gs o.2 ≤ ms' + gs w; omega)
end
section
/-! laid by program (wip/whole/gen/part14.py): words by their places -/
set_option maxRecDepth 100000 in
theorem hI_w : Jvm.Cond.arrayClass .int ∈ tblG := tblG_of (i := 106) rfl rfl
set_option maxRecDepth 100000 in
theorem hZ_w : Jvm.Cond.arrayClass .boolean ∈ tblG := tblG_of (i := 847) rfl rfl
set_option maxRecDepth 100000 in
theorem uw_X0 : ∀ w ∈ u_ws RX0 TX0 15, w ∈ tblG := by
  show ∀ w ∈ [u_lay RX0 TX0 0, u_lay RX0 TX0 1, u_lay RX0 TX0 2, u_lay RX0 TX0 3, u_lay RX0 TX0 4, u_lay RX0 TX0 5, u_lay RX0 TX0 6, u_lay RX0 TX0 7, u_lay RX0 TX0 8, u_lay RX0 TX0 9, u_lay RX0 TX0 10, u_lay RX0 TX0 11, u_lay RX0 TX0 12, u_lay RX0 TX0 13, u_lay RX0 TX0 14], w ∈ tblG
  exact List.forall_mem_cons.mpr ⟨(tblG_of (i := 75) rfl rfl), List.forall_mem_cons.mpr ⟨(tblG_of (i := 77) rfl rfl), List.forall_mem_cons.mpr ⟨(tblG_of (i := 79) rfl rfl), List.forall_mem_cons.mpr ⟨(tblG_of (i := 81) rfl rfl), List.forall_mem_cons.mpr ⟨(tblG_of (i := 83) rfl rfl), List.forall_mem_cons.mpr ⟨(tblG_of (i := 85) rfl rfl), List.forall_mem_cons.mpr ⟨(tblG_of (i := 87) rfl rfl), List.forall_mem_cons.mpr ⟨(tblG_of (i := 89) rfl rfl), List.forall_mem_cons.mpr ⟨(tblG_of (i := 91) rfl rfl), List.forall_mem_cons.mpr ⟨(tblG_of (i := 93) rfl rfl), List.forall_mem_cons.mpr ⟨(tblG_of (i := 95) rfl rfl), List.forall_mem_cons.mpr ⟨(tblG_of (i := 97) rfl rfl), List.forall_mem_cons.mpr ⟨(tblG_of (i := 99) rfl rfl), List.forall_mem_cons.mpr ⟨(tblG_of (i := 101) rfl rfl), List.forall_mem_cons.mpr ⟨(tblG_of (i := 103) rfl rfl), fun _ h => absurd h List.not_mem_nil⟩⟩⟩⟩⟩⟩⟩⟩⟩⟩⟩⟩⟩⟩⟩
set_option maxRecDepth 100000 in
theorem uw_X1 : ∀ w ∈ u_ws RX1 TX1 3, w ∈ tblG := by
  show ∀ w ∈ [u_lay RX1 TX1 0, u_lay RX1 TX1 1, u_lay RX1 TX1 2], w ∈ tblG
  exact List.forall_mem_cons.mpr ⟨(tblG_of (i := 165) rfl rfl), List.forall_mem_cons.mpr ⟨(tblG_of (i := 167) rfl rfl), List.forall_mem_cons.mpr ⟨(tblG_of (i := 169) rfl rfl), fun _ h => absurd h List.not_mem_nil⟩⟩⟩
set_option maxRecDepth 100000 in
theorem uw_X2 : ∀ w ∈ u_ws RX2 TX2 2, w ∈ tblG := by
  show ∀ w ∈ [u_lay RX2 TX2 0, u_lay RX2 TX2 1], w ∈ tblG
  exact List.forall_mem_cons.mpr ⟨(tblG_of (i := 225) rfl rfl), List.forall_mem_cons.mpr ⟨(tblG_of (i := 227) rfl rfl), fun _ h => absurd h List.not_mem_nil⟩⟩
set_option maxRecDepth 100000 in
theorem uw_X3 : ∀ w ∈ u_ws RX3 TX3 11, w ∈ tblG := by
  show ∀ w ∈ [u_lay RX3 TX3 0, u_lay RX3 TX3 1, u_lay RX3 TX3 2, u_lay RX3 TX3 3, u_lay RX3 TX3 4, u_lay RX3 TX3 5, u_lay RX3 TX3 6, u_lay RX3 TX3 7, u_lay RX3 TX3 8, u_lay RX3 TX3 9, u_lay RX3 TX3 10], w ∈ tblG
  exact List.forall_mem_cons.mpr ⟨(tblG_of (i := 194) rfl rfl), List.forall_mem_cons.mpr ⟨(tblG_of (i := 196) rfl rfl), List.forall_mem_cons.mpr ⟨(tblG_of (i := 198) rfl rfl), List.forall_mem_cons.mpr ⟨(tblG_of (i := 200) rfl rfl), List.forall_mem_cons.mpr ⟨(tblG_of (i := 202) rfl rfl), List.forall_mem_cons.mpr ⟨(tblG_of (i := 204) rfl rfl), List.forall_mem_cons.mpr ⟨(tblG_of (i := 206) rfl rfl), List.forall_mem_cons.mpr ⟨(tblG_of (i := 208) rfl rfl), List.forall_mem_cons.mpr ⟨(tblG_of (i := 210) rfl rfl), List.forall_mem_cons.mpr ⟨(tblG_of (i := 212) rfl rfl), List.forall_mem_cons.mpr ⟨(tblG_of (i := 214) rfl rfl), fun _ h => absurd h List.not_mem_nil⟩⟩⟩⟩⟩⟩⟩⟩⟩⟩⟩
set_option maxRecDepth 100000 in
theorem uw_X4 : ∀ w ∈ u_ws RX4 TX4 3, w ∈ tblG := by
  show ∀ w ∈ [u_lay RX4 TX4 0, u_lay RX4 TX4 1, u_lay RX4 TX4 2], w ∈ tblG
  exact List.forall_mem_cons.mpr ⟨(tblG_of (i := 119) rfl rfl), List.forall_mem_cons.mpr ⟨(tblG_of (i := 121) rfl rfl), List.forall_mem_cons.mpr ⟨(tblG_of (i := 123) rfl rfl), fun _ h => absurd h List.not_mem_nil⟩⟩⟩
set_option maxRecDepth 100000 in
theorem uw_X6 : ∀ w ∈ u_ws RX6 TX6 6, w ∈ tblG := by
  show ∀ w ∈ [u_lay RX6 TX6 0, u_lay RX6 TX6 1, u_lay RX6 TX6 2, u_lay RX6 TX6 3, u_lay RX6 TX6 4, u_lay RX6 TX6 5], w ∈ tblG
  exact List.forall_mem_cons.mpr ⟨(tblG_of (i := 139) rfl rfl), List.forall_mem_cons.mpr ⟨(tblG_of (i := 141) rfl rfl), List.forall_mem_cons.mpr ⟨(tblG_of (i := 143) rfl rfl), List.forall_mem_cons.mpr ⟨(tblG_of (i := 145) rfl rfl), List.forall_mem_cons.mpr ⟨(tblG_of (i := 147) rfl rfl), List.forall_mem_cons.mpr ⟨(tblG_of (i := 149) rfl rfl), fun _ h => absurd h List.not_mem_nil⟩⟩⟩⟩⟩⟩
set_option maxRecDepth 100000 in
theorem uw_X7 : ∀ w ∈ u_ws RX7 TX7 8, w ∈ tblG := by
  show ∀ w ∈ [u_lay RX7 TX7 0, u_lay RX7 TX7 1, u_lay RX7 TX7 2, u_lay RX7 TX7 3, u_lay RX7 TX7 4, u_lay RX7 TX7 5, u_lay RX7 TX7 6, u_lay RX7 TX7 7], w ∈ tblG
  exact List.forall_mem_cons.mpr ⟨(tblG_of (i := 238) rfl rfl), List.forall_mem_cons.mpr ⟨(tblG_of (i := 240) rfl rfl), List.forall_mem_cons.mpr ⟨(tblG_of (i := 242) rfl rfl), List.forall_mem_cons.mpr ⟨(tblG_of (i := 244) rfl rfl), List.forall_mem_cons.mpr ⟨(tblG_of (i := 246) rfl rfl), List.forall_mem_cons.mpr ⟨(tblG_of (i := 248) rfl rfl), List.forall_mem_cons.mpr ⟨(tblG_of (i := 250) rfl rfl), List.forall_mem_cons.mpr ⟨(tblG_of (i := 252) rfl rfl), fun _ h => absurd h List.not_mem_nil⟩⟩⟩⟩⟩⟩⟩⟩
set_option maxRecDepth 100000 in
theorem uw_X8 : ∀ w ∈ u_ws RX8 TX8 37, w ∈ tblG := by
  show ∀ w ∈ [u_lay RX8 TX8 0, u_lay RX8 TX8 1, u_lay RX8 TX8 2, u_lay RX8 TX8 3, u_lay RX8 TX8 4, u_lay RX8 TX8 5, u_lay RX8 TX8 6, u_lay RX8 TX8 7, u_lay RX8 TX8 8, u_lay RX8 TX8 9, u_lay RX8 TX8 10, u_lay RX8 TX8 11, u_lay RX8 TX8 12, u_lay RX8 TX8 13, u_lay RX8 TX8 14, u_lay RX8 TX8 15, u_lay RX8 TX8 16, u_lay RX8 TX8 17, u_lay RX8 TX8 18, u_lay RX8 TX8 19, u_lay RX8 TX8 20, u_lay RX8 TX8 21, u_lay RX8 TX8 22, u_lay RX8 TX8 23, u_lay RX8 TX8 24, u_lay RX8 TX8 25, u_lay RX8 TX8 26, u_lay RX8 TX8 27, u_lay RX8 TX8 28, u_lay RX8 TX8 29, u_lay RX8 TX8 30, u_lay RX8 TX8 31, u_lay RX8 TX8 32, u_lay RX8 TX8 33, u_lay RX8 TX8 34, u_lay RX8 TX8 35, u_lay RX8 TX8 36], w ∈ tblG
  exact List.forall_mem_cons.mpr ⟨(tblG_of (i := 772) rfl rfl), List.forall_mem_cons.mpr ⟨(tblG_of (i := 774) rfl rfl), List.forall_mem_cons.mpr ⟨(tblG_of (i := 776) rfl rfl), List.forall_mem_cons.mpr ⟨(tblG_of (i := 778) rfl rfl), List.forall_mem_cons.mpr ⟨(tblG_of (i := 780) rfl rfl), List.forall_mem_cons.mpr ⟨(tblG_of (i := 782) rfl rfl), List.forall_mem_cons.mpr ⟨(tblG_of (i := 784) rfl rfl), List.forall_mem_cons.mpr ⟨(tblG_of (i := 786) rfl rfl), List.forall_mem_cons.mpr ⟨(tblG_of (i := 788) rfl rfl), List.forall_mem_cons.mpr ⟨(tblG_of (i := 790) rfl rfl), List.forall_mem_cons.mpr ⟨(tblG_of (i := 792) rfl rfl), List.forall_mem_cons.mpr ⟨(tblG_of (i := 794) rfl rfl), List.forall_mem_cons.mpr ⟨(tblG_of (i := 796) rfl rfl), List.forall_mem_cons.mpr ⟨(tblG_of (i := 798) rfl rfl), List.forall_mem_cons.mpr ⟨(tblG_of (i := 800) rfl rfl), List.forall_mem_cons.mpr ⟨(tblG_of (i := 802) rfl rfl), List.forall_mem_cons.mpr ⟨(tblG_of (i := 804) rfl rfl), List.forall_mem_cons.mpr ⟨(tblG_of (i := 806) rfl rfl), List.forall_mem_cons.mpr ⟨(tblG_of (i := 808) rfl rfl), List.forall_mem_cons.mpr ⟨(tblG_of (i := 810) rfl rfl), List.forall_mem_cons.mpr ⟨(tblG_of (i := 812) rfl rfl), List.forall_mem_cons.mpr ⟨(tblG_of (i := 814) rfl rfl), List.forall_mem_cons.mpr ⟨(tblG_of (i := 816) rfl rfl), List.forall_mem_cons.mpr ⟨(tblG_of (i := 818) rfl rfl), List.forall_mem_cons.mpr ⟨(tblG_of (i := 820) rfl rfl), List.forall_mem_cons.mpr ⟨(tblG_of (i := 822) rfl rfl), List.forall_mem_cons.mpr ⟨(tblG_of (i := 824) rfl rfl), List.forall_mem_cons.mpr ⟨(tblG_of (i := 826) rfl rfl), List.forall_mem_cons.mpr ⟨(tblG_of (i := 828) rfl rfl), List.forall_mem_cons.mpr ⟨(tblG_of (i := 830) rfl rfl), List.forall_mem_cons.mpr ⟨(tblG_of (i := 832) rfl rfl), List.forall_mem_cons.mpr ⟨(tblG_of (i := 834) rfl rfl), List.forall_mem_cons.mpr ⟨(tblG_of (i := 836) rfl rfl), List.forall_mem_cons.mpr ⟨(tblG_of (i := 838) rfl rfl), List.forall_mem_cons.mpr ⟨(tblG_of (i := 840) rfl rfl), List.forall_mem_cons.mpr ⟨(tblG_of (i := 842) rfl rfl), List.forall_mem_cons.mpr ⟨(tblG_of (i := 844) rfl rfl), fun _ h => absurd h List.not_mem_nil⟩⟩⟩⟩⟩⟩⟩⟩⟩⟩⟩⟩⟩⟩⟩⟩⟩⟩⟩⟩⟩⟩⟩⟩⟩⟩⟩⟩⟩⟩⟩⟩⟩⟩⟩⟩⟩
def y_X0_init : MethodName := ⟨"BrookStones$Brook", "<init>", "()V"⟩
set_option maxRecDepth 100000 in
theorem mi_X0_init : Jvm.Cond.code y_X0_init prog_2_method_1_code 1 (none) ∈ tblG ∧ Jvm.Cond.initialized y_X0_init.cls ∈ tblG ∧ Jvm.Cond.instanceMethod y_X0_init ∈ tblG ∧ pl3 y_X0_init 0 := ⟨tblG_of (i := 26) rfl rfl, tblG_of (i := 2) rfl rfl, tblG_of (i := 25) rfl rfl, ⟨by decide +kernel, by decide +kernel, by decide +kernel⟩⟩
def y_X0_makeAnew : MethodName := ⟨"BrookStones$Brook", "makeAnew", "()V"⟩
set_option maxRecDepth 100000 in
theorem mi_X0_makeAnew : Jvm.Cond.code y_X0_makeAnew prog_2_method_2_code 1 (none) ∈ tblG ∧ Jvm.Cond.initialized y_X0_makeAnew.cls ∈ tblG ∧ Jvm.Cond.instanceMethod y_X0_makeAnew ∈ tblG ∧ Jvm.Cond.selects y_X0_makeAnew.cls y_X0_makeAnew y_X0_makeAnew ∈ tblG ∧ pl3 y_X0_makeAnew 0 := ⟨tblG_of (i := 317) rfl rfl, tblG_of (i := 2) rfl rfl, tblG_of (i := 316) rfl rfl, tblG_sel (q := (y_X0_makeAnew, 15)) (List.mem_of_getElem? (i := 6) rfl), ⟨by decide +kernel, by decide +kernel, by decide +kernel⟩⟩
def y_X0_isThere : MethodName := ⟨"BrookStones$Brook", "isThere", "()Z"⟩
set_option maxRecDepth 100000 in
theorem mi_X0_isThere : Jvm.Cond.code y_X0_isThere prog_2_method_3_code 1 (some .boolean) ∈ tblG ∧ Jvm.Cond.initialized y_X0_isThere.cls ∈ tblG ∧ Jvm.Cond.instanceMethod y_X0_isThere ∈ tblG ∧ Jvm.Cond.selects y_X0_isThere.cls y_X0_isThere y_X0_isThere ∈ tblG ∧ pl3 y_X0_isThere 0 := ⟨tblG_of (i := 348) rfl rfl, tblG_of (i := 2) rfl rfl, tblG_of (i := 347) rfl rfl, tblG_sel (q := (y_X0_isThere, 15)) (List.mem_of_getElem? (i := 9) rfl), ⟨by decide +kernel, by decide +kernel, by decide +kernel⟩⟩
def y_X0_isCell : MethodName := ⟨"BrookStones$Brook", "isCell", "(I)Z"⟩
set_option maxRecDepth 100000 in
theorem mi_X0_isCell : Jvm.Cond.code y_X0_isCell prog_2_method_4_code 2 (some .boolean) ∈ tblG ∧ Jvm.Cond.initialized y_X0_isCell.cls ∈ tblG ∧ Jvm.Cond.instanceMethod y_X0_isCell ∈ tblG ∧ Jvm.Cond.selects y_X0_isCell.cls y_X0_isCell y_X0_isCell ∈ tblG ∧ pl3 y_X0_isCell 1 := ⟨tblG_of (i := 328) rfl rfl, tblG_of (i := 2) rfl rfl, tblG_of (i := 327) rfl rfl, tblG_sel (q := (y_X0_isCell, 15)) (List.mem_of_getElem? (i := 7) rfl), ⟨by decide +kernel, by decide +kernel, by decide +kernel⟩⟩
def y_X0_isStone : MethodName := ⟨"BrookStones$Brook", "isStone", "(I)Z"⟩
set_option maxRecDepth 100000 in
theorem mi_X0_isStone : Jvm.Cond.code y_X0_isStone prog_2_method_5_code 2 (some .boolean) ∈ tblG ∧ Jvm.Cond.initialized y_X0_isStone.cls ∈ tblG ∧ Jvm.Cond.instanceMethod y_X0_isStone ∈ tblG ∧ Jvm.Cond.selects y_X0_isStone.cls y_X0_isStone y_X0_isStone ∈ tblG ∧ pl3 y_X0_isStone 1 := ⟨tblG_of (i := 364) rfl rfl, tblG_of (i := 2) rfl rfl, tblG_of (i := 363) rfl rfl, tblG_sel (q := (y_X0_isStone, 15)) (List.mem_of_getElem? (i := 11) rfl), ⟨by decide +kernel, by decide +kernel, by decide +kernel⟩⟩
def y_X0_isWalker : MethodName := ⟨"BrookStones$Brook", "isWalker", "(I)Z"⟩
set_option maxRecDepth 100000 in
theorem mi_X0_isWalker : Jvm.Cond.code y_X0_isWalker prog_2_method_6_code 2 (some .boolean) ∈ tblG ∧ Jvm.Cond.initialized y_X0_isWalker.cls ∈ tblG ∧ Jvm.Cond.instanceMethod y_X0_isWalker ∈ tblG ∧ Jvm.Cond.selects y_X0_isWalker.cls y_X0_isWalker y_X0_isWalker ∈ tblG ∧ pl3 y_X0_isWalker 1 := ⟨tblG_of (i := 405) rfl rfl, tblG_of (i := 2) rfl rfl, tblG_of (i := 404) rfl rfl, tblG_sel (q := (y_X0_isWalker, 15)) (List.mem_of_getElem? (i := 17) rfl), ⟨by decide +kernel, by decide +kernel, by decide +kernel⟩⟩
def y_X0_addStone : MethodName := ⟨"BrookStones$Brook", "addStone", "(IIII)I"⟩
set_option maxRecDepth 100000 in
theorem mi_X0_addStone : Jvm.Cond.code y_X0_addStone prog_2_method_7_code 5 (some .int) ∈ tblG ∧ Jvm.Cond.initialized y_X0_addStone.cls ∈ tblG ∧ Jvm.Cond.instanceMethod y_X0_addStone ∈ tblG ∧ Jvm.Cond.selects y_X0_addStone.cls y_X0_addStone y_X0_addStone ∈ tblG ∧ pl3 y_X0_addStone 4 := ⟨tblG_of (i := 356) rfl rfl, tblG_of (i := 2) rfl rfl, tblG_of (i := 355) rfl rfl, tblG_sel (q := (y_X0_addStone, 15)) (List.mem_of_getElem? (i := 10) rfl), ⟨by decide +kernel, by decide +kernel, by decide +kernel⟩⟩
def y_X0_addWalker : MethodName := ⟨"BrookStones$Brook", "addWalker", "(I)I"⟩
set_option maxRecDepth 100000 in
theorem mi_X0_addWalker : Jvm.Cond.code y_X0_addWalker prog_2_method_8_code 2 (some .int) ∈ tblG ∧ Jvm.Cond.initialized y_X0_addWalker.cls ∈ tblG ∧ Jvm.Cond.instanceMethod y_X0_addWalker ∈ tblG ∧ Jvm.Cond.selects y_X0_addWalker.cls y_X0_addWalker y_X0_addWalker ∈ tblG ∧ pl3 y_X0_addWalker 1 := ⟨tblG_of (i := 397) rfl rfl, tblG_of (i := 2) rfl rfl, tblG_of (i := 396) rfl rfl, tblG_sel (q := (y_X0_addWalker, 15)) (List.mem_of_getElem? (i := 16) rfl), ⟨by decide +kernel, by decide +kernel, by decide +kernel⟩⟩
def y_X0_reachOf : MethodName := ⟨"BrookStones$Brook", "reachOf", "(IZ)I"⟩
set_option maxRecDepth 100000 in
theorem mi_X0_reachOf : Jvm.Cond.code y_X0_reachOf prog_2_method_9_code 3 (some .int) ∈ tblG ∧ Jvm.Cond.initialized y_X0_reachOf.cls ∈ tblG ∧ Jvm.Cond.instanceMethod y_X0_reachOf ∈ tblG ∧ Jvm.Cond.selects y_X0_reachOf.cls y_X0_reachOf y_X0_reachOf ∈ tblG ∧ pl3 y_X0_reachOf 2 := ⟨tblG_of (i := 421) rfl rfl, tblG_of (i := 2) rfl rfl, tblG_of (i := 420) rfl rfl, tblG_sel (q := (y_X0_reachOf, 15)) (List.mem_of_getElem? (i := 20) rfl), ⟨by decide +kernel, by decide +kernel, by decide +kernel⟩⟩
def y_X0_holdOf : MethodName := ⟨"BrookStones$Brook", "holdOf", "(I)I"⟩
set_option maxRecDepth 100000 in
theorem mi_X0_holdOf : Jvm.Cond.code y_X0_holdOf prog_2_method_10_code 2 (some .int) ∈ tblG ∧ Jvm.Cond.initialized y_X0_holdOf.cls ∈ tblG ∧ Jvm.Cond.instanceMethod y_X0_holdOf ∈ tblG ∧ Jvm.Cond.selects y_X0_holdOf.cls y_X0_holdOf y_X0_holdOf ∈ tblG ∧ pl3 y_X0_holdOf 1 := ⟨tblG_of (i := 368) rfl rfl, tblG_of (i := 2) rfl rfl, tblG_of (i := 367) rfl rfl, tblG_sel (q := (y_X0_holdOf, 15)) (List.mem_of_getElem? (i := 12) rfl), ⟨by decide +kernel, by decide +kernel, by decide +kernel⟩⟩
def y_X0_easeOf : MethodName := ⟨"BrookStones$Brook", "easeOf", "(I)I"⟩
set_option maxRecDepth 100000 in
theorem mi_X0_easeOf : Jvm.Cond.code y_X0_easeOf prog_2_method_11_code 2 (some .int) ∈ tblG ∧ Jvm.Cond.initialized y_X0_easeOf.cls ∈ tblG ∧ Jvm.Cond.instanceMethod y_X0_easeOf ∈ tblG ∧ Jvm.Cond.selects y_X0_easeOf.cls y_X0_easeOf y_X0_easeOf ∈ tblG ∧ pl3 y_X0_easeOf 1 := ⟨tblG_of (i := 550) rfl rfl, tblG_of (i := 2) rfl rfl, tblG_of (i := 549) rfl rfl, tblG_sel (q := (y_X0_easeOf, 15)) (List.mem_of_getElem? (i := 34) rfl), ⟨by decide +kernel, by decide +kernel, by decide +kernel⟩⟩
def y_X0_workOf : MethodName := ⟨"BrookStones$Brook", "workOf", "(II)I"⟩
set_option maxRecDepth 100000 in
theorem mi_X0_workOf : Jvm.Cond.code y_X0_workOf prog_2_method_12_code 4 (some .int) ∈ tblG ∧ Jvm.Cond.initialized y_X0_workOf.cls ∈ tblG ∧ Jvm.Cond.instanceMethod y_X0_workOf ∈ tblG ∧ Jvm.Cond.selects y_X0_workOf.cls y_X0_workOf y_X0_workOf ∈ tblG ∧ pl3 y_X0_workOf 2 := ⟨tblG_of (i := 389) rfl rfl, tblG_of (i := 2) rfl rfl, tblG_of (i := 388) rfl rfl, tblG_sel (q := (y_X0_workOf, 15)) (List.mem_of_getElem? (i := 15) rfl), ⟨by decide +kernel, by decide +kernel, by decide +kernel⟩⟩
def y_X0_topOf : MethodName := ⟨"BrookStones$Brook", "topOf", "(III)I"⟩
set_option maxRecDepth 100000 in
theorem mi_X0_topOf : Jvm.Cond.code y_X0_topOf prog_2_method_13_code 4 (some .int) ∈ tblG ∧ Jvm.Cond.initialized y_X0_topOf.cls ∈ tblG ∧ Jvm.Cond.instanceMethod y_X0_topOf ∈ tblG ∧ Jvm.Cond.selects y_X0_topOf.cls y_X0_topOf y_X0_topOf ∈ tblG ∧ pl3 y_X0_topOf 3 := ⟨tblG_of (i := 335) rfl rfl, tblG_of (i := 2) rfl rfl, tblG_of (i := 334) rfl rfl, tblG_sel (q := (y_X0_topOf, 15)) (List.mem_of_getElem? (i := 8) rfl), ⟨by decide +kernel, by decide +kernel, by decide +kernel⟩⟩
def y_X0_cellOf : MethodName := ⟨"BrookStones$Brook", "cellOf", "(I)I"⟩
set_option maxRecDepth 100000 in
theorem mi_X0_cellOf : Jvm.Cond.code y_X0_cellOf prog_2_method_14_code 3 (some .int) ∈ tblG ∧ Jvm.Cond.initialized y_X0_cellOf.cls ∈ tblG ∧ Jvm.Cond.instanceMethod y_X0_cellOf ∈ tblG ∧ Jvm.Cond.selects y_X0_cellOf.cls y_X0_cellOf y_X0_cellOf ∈ tblG ∧ pl3 y_X0_cellOf 1 := ⟨tblG_of (i := 372) rfl rfl, tblG_of (i := 2) rfl rfl, tblG_of (i := 371) rfl rfl, tblG_sel (q := (y_X0_cellOf, 15)) (List.mem_of_getElem? (i := 13) rfl), ⟨by decide +kernel, by decide +kernel, by decide +kernel⟩⟩
def y_X0_takeUp : MethodName := ⟨"BrookStones$Brook", "takeUp", "(I)V"⟩
set_option maxRecDepth 100000 in
theorem mi_X0_takeUp : Jvm.Cond.code y_X0_takeUp prog_2_method_15_code 3 (none) ∈ tblG ∧ Jvm.Cond.initialized y_X0_takeUp.cls ∈ tblG ∧ Jvm.Cond.instanceMethod y_X0_takeUp ∈ tblG ∧ Jvm.Cond.selects y_X0_takeUp.cls y_X0_takeUp y_X0_takeUp ∈ tblG ∧ pl3 y_X0_takeUp 1 := ⟨tblG_of (i := 380) rfl rfl, tblG_of (i := 2) rfl rfl, tblG_of (i := 379) rfl rfl, tblG_sel (q := (y_X0_takeUp, 15)) (List.mem_of_getElem? (i := 14) rfl), ⟨by decide +kernel, by decide +kernel, by decide +kernel⟩⟩
def y_X0_loseStonesOf : MethodName := ⟨"BrookStones$Brook", "loseStonesOf", "(I)V"⟩
set_option maxRecDepth 100000 in
theorem mi_X0_loseStonesOf : Jvm.Cond.code y_X0_loseStonesOf prog_2_method_16_code 3 (none) ∈ tblG ∧ Jvm.Cond.initialized y_X0_loseStonesOf.cls ∈ tblG ∧ Jvm.Cond.instanceMethod y_X0_loseStonesOf ∈ tblG ∧ Jvm.Cond.selects y_X0_loseStonesOf.cls y_X0_loseStonesOf y_X0_loseStonesOf ∈ tblG ∧ pl3 y_X0_loseStonesOf 1 := ⟨tblG_of (i := 514) rfl rfl, tblG_of (i := 2) rfl rfl, tblG_of (i := 513) rfl rfl, tblG_sel (q := (y_X0_loseStonesOf, 15)) (List.mem_of_getElem? (i := 30) rfl), ⟨by decide +kernel, by decide +kernel, by decide +kernel⟩⟩
def y_X0_filled : MethodName := ⟨"BrookStones$Brook", "filled", "()I"⟩
set_option maxRecDepth 100000 in
theorem mi_X0_filled : Jvm.Cond.code y_X0_filled prog_2_method_17_code 1 (some .int) ∈ tblG ∧ Jvm.Cond.initialized y_X0_filled.cls ∈ tblG ∧ Jvm.Cond.instanceMethod y_X0_filled ∈ tblG ∧ Jvm.Cond.selects y_X0_filled.cls y_X0_filled y_X0_filled ∈ tblG ∧ pl3 y_X0_filled 0 := ⟨tblG_of (i := 413) rfl rfl, tblG_of (i := 2) rfl rfl, tblG_of (i := 412) rfl rfl, tblG_sel (q := (y_X0_filled, 15)) (List.mem_of_getElem? (i := 18) rfl), ⟨by decide +kernel, by decide +kernel, by decide +kernel⟩⟩
def y_X0_ofKind : MethodName := ⟨"BrookStones$Brook", "ofKind", "(I)I"⟩
set_option maxRecDepth 100000 in
theorem mi_X0_ofKind : Jvm.Cond.code y_X0_ofKind prog_2_method_18_code 4 (some .int) ∈ tblG ∧ Jvm.Cond.initialized y_X0_ofKind.cls ∈ tblG ∧ Jvm.Cond.instanceMethod y_X0_ofKind ∈ tblG ∧ Jvm.Cond.selects y_X0_ofKind.cls y_X0_ofKind y_X0_ofKind ∈ tblG ∧ pl3 y_X0_ofKind 1 := ⟨tblG_of (i := 417) rfl rfl, tblG_of (i := 2) rfl rfl, tblG_of (i := 416) rfl rfl, tblG_sel (q := (y_X0_ofKind, 15)) (List.mem_of_getElem? (i := 19) rfl), ⟨by decide +kernel, by decide +kernel, by decide +kernel⟩⟩
def y_X0_dry : MethodName := ⟨"BrookStones$Brook", "dry", "(I)I"⟩
set_option maxRecDepth 100000 in
theorem mi_X0_dry : Jvm.Cond.code y_X0_dry prog_2_method_19_code 4 (some .int) ∈ tblG ∧ Jvm.Cond.initialized y_X0_dry.cls ∈ tblG ∧ Jvm.Cond.instanceMethod y_X0_dry ∈ tblG ∧ Jvm.Cond.selects y_X0_dry.cls y_X0_dry y_X0_dry ∈ tblG ∧ pl3 y_X0_dry 1 := ⟨tblG_of (i := 429) rfl rfl, tblG_of (i := 2) rfl rfl, tblG_of (i := 428) rfl rfl, tblG_sel (q := (y_X0_dry, 15)) (List.mem_of_getElem? (i := 22) rfl), ⟨by decide +kernel, by decide +kernel, by decide +kernel⟩⟩
def y_X0_isCrossed : MethodName := ⟨"BrookStones$Brook", "isCrossed", "(III)Z"⟩
set_option maxRecDepth 100000 in
theorem mi_X0_isCrossed : Jvm.Cond.code y_X0_isCrossed prog_2_method_20_code 4 (some .boolean) ∈ tblG ∧ Jvm.Cond.initialized y_X0_isCrossed.cls ∈ tblG ∧ Jvm.Cond.instanceMethod y_X0_isCrossed ∈ tblG ∧ Jvm.Cond.selects y_X0_isCrossed.cls y_X0_isCrossed y_X0_isCrossed ∈ tblG ∧ pl3 y_X0_isCrossed 3 := ⟨tblG_of (i := 425) rfl rfl, tblG_of (i := 2) rfl rfl, tblG_of (i := 424) rfl rfl, tblG_sel (q := (y_X0_isCrossed, 15)) (List.mem_of_getElem? (i := 21) rfl), ⟨by decide +kernel, by decide +kernel, by decide +kernel⟩⟩
def y_X1_init : MethodName := ⟨"BrookStones$Flood", "<init>", "()V"⟩
set_option maxRecDepth 100000 in
theorem mi_X1_init : Jvm.Cond.code y_X1_init prog_3_method_1_code 1 (none) ∈ tblG ∧ Jvm.Cond.initialized y_X1_init.cls ∈ tblG ∧ Jvm.Cond.instanceMethod y_X1_init ∈ tblG ∧ pl3 y_X1_init 0 := ⟨tblG_of (i := 156) rfl rfl, tblG_of (i := 6) rfl rfl, tblG_of (i := 155) rfl rfl, ⟨by decide +kernel, by decide +kernel, by decide +kernel⟩⟩
def y_X1_run : MethodName := ⟨"BrookStones$Flood", "run", "(LBrookStones$Brook;[IIII)V"⟩
set_option maxRecDepth 100000 in
theorem mi_X1_run : Jvm.Cond.code y_X1_run prog_3_method_2_code 8 (none) ∈ tblG ∧ Jvm.Cond.initialized y_X1_run.cls ∈ tblG ∧ Jvm.Cond.instanceMethod y_X1_run ∈ tblG ∧ Jvm.Cond.selects y_X1_run.cls y_X1_run y_X1_run ∈ tblG ∧ pl3 y_X1_run 5 := ⟨tblG_of (i := 489) rfl rfl, tblG_of (i := 6) rfl rfl, tblG_of (i := 488) rfl rfl, tblG_sel (q := (y_X1_run, 3)) (List.mem_of_getElem? (i := 28) rfl), ⟨by decide +kernel, by decide +kernel, by decide +kernel⟩⟩
def y_X1_goRound : MethodName := ⟨"BrookStones$Flood", "goRound", "(LBrookStones$Brook;[IIII)Z"⟩
set_option maxRecDepth 100000 in
theorem mi_X1_goRound : Jvm.Cond.code y_X1_goRound prog_3_method_3_code 10 (some .boolean) ∈ tblG ∧ Jvm.Cond.initialized y_X1_goRound.cls ∈ tblG ∧ Jvm.Cond.instanceMethod y_X1_goRound ∈ tblG ∧ Jvm.Cond.selects y_X1_goRound.cls y_X1_goRound y_X1_goRound ∈ tblG ∧ pl3 y_X1_goRound 5 := ⟨tblG_of (i := 493) rfl rfl, tblG_of (i := 6) rfl rfl, tblG_of (i := 492) rfl rfl, tblG_sel (q := (y_X1_goRound, 3)) (List.mem_of_getElem? (i := 29) rfl), ⟨by decide +kernel, by decide +kernel, by decide +kernel⟩⟩
def y_X1_digging : MethodName := ⟨"BrookStones$Flood", "digging", "(LBrookStones$Brook;IIII)I"⟩
set_option maxRecDepth 100000 in
theorem mi_X1_digging : Jvm.Cond.code y_X1_digging prog_3_method_4_code 9 (some .int) ∈ tblG ∧ Jvm.Cond.initialized y_X1_digging.cls ∈ tblG ∧ Jvm.Cond.static y_X1_digging ∈ tblG ∧ pl3 y_X1_digging 5 := ⟨tblG_of (i := 497) rfl rfl, tblG_of (i := 6) rfl rfl, tblG_of (i := 496) rfl rfl, ⟨by decide +kernel, by decide +kernel, by decide +kernel⟩⟩
def y_X2_init : MethodName := ⟨"BrookStones$Layings", "<init>", "()V"⟩
set_option maxRecDepth 100000 in
theorem mi_X2_init : Jvm.Cond.code y_X2_init prog_4_method_1_code 1 (none) ∈ tblG ∧ Jvm.Cond.initialized y_X2_init.cls ∈ tblG ∧ Jvm.Cond.instanceMethod y_X2_init ∈ tblG ∧ pl3 y_X2_init 0 := ⟨tblG_of (i := 221) rfl rfl, tblG_of (i := 8) rfl rfl, tblG_of (i := 220) rfl rfl, ⟨by decide +kernel, by decide +kernel, by decide +kernel⟩⟩
def y_X2_count : MethodName := ⟨"BrookStones$Layings", "count", "(LBrookStones$Brook;I)I"⟩
set_option maxRecDepth 100000 in
theorem mi_X2_count : Jvm.Cond.code y_X2_count prog_4_method_2_code 4 (some .int) ∈ tblG ∧ Jvm.Cond.initialized y_X2_count.cls ∈ tblG ∧ Jvm.Cond.instanceMethod y_X2_count ∈ tblG ∧ Jvm.Cond.selects y_X2_count.cls y_X2_count y_X2_count ∈ tblG ∧ pl3 y_X2_count 2 := ⟨tblG_of (i := 593) rfl rfl, tblG_of (i := 8) rfl rfl, tblG_of (i := 592) rfl rfl, tblG_sel (q := (y_X2_count, 2)) (List.mem_of_getElem? (i := 40) rfl), ⟨by decide +kernel, by decide +kernel, by decide +kernel⟩⟩
def y_X2_waysFrom : MethodName := ⟨"BrookStones$Layings", "waysFrom", "(LBrookStones$Brook;II)I"⟩
set_option maxRecDepth 100000 in
theorem mi_X2_waysFrom : Jvm.Cond.code y_X2_waysFrom prog_4_method_3_code 7 (some .int) ∈ tblG ∧ Jvm.Cond.initialized y_X2_waysFrom.cls ∈ tblG ∧ Jvm.Cond.instanceMethod y_X2_waysFrom ∈ tblG ∧ Jvm.Cond.selects y_X2_waysFrom.cls y_X2_waysFrom y_X2_waysFrom ∈ tblG ∧ pl3 y_X2_waysFrom 3 := ⟨tblG_of (i := 598) rfl rfl, tblG_of (i := 8) rfl rfl, tblG_of (i := 597) rfl rfl, tblG_sel (q := (y_X2_waysFrom, 2)) (List.mem_of_getElem? (i := 41) rfl), ⟨by decide +kernel, by decide +kernel, by decide +kernel⟩⟩
def y_X2_layable : MethodName := ⟨"BrookStones$Layings", "layable", "(LBrookStones$Brook;II)I"⟩
set_option maxRecDepth 100000 in
theorem mi_X2_layable : Jvm.Cond.code y_X2_layable prog_4_method_4_code 9 (some .int) ∈ tblG ∧ Jvm.Cond.initialized y_X2_layable.cls ∈ tblG ∧ Jvm.Cond.instanceMethod y_X2_layable ∈ tblG ∧ Jvm.Cond.selects y_X2_layable.cls y_X2_layable y_X2_layable ∈ tblG ∧ pl3 y_X2_layable 3 := ⟨tblG_of (i := 602) rfl rfl, tblG_of (i := 8) rfl rfl, tblG_of (i := 601) rfl rfl, tblG_sel (q := (y_X2_layable, 2)) (List.mem_of_getElem? (i := 42) rfl), ⟨by decide +kernel, by decide +kernel, by decide +kernel⟩⟩
def y_X2_cellOfFirst : MethodName := ⟨"BrookStones$Layings", "cellOfFirst", "(LBrookStones$Brook;II)I"⟩
set_option maxRecDepth 100000 in
theorem mi_X2_cellOfFirst : Jvm.Cond.code y_X2_cellOfFirst prog_4_method_5_code 7 (some .int) ∈ tblG ∧ Jvm.Cond.initialized y_X2_cellOfFirst.cls ∈ tblG ∧ Jvm.Cond.instanceMethod y_X2_cellOfFirst ∈ tblG ∧ Jvm.Cond.selects y_X2_cellOfFirst.cls y_X2_cellOfFirst y_X2_cellOfFirst ∈ tblG ∧ pl3 y_X2_cellOfFirst 3 := ⟨tblG_of (i := 614) rfl rfl, tblG_of (i := 8) rfl rfl, tblG_of (i := 613) rfl rfl, tblG_sel (q := (y_X2_cellOfFirst, 2)) (List.mem_of_getElem? (i := 43) rfl), ⟨by decide +kernel, by decide +kernel, by decide +kernel⟩⟩
def y_X2_firstThatGoesOn : MethodName := ⟨"BrookStones$Layings", "firstThatGoesOn", "(LBrookStones$Brook;II)I"⟩
set_option maxRecDepth 100000 in
theorem mi_X2_firstThatGoesOn : Jvm.Cond.code y_X2_firstThatGoesOn prog_4_method_6_code 6 (some .int) ∈ tblG ∧ Jvm.Cond.initialized y_X2_firstThatGoesOn.cls ∈ tblG ∧ Jvm.Cond.instanceMethod y_X2_firstThatGoesOn ∈ tblG ∧ Jvm.Cond.selects y_X2_firstThatGoesOn.cls y_X2_firstThatGoesOn y_X2_firstThatGoesOn ∈ tblG ∧ pl3 y_X2_firstThatGoesOn 3 := ⟨tblG_of (i := 620) rfl rfl, tblG_of (i := 8) rfl rfl, tblG_of (i := 619) rfl rfl, tblG_sel (q := (y_X2_firstThatGoesOn, 2)) (List.mem_of_getElem? (i := 44) rfl), ⟨by decide +kernel, by decide +kernel, by decide +kernel⟩⟩
def y_X3_init : MethodName := ⟨"BrookStones$Planner", "<init>", "()V"⟩
set_option maxRecDepth 100000 in
theorem mi_X3_init : Jvm.Cond.code y_X3_init prog_5_method_1_code 1 (none) ∈ tblG ∧ Jvm.Cond.initialized y_X3_init.cls ∈ tblG ∧ Jvm.Cond.instanceMethod y_X3_init ∈ tblG ∧ pl3 y_X3_init 0 := ⟨tblG_of (i := 176) rfl rfl, tblG_of (i := 7) rfl rfl, tblG_of (i := 175) rfl rfl, ⟨by decide +kernel, by decide +kernel, by decide +kernel⟩⟩
def y_X3_find : MethodName := ⟨"BrookStones$Planner", "find", "(LBrookStones$Brook;III)V"⟩
set_option maxRecDepth 100000 in
theorem mi_X3_find : Jvm.Cond.code y_X3_find prog_5_method_2_code 6 (none) ∈ tblG ∧ Jvm.Cond.initialized y_X3_find.cls ∈ tblG ∧ Jvm.Cond.instanceMethod y_X3_find ∈ tblG ∧ Jvm.Cond.selects y_X3_find.cls y_X3_find y_X3_find ∈ tblG ∧ pl3 y_X3_find 4 := ⟨tblG_of (i := 533) rfl rfl, tblG_of (i := 7) rfl rfl, tblG_of (i := 532) rfl rfl, tblG_sel (q := (y_X3_find, 11)) (List.mem_of_getElem? (i := 31) rfl), ⟨by decide +kernel, by decide +kernel, by decide +kernel⟩⟩
def y_X3_lookAhead : MethodName := ⟨"BrookStones$Planner", "lookAhead", "(LBrookStones$Brook;)V"⟩
set_option maxRecDepth 100000 in
theorem mi_X3_lookAhead : Jvm.Cond.code y_X3_lookAhead prog_5_method_3_code 6 (none) ∈ tblG ∧ Jvm.Cond.initialized y_X3_lookAhead.cls ∈ tblG ∧ Jvm.Cond.instanceMethod y_X3_lookAhead ∈ tblG ∧ Jvm.Cond.selects y_X3_lookAhead.cls y_X3_lookAhead y_X3_lookAhead ∈ tblG ∧ pl3 y_X3_lookAhead 1 := ⟨tblG_of (i := 546) rfl rfl, tblG_of (i := 7) rfl rfl, tblG_of (i := 545) rfl rfl, tblG_sel (q := (y_X3_lookAhead, 11)) (List.mem_of_getElem? (i := 33) rfl), ⟨by decide +kernel, by decide +kernel, by decide +kernel⟩⟩
def y_X3_isFound : MethodName := ⟨"BrookStones$Planner", "isFound", "()Z"⟩
set_option maxRecDepth 100000 in
theorem mi_X3_isFound : Jvm.Cond.code y_X3_isFound prog_5_method_4_code 1 (some .boolean) ∈ tblG ∧ Jvm.Cond.initialized y_X3_isFound.cls ∈ tblG ∧ Jvm.Cond.instanceMethod y_X3_isFound ∈ tblG ∧ Jvm.Cond.selects y_X3_isFound.cls y_X3_isFound y_X3_isFound ∈ tblG ∧ pl3 y_X3_isFound 0 := ⟨tblG_of (i := 585) rfl rfl, tblG_of (i := 7) rfl rfl, tblG_of (i := 584) rfl rfl, tblG_sel (q := (y_X3_isFound, 11)) (List.mem_of_getElem? (i := 39) rfl), ⟨by decide +kernel, by decide +kernel, by decide +kernel⟩⟩
def y_X3_lookAt : MethodName := ⟨"BrookStones$Planner", "lookAt", "(LBrookStones$Brook;I)V"⟩
set_option maxRecDepth 100000 in
theorem mi_X3_lookAt : Jvm.Cond.code y_X3_lookAt prog_5_method_5_code 5 (none) ∈ tblG ∧ Jvm.Cond.initialized y_X3_lookAt.cls ∈ tblG ∧ Jvm.Cond.instanceMethod y_X3_lookAt ∈ tblG ∧ Jvm.Cond.selects y_X3_lookAt.cls y_X3_lookAt y_X3_lookAt ∈ tblG ∧ pl3 y_X3_lookAt 2 := ⟨tblG_of (i := 539) rfl rfl, tblG_of (i := 7) rfl rfl, tblG_of (i := 538) rfl rfl, tblG_sel (q := (y_X3_lookAt, 11)) (List.mem_of_getElem? (i := 32) rfl), ⟨by decide +kernel, by decide +kernel, by decide +kernel⟩⟩
def y_X3_layFrom : MethodName := ⟨"BrookStones$Planner", "layFrom", "(LBrookStones$Planner;LBrookStones$Brook;IIIII)V"⟩
set_option maxRecDepth 100000 in
theorem mi_X3_layFrom : Jvm.Cond.code y_X3_layFrom prog_5_method_6_code 12 (none) ∈ tblG ∧ Jvm.Cond.initialized y_X3_layFrom.cls ∈ tblG ∧ Jvm.Cond.static y_X3_layFrom ∈ tblG ∧ pl3 y_X3_layFrom 7 := ⟨tblG_of (i := 555) rfl rfl, tblG_of (i := 7) rfl rfl, tblG_of (i := 554) rfl rfl, ⟨by decide +kernel, by decide +kernel, by decide +kernel⟩⟩
def y_X3_isNear : MethodName := ⟨"BrookStones$Planner", "isNear", "(IIIII)Z"⟩
set_option maxRecDepth 100000 in
theorem mi_X3_isNear : Jvm.Cond.code y_X3_isNear prog_5_method_7_code 6 (some .boolean) ∈ tblG ∧ Jvm.Cond.initialized y_X3_isNear.cls ∈ tblG ∧ Jvm.Cond.instanceMethod y_X3_isNear ∈ tblG ∧ Jvm.Cond.selects y_X3_isNear.cls y_X3_isNear y_X3_isNear ∈ tblG ∧ pl3 y_X3_isNear 5 := ⟨tblG_of (i := 580) rfl rfl, tblG_of (i := 7) rfl rfl, tblG_of (i := 579) rfl rfl, tblG_sel (q := (y_X3_isNear, 11)) (List.mem_of_getElem? (i := 38) rfl), ⟨by decide +kernel, by decide +kernel, by decide +kernel⟩⟩
def y_X3_laid : MethodName := ⟨"BrookStones$Planner", "laid", "(LBrookStones$Brook;I)I"⟩
set_option maxRecDepth 100000 in
theorem mi_X3_laid : Jvm.Cond.code y_X3_laid prog_5_method_8_code 2 (some .int) ∈ tblG ∧ Jvm.Cond.initialized y_X3_laid.cls ∈ tblG ∧ Jvm.Cond.static y_X3_laid ∈ tblG ∧ pl3 y_X3_laid 2 := ⟨tblG_of (i := 562) rfl rfl, tblG_of (i := 7) rfl rfl, tblG_of (i := 561) rfl rfl, ⟨by decide +kernel, by decide +kernel, by decide +kernel⟩⟩
def y_X3_isWorse : MethodName := ⟨"BrookStones$Planner", "isWorse", "(LBrookStones$Brook;II)Z"⟩
set_option maxRecDepth 100000 in
theorem mi_X3_isWorse : Jvm.Cond.code y_X3_isWorse prog_5_method_9_code 4 (some .boolean) ∈ tblG ∧ Jvm.Cond.initialized y_X3_isWorse.cls ∈ tblG ∧ Jvm.Cond.instanceMethod y_X3_isWorse ∈ tblG ∧ Jvm.Cond.selects y_X3_isWorse.cls y_X3_isWorse y_X3_isWorse ∈ tblG ∧ pl3 y_X3_isWorse 3 := ⟨tblG_of (i := 559) rfl rfl, tblG_of (i := 7) rfl rfl, tblG_of (i := 558) rfl rfl, tblG_sel (q := (y_X3_isWorse, 11)) (List.mem_of_getElem? (i := 35) rfl), ⟨by decide +kernel, by decide +kernel, by decide +kernel⟩⟩
def y_X3_take : MethodName := ⟨"BrookStones$Planner", "take", "(LBrookStones$Brook;II)V"⟩
set_option maxRecDepth 100000 in
theorem mi_X3_take : Jvm.Cond.code y_X3_take prog_5_method_10_code 4 (none) ∈ tblG ∧ Jvm.Cond.initialized y_X3_take.cls ∈ tblG ∧ Jvm.Cond.instanceMethod y_X3_take ∈ tblG ∧ Jvm.Cond.selects y_X3_take.cls y_X3_take y_X3_take ∈ tblG ∧ pl3 y_X3_take 3 := ⟨tblG_of (i := 567) rfl rfl, tblG_of (i := 7) rfl rfl, tblG_of (i := 566) rfl rfl, tblG_sel (q := (y_X3_take, 11)) (List.mem_of_getElem? (i := 36) rfl), ⟨by decide +kernel, by decide +kernel, by decide +kernel⟩⟩
def y_X3_isCrossedBehind : MethodName := ⟨"BrookStones$Planner", "isCrossedBehind", "(LBrookStones$Brook;)Z"⟩
set_option maxRecDepth 100000 in
theorem mi_X3_isCrossedBehind : Jvm.Cond.code y_X3_isCrossedBehind prog_5_method_11_code 6 (some .boolean) ∈ tblG ∧ Jvm.Cond.initialized y_X3_isCrossedBehind.cls ∈ tblG ∧ Jvm.Cond.instanceMethod y_X3_isCrossedBehind ∈ tblG ∧ Jvm.Cond.selects y_X3_isCrossedBehind.cls y_X3_isCrossedBehind y_X3_isCrossedBehind ∈ tblG ∧ pl3 y_X3_isCrossedBehind 1 := ⟨tblG_of (i := 572) rfl rfl, tblG_of (i := 7) rfl rfl, tblG_of (i := 571) rfl rfl, tblG_sel (q := (y_X3_isCrossedBehind, 11)) (List.mem_of_getElem? (i := 37) rfl), ⟨by decide +kernel, by decide +kernel, by decide +kernel⟩⟩
def y_X4_init : MethodName := ⟨"BrookStones$Sheets", "<init>", "()V"⟩
set_option maxRecDepth 100000 in
theorem mi_X4_init : Jvm.Cond.code y_X4_init prog_6_method_1_code 1 (none) ∈ tblG ∧ Jvm.Cond.initialized y_X4_init.cls ∈ tblG ∧ Jvm.Cond.instanceMethod y_X4_init ∈ tblG ∧ pl3 y_X4_init 0 := ⟨tblG_of (i := 111) rfl rfl, tblG_of (i := 4) rfl rfl, tblG_of (i := 110) rfl rfl, ⟨by decide +kernel, by decide +kernel, by decide +kernel⟩⟩
def y_X4_isSheet : MethodName := ⟨"BrookStones$Sheets", "isSheet", "(I)Z"⟩
set_option maxRecDepth 100000 in
theorem mi_X4_isSheet : Jvm.Cond.code y_X4_isSheet prog_6_method_2_code 1 (some .boolean) ∈ tblG ∧ Jvm.Cond.initialized y_X4_isSheet.cls ∈ tblG ∧ Jvm.Cond.static y_X4_isSheet ∈ tblG ∧ pl3 y_X4_isSheet 1 := ⟨tblG_of (i := 265) rfl rfl, tblG_of (i := 4) rfl rfl, tblG_of (i := 264) rfl rfl, ⟨by decide +kernel, by decide +kernel, by decide +kernel⟩⟩
def y_X4_isSort : MethodName := ⟨"BrookStones$Sheets", "isSort", "(I)Z"⟩
set_option maxRecDepth 100000 in
theorem mi_X4_isSort : Jvm.Cond.code y_X4_isSort prog_6_method_3_code 1 (some .boolean) ∈ tblG ∧ Jvm.Cond.initialized y_X4_isSort.cls ∈ tblG ∧ Jvm.Cond.static y_X4_isSort ∈ tblG ∧ pl3 y_X4_isSort 1 := ⟨tblG_of (i := 271) rfl rfl, tblG_of (i := 4) rfl rfl, tblG_of (i := 270) rfl rfl, ⟨by decide +kernel, by decide +kernel, by decide +kernel⟩⟩
def y_X4_isThere : MethodName := ⟨"BrookStones$Sheets", "isThere", "(I)Z"⟩
set_option maxRecDepth 100000 in
theorem mi_X4_isThere : Jvm.Cond.code y_X4_isThere prog_6_method_4_code 2 (some .boolean) ∈ tblG ∧ Jvm.Cond.initialized y_X4_isThere.cls ∈ tblG ∧ Jvm.Cond.instanceMethod y_X4_isThere ∈ tblG ∧ Jvm.Cond.selects y_X4_isThere.cls y_X4_isThere y_X4_isThere ∈ tblG ∧ pl3 y_X4_isThere 1 := ⟨tblG_of (i := 279) rfl rfl, tblG_of (i := 4) rfl rfl, tblG_of (i := 278) rfl rfl, tblG_sel (q := (y_X4_isThere, 3)) (List.mem_of_getElem? (i := 2) rfl), ⟨by decide +kernel, by decide +kernel, by decide +kernel⟩⟩
def y_X4_clear : MethodName := ⟨"BrookStones$Sheets", "clear", "(I)V"⟩
set_option maxRecDepth 100000 in
theorem mi_X4_clear : Jvm.Cond.code y_X4_clear prog_6_method_5_code 2 (none) ∈ tblG ∧ Jvm.Cond.initialized y_X4_clear.cls ∈ tblG ∧ Jvm.Cond.instanceMethod y_X4_clear ∈ tblG ∧ Jvm.Cond.selects y_X4_clear.cls y_X4_clear y_X4_clear ∈ tblG ∧ pl3 y_X4_clear 1 := ⟨tblG_of (i := 663) rfl rfl, tblG_of (i := 4) rfl rfl, tblG_of (i := 662) rfl rfl, tblG_sel (q := (y_X4_clear, 3)) (List.mem_of_getElem? (i := 48) rfl), ⟨by decide +kernel, by decide +kernel, by decide +kernel⟩⟩
def y_X4_renew : MethodName := ⟨"BrookStones$Sheets", "renew", "(III)V"⟩
set_option maxRecDepth 100000 in
theorem mi_X4_renew : Jvm.Cond.code y_X4_renew prog_6_method_6_code 5 (none) ∈ tblG ∧ Jvm.Cond.initialized y_X4_renew.cls ∈ tblG ∧ Jvm.Cond.instanceMethod y_X4_renew ∈ tblG ∧ Jvm.Cond.selects y_X4_renew.cls y_X4_renew y_X4_renew ∈ tblG ∧ pl3 y_X4_renew 3 := ⟨tblG_of (i := 648) rfl rfl, tblG_of (i := 4) rfl rfl, tblG_of (i := 647) rfl rfl, tblG_sel (q := (y_X4_renew, 3)) (List.mem_of_getElem? (i := 47) rfl), ⟨by decide +kernel, by decide +kernel, by decide +kernel⟩⟩
def y_X4_at : MethodName := ⟨"BrookStones$Sheets", "at", "(II)I"⟩
set_option maxRecDepth 100000 in
theorem mi_X4_at : Jvm.Cond.code y_X4_at prog_6_method_7_code 3 (some .int) ∈ tblG ∧ Jvm.Cond.initialized y_X4_at.cls ∈ tblG ∧ Jvm.Cond.instanceMethod y_X4_at ∈ tblG ∧ Jvm.Cond.selects y_X4_at.cls y_X4_at y_X4_at ∈ tblG ∧ pl3 y_X4_at 2 := ⟨tblG_of (i := 297) rfl rfl, tblG_of (i := 4) rfl rfl, tblG_of (i := 296) rfl rfl, tblG_sel (q := (y_X4_at, 3)) (List.mem_of_getElem? (i := 5) rfl), ⟨by decide +kernel, by decide +kernel, by decide +kernel⟩⟩
def y_X4_write : MethodName := ⟨"BrookStones$Sheets", "write", "(III)V"⟩
set_option maxRecDepth 100000 in
theorem mi_X4_write : Jvm.Cond.code y_X4_write prog_6_method_8_code 4 (none) ∈ tblG ∧ Jvm.Cond.initialized y_X4_write.cls ∈ tblG ∧ Jvm.Cond.instanceMethod y_X4_write ∈ tblG ∧ Jvm.Cond.selects y_X4_write.cls y_X4_write y_X4_write ∈ tblG ∧ pl3 y_X4_write 3 := ⟨tblG_of (i := 671) rfl rfl, tblG_of (i := 4) rfl rfl, tblG_of (i := 670) rfl rfl, tblG_sel (q := (y_X4_write, 3)) (List.mem_of_getElem? (i := 49) rfl), ⟨by decide +kernel, by decide +kernel, by decide +kernel⟩⟩
def y_X4_cut : MethodName := ⟨"BrookStones$Sheets", "cut", "(II)I"⟩
set_option maxRecDepth 100000 in
theorem mi_X4_cut : Jvm.Cond.code y_X4_cut prog_6_method_9_code 2 (some .int) ∈ tblG ∧ Jvm.Cond.initialized y_X4_cut.cls ∈ tblG ∧ Jvm.Cond.static y_X4_cut ∈ tblG ∧ pl3 y_X4_cut 2 := ⟨tblG_of (i := 674) rfl rfl, tblG_of (i := 4) rfl rfl, tblG_of (i := 673) rfl rfl, ⟨by decide +kernel, by decide +kernel, by decide +kernel⟩⟩
def y_X4_move : MethodName := ⟨"BrookStones$Sheets", "move", "(IIIII)V"⟩
set_option maxRecDepth 100000 in
theorem mi_X4_move : Jvm.Cond.code y_X4_move prog_6_method_10_code 6 (none) ∈ tblG ∧ Jvm.Cond.initialized y_X4_move.cls ∈ tblG ∧ Jvm.Cond.instanceMethod y_X4_move ∈ tblG ∧ Jvm.Cond.selects y_X4_move.cls y_X4_move y_X4_move ∈ tblG ∧ pl3 y_X4_move 5 := ⟨tblG_of (i := 687) rfl rfl, tblG_of (i := 4) rfl rfl, tblG_of (i := 686) rfl rfl, tblG_sel (q := (y_X4_move, 3)) (List.mem_of_getElem? (i := 50) rfl), ⟨by decide +kernel, by decide +kernel, by decide +kernel⟩⟩
def y_X4_reaches : MethodName := ⟨"BrookStones$Sheets", "reaches", "(III)Z"⟩
set_option maxRecDepth 100000 in
theorem mi_X4_reaches : Jvm.Cond.code y_X4_reaches prog_6_method_11_code 4 (some .boolean) ∈ tblG ∧ Jvm.Cond.initialized y_X4_reaches.cls ∈ tblG ∧ Jvm.Cond.instanceMethod y_X4_reaches ∈ tblG ∧ Jvm.Cond.selects y_X4_reaches.cls y_X4_reaches y_X4_reaches ∈ tblG ∧ pl3 y_X4_reaches 3 := ⟨tblG_of (i := 283) rfl rfl, tblG_of (i := 4) rfl rfl, tblG_of (i := 282) rfl rfl, tblG_sel (q := (y_X4_reaches, 3)) (List.mem_of_getElem? (i := 3) rfl), ⟨by decide +kernel, by decide +kernel, by decide +kernel⟩⟩
def y_X4_faultOfCells : MethodName := ⟨"BrookStones$Sheets", "faultOfCells", "(IIII)I"⟩
set_option maxRecDepth 100000 in
theorem mi_X4_faultOfCells : Jvm.Cond.code y_X4_faultOfCells prog_6_method_12_code 5 (some .int) ∈ tblG ∧ Jvm.Cond.initialized y_X4_faultOfCells.cls ∈ tblG ∧ Jvm.Cond.instanceMethod y_X4_faultOfCells ∈ tblG ∧ Jvm.Cond.selects y_X4_faultOfCells.cls y_X4_faultOfCells y_X4_faultOfCells ∈ tblG ∧ pl3 y_X4_faultOfCells 4 := ⟨tblG_of (i := 275) rfl rfl, tblG_of (i := 4) rfl rfl, tblG_of (i := 274) rfl rfl, tblG_sel (q := (y_X4_faultOfCells, 3)) (List.mem_of_getElem? (i := 1) rfl), ⟨by decide +kernel, by decide +kernel, by decide +kernel⟩⟩
def y_X4_areWithin : MethodName := ⟨"BrookStones$Sheets", "areWithin", "(IIII)Z"⟩
set_option maxRecDepth 100000 in
theorem mi_X4_areWithin : Jvm.Cond.code y_X4_areWithin prog_6_method_13_code 6 (some .boolean) ∈ tblG ∧ Jvm.Cond.initialized y_X4_areWithin.cls ∈ tblG ∧ Jvm.Cond.instanceMethod y_X4_areWithin ∈ tblG ∧ Jvm.Cond.selects y_X4_areWithin.cls y_X4_areWithin y_X4_areWithin ∈ tblG ∧ pl3 y_X4_areWithin 4 := ⟨tblG_of (i := 476) rfl rfl, tblG_of (i := 4) rfl rfl, tblG_of (i := 475) rfl rfl, tblG_sel (q := (y_X4_areWithin, 3)) (List.mem_of_getElem? (i := 27) rfl), ⟨by decide +kernel, by decide +kernel, by decide +kernel⟩⟩
def y_X4_sum : MethodName := ⟨"BrookStones$Sheets", "sum", "(III)I"⟩
set_option maxRecDepth 100000 in
theorem mi_X4_sum : Jvm.Cond.code y_X4_sum prog_6_method_14_code 6 (some .int) ∈ tblG ∧ Jvm.Cond.initialized y_X4_sum.cls ∈ tblG ∧ Jvm.Cond.instanceMethod y_X4_sum ∈ tblG ∧ Jvm.Cond.selects y_X4_sum.cls y_X4_sum y_X4_sum ∈ tblG ∧ pl3 y_X4_sum 3 := ⟨tblG_of (i := 633) rfl rfl, tblG_of (i := 4) rfl rfl, tblG_of (i := 632) rfl rfl, tblG_sel (q := (y_X4_sum, 3)) (List.mem_of_getElem? (i := 45) rfl), ⟨by decide +kernel, by decide +kernel, by decide +kernel⟩⟩
def y_X5_firstFault : MethodName := ⟨"BrookStones$Text", "firstFault", "(LBrookStones$Sheets;III)I"⟩
set_option maxRecDepth 100000 in
theorem mi_X5_firstFault : Jvm.Cond.code y_X5_firstFault prog_7_method_2_code 7 (some .int) ∈ tblG ∧ Jvm.Cond.initialized y_X5_firstFault.cls ∈ tblG ∧ Jvm.Cond.static y_X5_firstFault ∈ tblG ∧ pl3 y_X5_firstFault 4 := ⟨tblG_of (i := 290) rfl rfl, tblG_of (i := 10) rfl rfl, tblG_of (i := 289) rfl rfl, ⟨by decide +kernel, by decide +kernel, by decide +kernel⟩⟩
def y_X5_readInto : MethodName := ⟨"BrookStones$Text", "readInto", "(LBrookStones$Brook;LBrookStones$Sheets;III)V"⟩
set_option maxRecDepth 100000 in
theorem mi_X5_readInto : Jvm.Cond.code y_X5_readInto prog_7_method_3_code 7 (none) ∈ tblG ∧ Jvm.Cond.initialized y_X5_readInto.cls ∈ tblG ∧ Jvm.Cond.static y_X5_readInto ∈ tblG ∧ pl3 y_X5_readInto 5 := ⟨tblG_of (i := 320) rfl rfl, tblG_of (i := 10) rfl rfl, tblG_of (i := 319) rfl rfl, ⟨by decide +kernel, by decide +kernel, by decide +kernel⟩⟩
def y_X5_length : MethodName := ⟨"BrookStones$Text", "length", "(I)I"⟩
set_option maxRecDepth 100000 in
theorem mi_X5_length : Jvm.Cond.code y_X5_length prog_7_method_4_code 1 (some .int) ∈ tblG ∧ Jvm.Cond.initialized y_X5_length.cls ∈ tblG ∧ Jvm.Cond.static y_X5_length ∈ tblG ∧ pl3 y_X5_length 1 := ⟨tblG_of (i := 307) rfl rfl, tblG_of (i := 10) rfl rfl, tblG_of (i := 306) rfl rfl, ⟨by decide +kernel, by decide +kernel, by decide +kernel⟩⟩
def y_X5_cellsTold : MethodName := ⟨"BrookStones$Text", "cellsTold", "(LBrookStones$Sheets;III)I"⟩
set_option maxRecDepth 100000 in
theorem mi_X5_cellsTold : Jvm.Cond.code y_X5_cellsTold prog_7_method_5_code 5 (some .int) ∈ tblG ∧ Jvm.Cond.initialized y_X5_cellsTold.cls ∈ tblG ∧ Jvm.Cond.static y_X5_cellsTold ∈ tblG ∧ pl3 y_X5_cellsTold 4 := ⟨tblG_of (i := 293) rfl rfl, tblG_of (i := 10) rfl rfl, tblG_of (i := 292) rfl rfl, ⟨by decide +kernel, by decide +kernel, by decide +kernel⟩⟩
def y_X5_goesOn : MethodName := ⟨"BrookStones$Text", "goesOn", "(III)Z"⟩
set_option maxRecDepth 100000 in
theorem mi_X5_goesOn : Jvm.Cond.code y_X5_goesOn prog_7_method_6_code 3 (some .boolean) ∈ tblG ∧ Jvm.Cond.initialized y_X5_goesOn.cls ∈ tblG ∧ Jvm.Cond.static y_X5_goesOn ∈ tblG ∧ pl3 y_X5_goesOn 3 := ⟨tblG_of (i := 310) rfl rfl, tblG_of (i := 10) rfl rfl, tblG_of (i := 309) rfl rfl, ⟨by decide +kernel, by decide +kernel, by decide +kernel⟩⟩
def y_X5_isDigit : MethodName := ⟨"BrookStones$Text", "isDigit", "(I)Z"⟩
set_option maxRecDepth 100000 in
theorem mi_X5_isDigit : Jvm.Cond.code y_X5_isDigit prog_7_method_7_code 1 (some .boolean) ∈ tblG ∧ Jvm.Cond.initialized y_X5_isDigit.cls ∈ tblG ∧ Jvm.Cond.static y_X5_isDigit ∈ tblG ∧ pl3 y_X5_isDigit 1 := ⟨tblG_of (i := 300) rfl rfl, tblG_of (i := 10) rfl rfl, tblG_of (i := 299) rfl rfl, ⟨by decide +kernel, by decide +kernel, by decide +kernel⟩⟩
def y_X6_init : MethodName := ⟨"BrookStones$Way", "<init>", "()V"⟩
set_option maxRecDepth 100000 in
theorem mi_X6_init : Jvm.Cond.code y_X6_init prog_8_method_1_code 1 (none) ∈ tblG ∧ Jvm.Cond.initialized y_X6_init.cls ∈ tblG ∧ Jvm.Cond.instanceMethod y_X6_init ∈ tblG ∧ pl3 y_X6_init 0 := ⟨tblG_of (i := 130) rfl rfl, tblG_of (i := 5) rfl rfl, tblG_of (i := 129) rfl rfl, ⟨by decide +kernel, by decide +kernel, by decide +kernel⟩⟩
def y_X6_find : MethodName := ⟨"BrookStones$Way", "find", "(LBrookStones$Brook;I)I"⟩
set_option maxRecDepth 100000 in
theorem mi_X6_find : Jvm.Cond.code y_X6_find prog_8_method_2_code 5 (some .int) ∈ tblG ∧ Jvm.Cond.initialized y_X6_find.cls ∈ tblG ∧ Jvm.Cond.instanceMethod y_X6_find ∈ tblG ∧ Jvm.Cond.selects y_X6_find.cls y_X6_find y_X6_find ∈ tblG ∧ pl3 y_X6_find 2 := ⟨tblG_of (i := 441) rfl rfl, tblG_of (i := 5) rfl rfl, tblG_of (i := 440) rfl rfl, tblG_sel (q := (y_X6_find, 6)) (List.mem_of_getElem? (i := 23) rfl), ⟨by decide +kernel, by decide +kernel, by decide +kernel⟩⟩
def y_X6_fewestFrom : MethodName := ⟨"BrookStones$Way", "fewestFrom", "(I)I"⟩
set_option maxRecDepth 100000 in
theorem mi_X6_fewestFrom : Jvm.Cond.code y_X6_fewestFrom prog_8_method_3_code 4 (some .int) ∈ tblG ∧ Jvm.Cond.initialized y_X6_fewestFrom.cls ∈ tblG ∧ Jvm.Cond.instanceMethod y_X6_fewestFrom ∈ tblG ∧ Jvm.Cond.selects y_X6_fewestFrom.cls y_X6_fewestFrom y_X6_fewestFrom ∈ tblG ∧ pl3 y_X6_fewestFrom 1 := ⟨tblG_of (i := 447) rfl rfl, tblG_of (i := 5) rfl rfl, tblG_of (i := 446) rfl rfl, tblG_sel (q := (y_X6_fewestFrom, 6)) (List.mem_of_getElem? (i := 24) rfl), ⟨by decide +kernel, by decide +kernel, by decide +kernel⟩⟩
def y_X6_firstBehind : MethodName := ⟨"BrookStones$Way", "firstBehind", "(I)I"⟩
set_option maxRecDepth 100000 in
theorem mi_X6_firstBehind : Jvm.Cond.code y_X6_firstBehind prog_8_method_4_code 3 (some .int) ∈ tblG ∧ Jvm.Cond.initialized y_X6_firstBehind.cls ∈ tblG ∧ Jvm.Cond.instanceMethod y_X6_firstBehind ∈ tblG ∧ Jvm.Cond.selects y_X6_firstBehind.cls y_X6_firstBehind y_X6_firstBehind ∈ tblG ∧ pl3 y_X6_firstBehind 1 := ⟨tblG_of (i := 457) rfl rfl, tblG_of (i := 5) rfl rfl, tblG_of (i := 456) rfl rfl, tblG_sel (q := (y_X6_firstBehind, 6)) (List.mem_of_getElem? (i := 26) rfl), ⟨by decide +kernel, by decide +kernel, by decide +kernel⟩⟩
def y_X6_isStride : MethodName := ⟨"BrookStones$Way", "isStride", "(II)Z"⟩
set_option maxRecDepth 100000 in
theorem mi_X6_isStride : Jvm.Cond.code y_X6_isStride prog_8_method_5_code 4 (some .boolean) ∈ tblG ∧ Jvm.Cond.initialized y_X6_isStride.cls ∈ tblG ∧ Jvm.Cond.instanceMethod y_X6_isStride ∈ tblG ∧ Jvm.Cond.selects y_X6_isStride.cls y_X6_isStride y_X6_isStride ∈ tblG ∧ pl3 y_X6_isStride 2 := ⟨tblG_of (i := 451) rfl rfl, tblG_of (i := 5) rfl rfl, tblG_of (i := 450) rfl rfl, tblG_sel (q := (y_X6_isStride, 6)) (List.mem_of_getElem? (i := 25) rfl), ⟨by decide +kernel, by decide +kernel, by decide +kernel⟩⟩
def y_X7_init : MethodName := ⟨"BrookStones", "<init>", "()V"⟩
set_option maxRecDepth 100000 in
theorem mi_X7_init : Jvm.Cond.code y_X7_init prog_1_method_1_code 1 (none) ∈ tblG ∧ Jvm.Cond.initialized y_X7_init.cls ∈ tblG ∧ Jvm.Cond.instanceMethod y_X7_init ∈ tblG ∧ pl3 y_X7_init 0 := ⟨tblG_of (i := 18) rfl rfl, tblG_of (i := 1) rfl rfl, tblG_of (i := 17) rfl rfl, ⟨by decide +kernel, by decide +kernel, by decide +kernel⟩⟩
def y_X7_brook : MethodName := ⟨"BrookStones", "brook", "(IIII)I"⟩
set_option maxRecDepth 100000 in
theorem mi_X7_brook : Jvm.Cond.code y_X7_brook prog_1_method_2_code 7 (some .int) ∈ tblG ∧ Jvm.Cond.initialized y_X7_brook.cls ∈ tblG ∧ Jvm.Cond.instanceMethod y_X7_brook ∈ tblG ∧ Jvm.Cond.selects y_X7_brook.cls y_X7_brook y_X7_brook ∈ tblG ∧ pl3 y_X7_brook 4 := ⟨tblG_of (i := 258) rfl rfl, tblG_of (i := 1) rfl rfl, tblG_of (i := 256) rfl rfl, tblG_of (i := 257) rfl rfl, ⟨by decide +kernel, by decide +kernel, by decide +kernel⟩⟩
def y_X7_ofCell : MethodName := ⟨"BrookStones", "ofCell", "(II)I"⟩
set_option maxRecDepth 100000 in
theorem mi_X7_ofCell : Jvm.Cond.code y_X7_ofCell prog_1_method_3_code 4 (some .int) ∈ tblG ∧ Jvm.Cond.initialized y_X7_ofCell.cls ∈ tblG ∧ Jvm.Cond.instanceMethod y_X7_ofCell ∈ tblG ∧ Jvm.Cond.selects y_X7_ofCell.cls y_X7_ofCell y_X7_ofCell ∈ tblG ∧ pl3 y_X7_ofCell 2 := ⟨tblG_of (i := 324) rfl rfl, tblG_of (i := 1) rfl rfl, tblG_of (i := 322) rfl rfl, tblG_of (i := 323) rfl rfl, ⟨by decide +kernel, by decide +kernel, by decide +kernel⟩⟩
def y_X7_guard : MethodName := ⟨"BrookStones", "guard", "(IZ)I"⟩
set_option maxRecDepth 100000 in
theorem mi_X7_guard : Jvm.Cond.code y_X7_guard prog_1_method_4_code 3 (some .int) ∈ tblG ∧ Jvm.Cond.initialized y_X7_guard.cls ∈ tblG ∧ Jvm.Cond.instanceMethod y_X7_guard ∈ tblG ∧ Jvm.Cond.selects y_X7_guard.cls y_X7_guard y_X7_guard ∈ tblG ∧ pl3 y_X7_guard 2 := ⟨tblG_of (i := 339) rfl rfl, tblG_of (i := 1) rfl rfl, tblG_of (i := 337) rfl rfl, tblG_of (i := 338) rfl rfl, ⟨by decide +kernel, by decide +kernel, by decide +kernel⟩⟩
def y_X7_water : MethodName := ⟨"BrookStones", "water", "(I)I"⟩
set_option maxRecDepth 100000 in
theorem mi_X7_water : Jvm.Cond.code y_X7_water prog_1_method_5_code 3 (some .int) ∈ tblG ∧ Jvm.Cond.initialized y_X7_water.cls ∈ tblG ∧ Jvm.Cond.instanceMethod y_X7_water ∈ tblG ∧ Jvm.Cond.selects y_X7_water.cls y_X7_water y_X7_water ∈ tblG ∧ pl3 y_X7_water 1 := ⟨tblG_of (i := 343) rfl rfl, tblG_of (i := 1) rfl rfl, tblG_of (i := 341) rfl rfl, tblG_of (i := 342) rfl rfl, ⟨by decide +kernel, by decide +kernel, by decide +kernel⟩⟩
def y_X7_stone : MethodName := ⟨"BrookStones", "stone", "(IIII)I"⟩
set_option maxRecDepth 100000 in
theorem mi_X7_stone : Jvm.Cond.code y_X7_stone prog_1_method_6_code 5 (some .int) ∈ tblG ∧ Jvm.Cond.initialized y_X7_stone.cls ∈ tblG ∧ Jvm.Cond.instanceMethod y_X7_stone ∈ tblG ∧ Jvm.Cond.selects y_X7_stone.cls y_X7_stone y_X7_stone ∈ tblG ∧ pl3 y_X7_stone 4 := ⟨tblG_of (i := 352) rfl rfl, tblG_of (i := 1) rfl rfl, tblG_of (i := 350) rfl rfl, tblG_of (i := 351) rfl rfl, ⟨by decide +kernel, by decide +kernel, by decide +kernel⟩⟩
def y_X7_ofStone : MethodName := ⟨"BrookStones", "ofStone", "(II)I"⟩
set_option maxRecDepth 100000 in
theorem mi_X7_ofStone : Jvm.Cond.code y_X7_ofStone prog_1_method_7_code 3 (some .int) ∈ tblG ∧ Jvm.Cond.initialized y_X7_ofStone.cls ∈ tblG ∧ Jvm.Cond.instanceMethod y_X7_ofStone ∈ tblG ∧ Jvm.Cond.selects y_X7_ofStone.cls y_X7_ofStone y_X7_ofStone ∈ tblG ∧ pl3 y_X7_ofStone 2 := ⟨tblG_of (i := 360) rfl rfl, tblG_of (i := 1) rfl rfl, tblG_of (i := 358) rfl rfl, tblG_of (i := 359) rfl rfl, ⟨by decide +kernel, by decide +kernel, by decide +kernel⟩⟩
def y_X7_set : MethodName := ⟨"BrookStones", "set", "(II)I"⟩
set_option maxRecDepth 100000 in
theorem mi_X7_set : Jvm.Cond.code y_X7_set prog_1_method_8_code 3 (some .int) ∈ tblG ∧ Jvm.Cond.initialized y_X7_set.cls ∈ tblG ∧ Jvm.Cond.instanceMethod y_X7_set ∈ tblG ∧ Jvm.Cond.selects y_X7_set.cls y_X7_set y_X7_set ∈ tblG ∧ pl3 y_X7_set 2 := ⟨tblG_of (i := 376) rfl rfl, tblG_of (i := 1) rfl rfl, tblG_of (i := 374) rfl rfl, tblG_of (i := 375) rfl rfl, ⟨by decide +kernel, by decide +kernel, by decide +kernel⟩⟩
def y_X7_work : MethodName := ⟨"BrookStones", "work", "(II)I"⟩
set_option maxRecDepth 100000 in
theorem mi_X7_work : Jvm.Cond.code y_X7_work prog_1_method_9_code 3 (some .int) ∈ tblG ∧ Jvm.Cond.initialized y_X7_work.cls ∈ tblG ∧ Jvm.Cond.instanceMethod y_X7_work ∈ tblG ∧ Jvm.Cond.selects y_X7_work.cls y_X7_work y_X7_work ∈ tblG ∧ pl3 y_X7_work 2 := ⟨tblG_of (i := 385) rfl rfl, tblG_of (i := 1) rfl rfl, tblG_of (i := 383) rfl rfl, tblG_of (i := 384) rfl rfl, ⟨by decide +kernel, by decide +kernel, by decide +kernel⟩⟩
def y_X7_walker : MethodName := ⟨"BrookStones", "walker", "(I)I"⟩
set_option maxRecDepth 100000 in
theorem mi_X7_walker : Jvm.Cond.code y_X7_walker prog_1_method_10_code 2 (some .int) ∈ tblG ∧ Jvm.Cond.initialized y_X7_walker.cls ∈ tblG ∧ Jvm.Cond.instanceMethod y_X7_walker ∈ tblG ∧ Jvm.Cond.selects y_X7_walker.cls y_X7_walker y_X7_walker ∈ tblG ∧ pl3 y_X7_walker 1 := ⟨tblG_of (i := 393) rfl rfl, tblG_of (i := 1) rfl rfl, tblG_of (i := 391) rfl rfl, tblG_of (i := 392) rfl rfl, ⟨by decide +kernel, by decide +kernel, by decide +kernel⟩⟩
def y_X7_stride : MethodName := ⟨"BrookStones", "stride", "(I)I"⟩
set_option maxRecDepth 100000 in
theorem mi_X7_stride : Jvm.Cond.code y_X7_stride prog_1_method_11_code 2 (some .int) ∈ tblG ∧ Jvm.Cond.initialized y_X7_stride.cls ∈ tblG ∧ Jvm.Cond.instanceMethod y_X7_stride ∈ tblG ∧ Jvm.Cond.selects y_X7_stride.cls y_X7_stride y_X7_stride ∈ tblG ∧ pl3 y_X7_stride 1 := ⟨tblG_of (i := 401) rfl rfl, tblG_of (i := 1) rfl rfl, tblG_of (i := 399) rfl rfl, tblG_of (i := 400) rfl rfl, ⟨by decide +kernel, by decide +kernel, by decide +kernel⟩⟩
def y_X7_can : MethodName := ⟨"BrookStones", "can", "(IZ)I"⟩
set_option maxRecDepth 100000 in
theorem mi_X7_can : Jvm.Cond.code y_X7_can prog_1_method_12_code 3 (some .int) ∈ tblG ∧ Jvm.Cond.initialized y_X7_can.cls ∈ tblG ∧ Jvm.Cond.instanceMethod y_X7_can ∈ tblG ∧ Jvm.Cond.selects y_X7_can.cls y_X7_can y_X7_can ∈ tblG ∧ pl3 y_X7_can 2 := ⟨tblG_of (i := 409) rfl rfl, tblG_of (i := 1) rfl rfl, tblG_of (i := 407) rfl rfl, tblG_of (i := 408) rfl rfl, ⟨by decide +kernel, by decide +kernel, by decide +kernel⟩⟩
def y_X7_way : MethodName := ⟨"BrookStones", "way", "(II)I"⟩
set_option maxRecDepth 100000 in
theorem mi_X7_way : Jvm.Cond.code y_X7_way prog_1_method_13_code 4 (some .int) ∈ tblG ∧ Jvm.Cond.initialized y_X7_way.cls ∈ tblG ∧ Jvm.Cond.instanceMethod y_X7_way ∈ tblG ∧ Jvm.Cond.selects y_X7_way.cls y_X7_way y_X7_way ∈ tblG ∧ pl3 y_X7_way 2 := ⟨tblG_of (i := 437) rfl rfl, tblG_of (i := 1) rfl rfl, tblG_of (i := 435) rfl rfl, tblG_of (i := 436) rfl rfl, ⟨by decide +kernel, by decide +kernel, by decide +kernel⟩⟩
def y_X7_highest : MethodName := ⟨"BrookStones", "highest", "(IZ)I"⟩
set_option maxRecDepth 100000 in
theorem mi_X7_highest : Jvm.Cond.code y_X7_highest prog_1_method_14_code 4 (some .int) ∈ tblG ∧ Jvm.Cond.initialized y_X7_highest.cls ∈ tblG ∧ Jvm.Cond.instanceMethod y_X7_highest ∈ tblG ∧ Jvm.Cond.selects y_X7_highest.cls y_X7_highest y_X7_highest ∈ tblG ∧ pl3 y_X7_highest 2 := ⟨tblG_of (i := 461) rfl rfl, tblG_of (i := 1) rfl rfl, tblG_of (i := 459) rfl rfl, tblG_of (i := 460) rfl rfl, ⟨by decide +kernel, by decide +kernel, by decide +kernel⟩⟩
def y_X7_pass : MethodName := ⟨"BrookStones", "pass", "(II)I"⟩
set_option maxRecDepth 100000 in
theorem mi_X7_pass : Jvm.Cond.code y_X7_pass prog_1_method_15_code 4 (some .int) ∈ tblG ∧ Jvm.Cond.initialized y_X7_pass.cls ∈ tblG ∧ Jvm.Cond.instanceMethod y_X7_pass ∈ tblG ∧ Jvm.Cond.selects y_X7_pass.cls y_X7_pass y_X7_pass ∈ tblG ∧ pl3 y_X7_pass 2 := ⟨tblG_of (i := 465) rfl rfl, tblG_of (i := 1) rfl rfl, tblG_of (i := 463) rfl rfl, tblG_of (i := 464) rfl rfl, ⟨by decide +kernel, by decide +kernel, by decide +kernel⟩⟩
def y_X7_days : MethodName := ⟨"BrookStones", "days", "(IIIII)I"⟩
set_option maxRecDepth 100000 in
theorem mi_X7_days : Jvm.Cond.code y_X7_days prog_1_method_16_code 10 (some .int) ∈ tblG ∧ Jvm.Cond.initialized y_X7_days.cls ∈ tblG ∧ Jvm.Cond.instanceMethod y_X7_days ∈ tblG ∧ Jvm.Cond.selects y_X7_days.cls y_X7_days y_X7_days ∈ tblG ∧ pl3 y_X7_days 5 := ⟨tblG_of (i := 472) rfl rfl, tblG_of (i := 1) rfl rfl, tblG_of (i := 470) rfl rfl, tblG_of (i := 471) rfl rfl, ⟨by decide +kernel, by decide +kernel, by decide +kernel⟩⟩
def y_X7_stands : MethodName := ⟨"BrookStones", "stands", "(II)I"⟩
set_option maxRecDepth 100000 in
theorem mi_X7_stands : Jvm.Cond.code y_X7_stands prog_1_method_17_code 3 (some .int) ∈ tblG ∧ Jvm.Cond.initialized y_X7_stands.cls ∈ tblG ∧ Jvm.Cond.instanceMethod y_X7_stands ∈ tblG ∧ Jvm.Cond.selects y_X7_stands.cls y_X7_stands y_X7_stands ∈ tblG ∧ pl3 y_X7_stands 2 := ⟨tblG_of (i := 482) rfl rfl, tblG_of (i := 1) rfl rfl, tblG_of (i := 480) rfl rfl, tblG_of (i := 481) rfl rfl, ⟨by decide +kernel, by decide +kernel, by decide +kernel⟩⟩
def y_X7_goes : MethodName := ⟨"BrookStones", "goes", "(II)I"⟩
set_option maxRecDepth 100000 in
theorem mi_X7_goes : Jvm.Cond.code y_X7_goes prog_1_method_18_code 3 (some .int) ∈ tblG ∧ Jvm.Cond.initialized y_X7_goes.cls ∈ tblG ∧ Jvm.Cond.instanceMethod y_X7_goes ∈ tblG ∧ Jvm.Cond.selects y_X7_goes.cls y_X7_goes y_X7_goes ∈ tblG ∧ pl3 y_X7_goes 2 := ⟨tblG_of (i := 502) rfl rfl, tblG_of (i := 1) rfl rfl, tblG_of (i := 500) rfl rfl, tblG_of (i := 501) rfl rfl, ⟨by decide +kernel, by decide +kernel, by decide +kernel⟩⟩
def y_X7_dug : MethodName := ⟨"BrookStones", "dug", "(III)I"⟩
set_option maxRecDepth 100000 in
theorem mi_X7_dug : Jvm.Cond.code y_X7_dug prog_1_method_19_code 4 (some .int) ∈ tblG ∧ Jvm.Cond.initialized y_X7_dug.cls ∈ tblG ∧ Jvm.Cond.instanceMethod y_X7_dug ∈ tblG ∧ Jvm.Cond.selects y_X7_dug.cls y_X7_dug y_X7_dug ∈ tblG ∧ pl3 y_X7_dug 3 := ⟨tblG_of (i := 506) rfl rfl, tblG_of (i := 1) rfl rfl, tblG_of (i := 504) rfl rfl, tblG_of (i := 505) rfl rfl, ⟨by decide +kernel, by decide +kernel, by decide +kernel⟩⟩
def y_X7_flood : MethodName := ⟨"BrookStones", "flood", "(II)I"⟩
set_option maxRecDepth 100000 in
theorem mi_X7_flood : Jvm.Cond.code y_X7_flood prog_1_method_20_code 4 (some .int) ∈ tblG ∧ Jvm.Cond.initialized y_X7_flood.cls ∈ tblG ∧ Jvm.Cond.instanceMethod y_X7_flood ∈ tblG ∧ Jvm.Cond.selects y_X7_flood.cls y_X7_flood y_X7_flood ∈ tblG ∧ pl3 y_X7_flood 2 := ⟨tblG_of (i := 510) rfl rfl, tblG_of (i := 1) rfl rfl, tblG_of (i := 508) rfl rfl, tblG_of (i := 509) rfl rfl, ⟨by decide +kernel, by decide +kernel, by decide +kernel⟩⟩
def y_X7_save : MethodName := ⟨"BrookStones", "save", "(III)I"⟩
set_option maxRecDepth 100000 in
theorem mi_X7_save : Jvm.Cond.code y_X7_save prog_1_method_21_code 8 (some .int) ∈ tblG ∧ Jvm.Cond.initialized y_X7_save.cls ∈ tblG ∧ Jvm.Cond.instanceMethod y_X7_save ∈ tblG ∧ Jvm.Cond.selects y_X7_save.cls y_X7_save y_X7_save ∈ tblG ∧ pl3 y_X7_save 3 := ⟨tblG_of (i := 525) rfl rfl, tblG_of (i := 1) rfl rfl, tblG_of (i := 523) rfl rfl, tblG_of (i := 524) rfl rfl, ⟨by decide +kernel, by decide +kernel, by decide +kernel⟩⟩
def y_X7_plan : MethodName := ⟨"BrookStones", "plan", "(IIII)I"⟩
set_option maxRecDepth 100000 in
theorem mi_X7_plan : Jvm.Cond.code y_X7_plan prog_1_method_22_code 5 (some .int) ∈ tblG ∧ Jvm.Cond.initialized y_X7_plan.cls ∈ tblG ∧ Jvm.Cond.instanceMethod y_X7_plan ∈ tblG ∧ Jvm.Cond.selects y_X7_plan.cls y_X7_plan y_X7_plan ∈ tblG ∧ pl3 y_X7_plan 4 := ⟨tblG_of (i := 529) rfl rfl, tblG_of (i := 1) rfl rfl, tblG_of (i := 527) rfl rfl, tblG_of (i := 528) rfl rfl, ⟨by decide +kernel, by decide +kernel, by decide +kernel⟩⟩
def y_X7_orders : MethodName := ⟨"BrookStones", "orders", "(I)I"⟩
set_option maxRecDepth 100000 in
theorem mi_X7_orders : Jvm.Cond.code y_X7_orders prog_1_method_23_code 2 (some .int) ∈ tblG ∧ Jvm.Cond.initialized y_X7_orders.cls ∈ tblG ∧ Jvm.Cond.instanceMethod y_X7_orders ∈ tblG ∧ Jvm.Cond.selects y_X7_orders.cls y_X7_orders y_X7_orders ∈ tblG ∧ pl3 y_X7_orders 1 := ⟨tblG_of (i := 589) rfl rfl, tblG_of (i := 1) rfl rfl, tblG_of (i := 587) rfl rfl, tblG_of (i := 588) rfl rfl, ⟨by decide +kernel, by decide +kernel, by decide +kernel⟩⟩
def y_X7_order : MethodName := ⟨"BrookStones", "order", "(II)I"⟩
set_option maxRecDepth 100000 in
theorem mi_X7_order : Jvm.Cond.code y_X7_order prog_1_method_24_code 3 (some .int) ∈ tblG ∧ Jvm.Cond.initialized y_X7_order.cls ∈ tblG ∧ Jvm.Cond.instanceMethod y_X7_order ∈ tblG ∧ Jvm.Cond.selects y_X7_order.cls y_X7_order y_X7_order ∈ tblG ∧ pl3 y_X7_order 2 := ⟨tblG_of (i := 610) rfl rfl, tblG_of (i := 1) rfl rfl, tblG_of (i := 608) rfl rfl, tblG_of (i := 609) rfl rfl, ⟨by decide +kernel, by decide +kernel, by decide +kernel⟩⟩
def y_X7_fits : MethodName := ⟨"BrookStones", "fits", "(II)I"⟩
set_option maxRecDepth 100000 in
theorem mi_X7_fits : Jvm.Cond.code y_X7_fits prog_1_method_25_code 5 (some .int) ∈ tblG ∧ Jvm.Cond.initialized y_X7_fits.cls ∈ tblG ∧ Jvm.Cond.instanceMethod y_X7_fits ∈ tblG ∧ Jvm.Cond.selects y_X7_fits.cls y_X7_fits y_X7_fits ∈ tblG ∧ pl3 y_X7_fits 2 := ⟨tblG_of (i := 624) rfl rfl, tblG_of (i := 1) rfl rfl, tblG_of (i := 622) rfl rfl, tblG_of (i := 623) rfl rfl, ⟨by decide +kernel, by decide +kernel, by decide +kernel⟩⟩
def y_X7_odds : MethodName := ⟨"BrookStones", "odds", "(IIIIII)J"⟩
set_option maxRecDepth 100000 in
theorem mi_X7_odds : Jvm.Cond.code y_X7_odds prog_1_method_26_code 10 (some .long) ∈ tblG ∧ Jvm.Cond.initialized y_X7_odds.cls ∈ tblG ∧ Jvm.Cond.instanceMethod y_X7_odds ∈ tblG ∧ Jvm.Cond.selects y_X7_odds.cls y_X7_odds y_X7_odds ∈ tblG ∧ pl3 y_X7_odds 6 := ⟨tblG_of (i := 628) rfl rfl, tblG_of (i := 1) rfl rfl, tblG_of (i := 626) rfl rfl, tblG_of (i := 627) rfl rfl, ⟨by decide +kernel, by decide +kernel, by decide +kernel⟩⟩
def y_X7_weightAcross : MethodName := ⟨"BrookStones", "weightAcross", "(IIII)I"⟩
set_option maxRecDepth 100000 in
theorem mi_X7_weightAcross : Jvm.Cond.code y_X7_weightAcross prog_1_method_27_code 7 (some .int) ∈ tblG ∧ Jvm.Cond.initialized y_X7_weightAcross.cls ∈ tblG ∧ Jvm.Cond.instanceMethod y_X7_weightAcross ∈ tblG ∧ Jvm.Cond.selects y_X7_weightAcross.cls y_X7_weightAcross y_X7_weightAcross ∈ tblG ∧ pl3 y_X7_weightAcross 4 := ⟨tblG_of (i := 637) rfl rfl, tblG_of (i := 1) rfl rfl, tblG_of (i := 636) rfl rfl, tblG_sel (q := (y_X7_weightAcross, 8)) (List.mem_of_getElem? (i := 46) rfl), ⟨by decide +kernel, by decide +kernel, by decide +kernel⟩⟩
def y_X7_sheet : MethodName := ⟨"BrookStones", "sheet", "(III)I"⟩
set_option maxRecDepth 100000 in
theorem mi_X7_sheet : Jvm.Cond.code y_X7_sheet prog_1_method_28_code 4 (some .int) ∈ tblG ∧ Jvm.Cond.initialized y_X7_sheet.cls ∈ tblG ∧ Jvm.Cond.instanceMethod y_X7_sheet ∈ tblG ∧ Jvm.Cond.selects y_X7_sheet.cls y_X7_sheet y_X7_sheet ∈ tblG ∧ pl3 y_X7_sheet 3 := ⟨tblG_of (i := 644) rfl rfl, tblG_of (i := 1) rfl rfl, tblG_of (i := 642) rfl rfl, tblG_of (i := 643) rfl rfl, ⟨by decide +kernel, by decide +kernel, by decide +kernel⟩⟩
def y_X7_lose : MethodName := ⟨"BrookStones", "lose", "(I)I"⟩
set_option maxRecDepth 100000 in
theorem mi_X7_lose : Jvm.Cond.code y_X7_lose prog_1_method_29_code 2 (some .int) ∈ tblG ∧ Jvm.Cond.initialized y_X7_lose.cls ∈ tblG ∧ Jvm.Cond.instanceMethod y_X7_lose ∈ tblG ∧ Jvm.Cond.selects y_X7_lose.cls y_X7_lose y_X7_lose ∈ tblG ∧ pl3 y_X7_lose 1 := ⟨tblG_of (i := 658) rfl rfl, tblG_of (i := 1) rfl rfl, tblG_of (i := 656) rfl rfl, tblG_of (i := 657) rfl rfl, ⟨by decide +kernel, by decide +kernel, by decide +kernel⟩⟩
def y_X7_put : MethodName := ⟨"BrookStones", "put", "(III)I"⟩
set_option maxRecDepth 100000 in
theorem mi_X7_put : Jvm.Cond.code y_X7_put prog_1_method_30_code 4 (some .int) ∈ tblG ∧ Jvm.Cond.initialized y_X7_put.cls ∈ tblG ∧ Jvm.Cond.instanceMethod y_X7_put ∈ tblG ∧ Jvm.Cond.selects y_X7_put.cls y_X7_put y_X7_put ∈ tblG ∧ pl3 y_X7_put 3 := ⟨tblG_of (i := 667) rfl rfl, tblG_of (i := 1) rfl rfl, tblG_of (i := 665) rfl rfl, tblG_of (i := 666) rfl rfl, ⟨by decide +kernel, by decide +kernel, by decide +kernel⟩⟩
def y_X7_cell : MethodName := ⟨"BrookStones", "cell", "(III)J"⟩
set_option maxRecDepth 100000 in
theorem mi_X7_cell : Jvm.Cond.code y_X7_cell prog_1_method_31_code 4 (some .long) ∈ tblG ∧ Jvm.Cond.initialized y_X7_cell.cls ∈ tblG ∧ Jvm.Cond.instanceMethod y_X7_cell ∈ tblG ∧ Jvm.Cond.selects y_X7_cell.cls y_X7_cell y_X7_cell ∈ tblG ∧ pl3 y_X7_cell 3 := ⟨tblG_of (i := 678) rfl rfl, tblG_of (i := 1) rfl rfl, tblG_of (i := 676) rfl rfl, tblG_of (i := 677) rfl rfl, ⟨by decide +kernel, by decide +kernel, by decide +kernel⟩⟩
def y_X7_copy : MethodName := ⟨"BrookStones", "copy", "(IIIII)I"⟩
set_option maxRecDepth 100000 in
theorem mi_X7_copy : Jvm.Cond.code y_X7_copy prog_1_method_32_code 6 (some .int) ∈ tblG ∧ Jvm.Cond.initialized y_X7_copy.cls ∈ tblG ∧ Jvm.Cond.instanceMethod y_X7_copy ∈ tblG ∧ Jvm.Cond.selects y_X7_copy.cls y_X7_copy y_X7_copy ∈ tblG ∧ pl3 y_X7_copy 5 := ⟨tblG_of (i := 682) rfl rfl, tblG_of (i := 1) rfl rfl, tblG_of (i := 680) rfl rfl, tblG_of (i := 681) rfl rfl, ⟨by decide +kernel, by decide +kernel, by decide +kernel⟩⟩
def y_X7_tell : MethodName := ⟨"BrookStones", "tell", "(I)I"⟩
set_option maxRecDepth 100000 in
theorem mi_X7_tell : Jvm.Cond.code y_X7_tell prog_1_method_33_code 2 (some .int) ∈ tblG ∧ Jvm.Cond.initialized y_X7_tell.cls ∈ tblG ∧ Jvm.Cond.instanceMethod y_X7_tell ∈ tblG ∧ Jvm.Cond.selects y_X7_tell.cls y_X7_tell y_X7_tell ∈ tblG ∧ pl3 y_X7_tell 1 := ⟨tblG_of (i := 692) rfl rfl, tblG_of (i := 1) rfl rfl, tblG_of (i := 690) rfl rfl, tblG_of (i := 691) rfl rfl, ⟨by decide +kernel, by decide +kernel, by decide +kernel⟩⟩
def y_X7_tread : MethodName := ⟨"BrookStones", "tread", "(I)I"⟩
set_option maxRecDepth 100000 in
theorem mi_X7_tread : Jvm.Cond.code y_X7_tread prog_1_method_34_code 2 (some .int) ∈ tblG ∧ Jvm.Cond.initialized y_X7_tread.cls ∈ tblG ∧ Jvm.Cond.instanceMethod y_X7_tread ∈ tblG ∧ Jvm.Cond.selects y_X7_tread.cls y_X7_tread y_X7_tread ∈ tblG ∧ pl3 y_X7_tread 1 := ⟨tblG_of (i := 712) rfl rfl, tblG_of (i := 1) rfl rfl, tblG_of (i := 710) rfl rfl, tblG_of (i := 711) rfl rfl, ⟨by decide +kernel, by decide +kernel, by decide +kernel⟩⟩
def y_X7_as : MethodName := ⟨"BrookStones", "as", "(II)I"⟩
set_option maxRecDepth 100000 in
theorem mi_X7_as : Jvm.Cond.code y_X7_as prog_1_method_35_code 3 (some .int) ∈ tblG ∧ Jvm.Cond.initialized y_X7_as.cls ∈ tblG ∧ Jvm.Cond.instanceMethod y_X7_as ∈ tblG ∧ Jvm.Cond.selects y_X7_as.cls y_X7_as y_X7_as ∈ tblG ∧ pl3 y_X7_as 2 := ⟨tblG_of (i := 716) rfl rfl, tblG_of (i := 1) rfl rfl, tblG_of (i := 714) rfl rfl, tblG_of (i := 715) rfl rfl, ⟨by decide +kernel, by decide +kernel, by decide +kernel⟩⟩
def y_X7_trace : MethodName := ⟨"BrookStones", "trace", "()I"⟩
set_option maxRecDepth 100000 in
theorem mi_X7_trace : Jvm.Cond.code y_X7_trace prog_1_method_36_code 1 (some .int) ∈ tblG ∧ Jvm.Cond.initialized y_X7_trace.cls ∈ tblG ∧ Jvm.Cond.instanceMethod y_X7_trace ∈ tblG ∧ Jvm.Cond.selects y_X7_trace.cls y_X7_trace y_X7_trace ∈ tblG ∧ pl3 y_X7_trace 0 := ⟨tblG_of (i := 720) rfl rfl, tblG_of (i := 1) rfl rfl, tblG_of (i := 718) rfl rfl, tblG_of (i := 719) rfl rfl, ⟨by decide +kernel, by decide +kernel, by decide +kernel⟩⟩
def y_X7_fault : MethodName := ⟨"BrookStones", "fault", "()I"⟩
set_option maxRecDepth 100000 in
theorem mi_X7_fault : Jvm.Cond.code y_X7_fault prog_1_method_37_code 1 (some .int) ∈ tblG ∧ Jvm.Cond.initialized y_X7_fault.cls ∈ tblG ∧ Jvm.Cond.instanceMethod y_X7_fault ∈ tblG ∧ Jvm.Cond.selects y_X7_fault.cls y_X7_fault y_X7_fault ∈ tblG ∧ pl3 y_X7_fault 0 := ⟨tblG_of (i := 724) rfl rfl, tblG_of (i := 1) rfl rfl, tblG_of (i := 722) rfl rfl, tblG_of (i := 723) rfl rfl, ⟨by decide +kernel, by decide +kernel, by decide +kernel⟩⟩
def y_X7_many : MethodName := ⟨"BrookStones", "many", "(I)I"⟩
set_option maxRecDepth 100000 in
theorem mi_X7_many : Jvm.Cond.code y_X7_many prog_1_method_38_code 2 (some .int) ∈ tblG ∧ Jvm.Cond.initialized y_X7_many.cls ∈ tblG ∧ Jvm.Cond.instanceMethod y_X7_many ∈ tblG ∧ Jvm.Cond.selects y_X7_many.cls y_X7_many y_X7_many ∈ tblG ∧ pl3 y_X7_many 1 := ⟨tblG_of (i := 728) rfl rfl, tblG_of (i := 1) rfl rfl, tblG_of (i := 726) rfl rfl, tblG_of (i := 727) rfl rfl, ⟨by decide +kernel, by decide +kernel, by decide +kernel⟩⟩
def y_X7_refusalOfCells : MethodName := ⟨"BrookStones", "refusalOfCells", "(IIII)I"⟩
set_option maxRecDepth 100000 in
theorem mi_X7_refusalOfCells : Jvm.Cond.code y_X7_refusalOfCells prog_1_method_39_code 6 (some .int) ∈ tblG ∧ Jvm.Cond.initialized y_X7_refusalOfCells.cls ∈ tblG ∧ Jvm.Cond.instanceMethod y_X7_refusalOfCells ∈ tblG ∧ Jvm.Cond.selects y_X7_refusalOfCells.cls y_X7_refusalOfCells y_X7_refusalOfCells ∈ tblG ∧ pl3 y_X7_refusalOfCells 4 := ⟨tblG_of (i := 262) rfl rfl, tblG_of (i := 1) rfl rfl, tblG_of (i := 261) rfl rfl, tblG_sel (q := (y_X7_refusalOfCells, 8)) (List.mem_of_getElem? (i := 0) rfl), ⟨by decide +kernel, by decide +kernel, by decide +kernel⟩⟩
def y_X7_failBy : MethodName := ⟨"BrookStones", "failBy", "(I)I"⟩
set_option maxRecDepth 100000 in
theorem mi_X7_failBy : Jvm.Cond.code y_X7_failBy prog_1_method_40_code 2 (some .int) ∈ tblG ∧ Jvm.Cond.initialized y_X7_failBy.cls ∈ tblG ∧ Jvm.Cond.instanceMethod y_X7_failBy ∈ tblG ∧ Jvm.Cond.selects y_X7_failBy.cls y_X7_failBy y_X7_failBy ∈ tblG ∧ pl3 y_X7_failBy 1 := ⟨tblG_of (i := 287) rfl rfl, tblG_of (i := 1) rfl rfl, tblG_of (i := 286) rfl rfl, tblG_sel (q := (y_X7_failBy, 8)) (List.mem_of_getElem? (i := 4) rfl), ⟨by decide +kernel, by decide +kernel, by decide +kernel⟩⟩
def y_X7_tellAsStone : MethodName := ⟨"BrookStones", "tellAsStone", "(I)I"⟩
set_option maxRecDepth 100000 in
theorem mi_X7_tellAsStone : Jvm.Cond.code y_X7_tellAsStone prog_1_method_41_code 2 (some .int) ∈ tblG ∧ Jvm.Cond.initialized y_X7_tellAsStone.cls ∈ tblG ∧ Jvm.Cond.instanceMethod y_X7_tellAsStone ∈ tblG ∧ Jvm.Cond.selects y_X7_tellAsStone.cls y_X7_tellAsStone y_X7_tellAsStone ∈ tblG ∧ pl3 y_X7_tellAsStone 1 := ⟨tblG_of (i := 708) rfl rfl, tblG_of (i := 1) rfl rfl, tblG_of (i := 707) rfl rfl, tblG_sel (q := (y_X7_tellAsStone, 8)) (List.mem_of_getElem? (i := 54) rfl), ⟨by decide +kernel, by decide +kernel, by decide +kernel⟩⟩
def y_X7_tellAsFlat : MethodName := ⟨"BrookStones", "tellAsFlat", "(I)I"⟩
set_option maxRecDepth 100000 in
theorem mi_X7_tellAsFlat : Jvm.Cond.code y_X7_tellAsFlat prog_1_method_42_code 2 (some .int) ∈ tblG ∧ Jvm.Cond.initialized y_X7_tellAsFlat.cls ∈ tblG ∧ Jvm.Cond.instanceMethod y_X7_tellAsFlat ∈ tblG ∧ Jvm.Cond.selects y_X7_tellAsFlat.cls y_X7_tellAsFlat y_X7_tellAsFlat ∈ tblG ∧ pl3 y_X7_tellAsFlat 1 := ⟨tblG_of (i := 704) rfl rfl, tblG_of (i := 1) rfl rfl, tblG_of (i := 703) rfl rfl, tblG_sel (q := (y_X7_tellAsFlat, 8)) (List.mem_of_getElem? (i := 53) rfl), ⟨by decide +kernel, by decide +kernel, by decide +kernel⟩⟩
def y_X7_tellAsTable : MethodName := ⟨"BrookStones", "tellAsTable", "(I)I"⟩
set_option maxRecDepth 100000 in
theorem mi_X7_tellAsTable : Jvm.Cond.code y_X7_tellAsTable prog_1_method_43_code 3 (some .int) ∈ tblG ∧ Jvm.Cond.initialized y_X7_tellAsTable.cls ∈ tblG ∧ Jvm.Cond.instanceMethod y_X7_tellAsTable ∈ tblG ∧ Jvm.Cond.selects y_X7_tellAsTable.cls y_X7_tellAsTable y_X7_tellAsTable ∈ tblG ∧ pl3 y_X7_tellAsTable 1 := ⟨tblG_of (i := 696) rfl rfl, tblG_of (i := 1) rfl rfl, tblG_of (i := 695) rfl rfl, tblG_sel (q := (y_X7_tellAsTable, 8)) (List.mem_of_getElem? (i := 51) rfl), ⟨by decide +kernel, by decide +kernel, by decide +kernel⟩⟩
def y_X7_leave : MethodName := ⟨"BrookStones", "leave", "(I)V"⟩
set_option maxRecDepth 100000 in
theorem mi_X7_leave : Jvm.Cond.code y_X7_leave prog_1_method_44_code 2 (none) ∈ tblG ∧ Jvm.Cond.initialized y_X7_leave.cls ∈ tblG ∧ Jvm.Cond.instanceMethod y_X7_leave ∈ tblG ∧ Jvm.Cond.selects y_X7_leave.cls y_X7_leave y_X7_leave ∈ tblG ∧ pl3 y_X7_leave 1 := ⟨tblG_of (i := 700) rfl rfl, tblG_of (i := 1) rfl rfl, tblG_of (i := 699) rfl rfl, tblG_sel (q := (y_X7_leave, 8)) (List.mem_of_getElem? (i := 52) rfl), ⟨by decide +kernel, by decide +kernel, by decide +kernel⟩⟩
def y_X7_isFlood : MethodName := ⟨"BrookStones", "isFlood", "(II)Z"⟩
set_option maxRecDepth 100000 in
theorem mi_X7_isFlood : Jvm.Cond.code y_X7_isFlood prog_1_method_45_code 2 (some .boolean) ∈ tblG ∧ Jvm.Cond.initialized y_X7_isFlood.cls ∈ tblG ∧ Jvm.Cond.static y_X7_isFlood ∈ tblG ∧ pl3 y_X7_isFlood 2 := ⟨tblG_of (i := 485) rfl rfl, tblG_of (i := 1) rfl rfl, tblG_of (i := 484) rfl rfl, ⟨by decide +kernel, by decide +kernel, by decide +kernel⟩⟩
def y_X7_isWithin : MethodName := ⟨"BrookStones", "isWithin", "(III)Z"⟩
set_option maxRecDepth 100000 in
theorem mi_X7_isWithin : Jvm.Cond.code y_X7_isWithin prog_1_method_46_code 3 (some .boolean) ∈ tblG ∧ Jvm.Cond.initialized y_X7_isWithin.cls ∈ tblG ∧ Jvm.Cond.static y_X7_isWithin ∈ tblG ∧ pl3 y_X7_isWithin 3 := ⟨tblG_of (i := 268) rfl rfl, tblG_of (i := 1) rfl rfl, tblG_of (i := 267) rfl rfl, ⟨by decide +kernel, by decide +kernel, by decide +kernel⟩⟩
def y_X7_has : MethodName := ⟨"BrookStones", "has", "(II)Z"⟩
set_option maxRecDepth 100000 in
theorem mi_X7_has : Jvm.Cond.code y_X7_has prog_1_method_47_code 2 (some .boolean) ∈ tblG ∧ Jvm.Cond.initialized y_X7_has.cls ∈ tblG ∧ Jvm.Cond.static y_X7_has ∈ tblG ∧ pl3 y_X7_has 2 := ⟨tblG_of (i := 331) rfl rfl, tblG_of (i := 1) rfl rfl, tblG_of (i := 330) rfl rfl, ⟨by decide +kernel, by decide +kernel, by decide +kernel⟩⟩
def y_X7_commonDivisor : MethodName := ⟨"BrookStones", "commonDivisor", "(II)I"⟩
set_option maxRecDepth 100000 in
theorem mi_X7_commonDivisor : Jvm.Cond.code y_X7_commonDivisor prog_1_method_48_code 6 (some .int) ∈ tblG ∧ Jvm.Cond.initialized y_X7_commonDivisor.cls ∈ tblG ∧ Jvm.Cond.static y_X7_commonDivisor ∈ tblG ∧ pl3 y_X7_commonDivisor 2 := ⟨tblG_of (i := 640) rfl rfl, tblG_of (i := 1) rfl rfl, tblG_of (i := 639) rfl rfl, ⟨by decide +kernel, by decide +kernel, by decide +kernel⟩⟩
def y_X7_farthest : MethodName := ⟨"BrookStones", "farthest", "(IIII)I"⟩
set_option maxRecDepth 100000 in
theorem mi_X7_farthest : Jvm.Cond.code y_X7_farthest prog_1_method_49_code 7 (some .int) ∈ tblG ∧ Jvm.Cond.initialized y_X7_farthest.cls ∈ tblG ∧ Jvm.Cond.static y_X7_farthest ∈ tblG ∧ pl3 y_X7_farthest 4 := ⟨tblG_of (i := 433) rfl rfl, tblG_of (i := 1) rfl rfl, tblG_of (i := 432) rfl rfl, ⟨by decide +kernel, by decide +kernel, by decide +kernel⟩⟩
def y_X8_init : MethodName := ⟨"BrookStonesModel", "<init>", "()V"⟩
set_option maxRecDepth 100000 in
theorem mi_X8_init : Jvm.Cond.code y_X8_init prog_10_method_1_code 1 (none) ∈ tblG ∧ Jvm.Cond.initialized y_X8_init.cls ∈ tblG ∧ Jvm.Cond.instanceMethod y_X8_init ∈ tblG ∧ pl3 y_X8_init 0 := ⟨tblG_of (i := 733) rfl rfl, tblG_of (i := 9) rfl rfl, tblG_of (i := 732) rfl rfl, ⟨by decide +kernel, by decide +kernel, by decide +kernel⟩⟩
def y_X8_fails : MethodName := ⟨"BrookStonesModel", "fails", "(I)I"⟩
set_option maxRecDepth 100000 in
theorem mi_X8_fails : Jvm.Cond.code y_X8_fails prog_10_method_3_code 2 (some .int) ∈ tblG ∧ Jvm.Cond.initialized y_X8_fails.cls ∈ tblG ∧ Jvm.Cond.instanceMethod y_X8_fails ∈ tblG ∧ Jvm.Cond.selects y_X8_fails.cls y_X8_fails y_X8_fails ∈ tblG ∧ pl3 y_X8_fails 1 := ⟨tblG_of (i := 868) rfl rfl, tblG_of (i := 9) rfl rfl, tblG_of (i := 867) rfl rfl, tblG_sel (q := (y_X8_fails, 37)) (List.mem_of_getElem? (i := 56) rfl), ⟨by decide +kernel, by decide +kernel, by decide +kernel⟩⟩
def y_X8_lost : MethodName := ⟨"BrookStonesModel", "lost", "(I)J"⟩
set_option maxRecDepth 100000 in
theorem mi_X8_lost : Jvm.Cond.code y_X8_lost prog_10_method_4_code 2 (some .long) ∈ tblG ∧ Jvm.Cond.initialized y_X8_lost.cls ∈ tblG ∧ Jvm.Cond.instanceMethod y_X8_lost ∈ tblG ∧ Jvm.Cond.selects y_X8_lost.cls y_X8_lost y_X8_lost ∈ tblG ∧ pl3 y_X8_lost 1 := ⟨tblG_of (i := 1091) rfl rfl, tblG_of (i := 9) rfl rfl, tblG_of (i := 1090) rfl rfl, tblG_sel (q := (y_X8_lost, 37)) (List.mem_of_getElem? (i := 85) rfl), ⟨by decide +kernel, by decide +kernel, by decide +kernel⟩⟩
def y_X8_within : MethodName := ⟨"BrookStonesModel", "within", "(III)Z"⟩
set_option maxRecDepth 100000 in
theorem mi_X8_within : Jvm.Cond.code y_X8_within prog_10_method_5_code 3 (some .boolean) ∈ tblG ∧ Jvm.Cond.initialized y_X8_within.cls ∈ tblG ∧ Jvm.Cond.static y_X8_within ∈ tblG ∧ pl3 y_X8_within 3 := ⟨tblG_of (i := 857) rfl rfl, tblG_of (i := 9) rfl rfl, tblG_of (i := 856) rfl rfl, ⟨by decide +kernel, by decide +kernel, by decide +kernel⟩⟩
def y_X8_has : MethodName := ⟨"BrookStonesModel", "has", "(II)Z"⟩
set_option maxRecDepth 100000 in
theorem mi_X8_has : Jvm.Cond.code y_X8_has prog_10_method_6_code 2 (some .boolean) ∈ tblG ∧ Jvm.Cond.initialized y_X8_has.cls ∈ tblG ∧ Jvm.Cond.static y_X8_has ∈ tblG ∧ pl3 y_X8_has 2 := ⟨tblG_of (i := 996) rfl rfl, tblG_of (i := 9) rfl rfl, tblG_of (i := 995) rfl rfl, ⟨by decide +kernel, by decide +kernel, by decide +kernel⟩⟩
def y_X8_isSheet : MethodName := ⟨"BrookStonesModel", "isSheet", "(I)Z"⟩
set_option maxRecDepth 100000 in
theorem mi_X8_isSheet : Jvm.Cond.code y_X8_isSheet prog_10_method_7_code 1 (some .boolean) ∈ tblG ∧ Jvm.Cond.initialized y_X8_isSheet.cls ∈ tblG ∧ Jvm.Cond.static y_X8_isSheet ∈ tblG ∧ pl3 y_X8_isSheet 1 := ⟨tblG_of (i := 854) rfl rfl, tblG_of (i := 9) rfl rfl, tblG_of (i := 853) rfl rfl, ⟨by decide +kernel, by decide +kernel, by decide +kernel⟩⟩
def y_X8_isSort : MethodName := ⟨"BrookStonesModel", "isSort", "(I)Z"⟩
set_option maxRecDepth 100000 in
theorem mi_X8_isSort : Jvm.Cond.code y_X8_isSort prog_10_method_8_code 1 (some .boolean) ∈ tblG ∧ Jvm.Cond.initialized y_X8_isSort.cls ∈ tblG ∧ Jvm.Cond.static y_X8_isSort ∈ tblG ∧ pl3 y_X8_isSort 1 := ⟨tblG_of (i := 860) rfl rfl, tblG_of (i := 9) rfl rfl, tblG_of (i := 859) rfl rfl, ⟨by decide +kernel, by decide +kernel, by decide +kernel⟩⟩
def y_X8_against : MethodName := ⟨"BrookStonesModel", "against", "(IIII)I"⟩
set_option maxRecDepth 100000 in
theorem mi_X8_against : Jvm.Cond.code y_X8_against prog_10_method_9_code 5 (some .int) ∈ tblG ∧ Jvm.Cond.initialized y_X8_against.cls ∈ tblG ∧ Jvm.Cond.instanceMethod y_X8_against ∈ tblG ∧ Jvm.Cond.selects y_X8_against.cls y_X8_against y_X8_against ∈ tblG ∧ pl3 y_X8_against 4 := ⟨tblG_of (i := 864) rfl rfl, tblG_of (i := 9) rfl rfl, tblG_of (i := 863) rfl rfl, tblG_sel (q := (y_X8_against, 37)) (List.mem_of_getElem? (i := 55) rfl), ⟨by decide +kernel, by decide +kernel, by decide +kernel⟩⟩
def y_X8_isCell : MethodName := ⟨"BrookStonesModel", "isCell", "(I)Z"⟩
set_option maxRecDepth 100000 in
theorem mi_X8_isCell : Jvm.Cond.code y_X8_isCell prog_10_method_10_code 2 (some .boolean) ∈ tblG ∧ Jvm.Cond.initialized y_X8_isCell.cls ∈ tblG ∧ Jvm.Cond.instanceMethod y_X8_isCell ∈ tblG ∧ Jvm.Cond.selects y_X8_isCell.cls y_X8_isCell y_X8_isCell ∈ tblG ∧ pl3 y_X8_isCell 1 := ⟨tblG_of (i := 888) rfl rfl, tblG_of (i := 9) rfl rfl, tblG_of (i := 887) rfl rfl, tblG_sel (q := (y_X8_isCell, 37)) (List.mem_of_getElem? (i := 60) rfl), ⟨by decide +kernel, by decide +kernel, by decide +kernel⟩⟩
def y_X8_isCode : MethodName := ⟨"BrookStonesModel", "isCode", "(II)Z"⟩
set_option maxRecDepth 100000 in
theorem mi_X8_isCode : Jvm.Cond.code y_X8_isCode prog_10_method_11_code 3 (some .boolean) ∈ tblG ∧ Jvm.Cond.initialized y_X8_isCode.cls ∈ tblG ∧ Jvm.Cond.instanceMethod y_X8_isCode ∈ tblG ∧ Jvm.Cond.selects y_X8_isCode.cls y_X8_isCode y_X8_isCode ∈ tblG ∧ pl3 y_X8_isCode 2 := ⟨tblG_of (i := 876) rfl rfl, tblG_of (i := 9) rfl rfl, tblG_of (i := 875) rfl rfl, tblG_sel (q := (y_X8_isCode, 37)) (List.mem_of_getElem? (i := 58) rfl), ⟨by decide +kernel, by decide +kernel, by decide +kernel⟩⟩
def y_X8_isDigit : MethodName := ⟨"BrookStonesModel", "isDigit", "(I)Z"⟩
set_option maxRecDepth 100000 in
theorem mi_X8_isDigit : Jvm.Cond.code y_X8_isDigit prog_10_method_12_code 2 (some .boolean) ∈ tblG ∧ Jvm.Cond.initialized y_X8_isDigit.cls ∈ tblG ∧ Jvm.Cond.instanceMethod y_X8_isDigit ∈ tblG ∧ Jvm.Cond.selects y_X8_isDigit.cls y_X8_isDigit y_X8_isDigit ∈ tblG ∧ pl3 y_X8_isDigit 1 := ⟨tblG_of (i := 880) rfl rfl, tblG_of (i := 9) rfl rfl, tblG_of (i := 879) rfl rfl, tblG_sel (q := (y_X8_isDigit, 37)) (List.mem_of_getElem? (i := 59) rfl), ⟨by decide +kernel, by decide +kernel, by decide +kernel⟩⟩
def y_X8_brook : MethodName := ⟨"BrookStonesModel", "brook", "(IIII)I"⟩
set_option maxRecDepth 100000 in
theorem mi_X8_brook : Jvm.Cond.code y_X8_brook prog_10_method_13_code 8 (some .int) ∈ tblG ∧ Jvm.Cond.initialized y_X8_brook.cls ∈ tblG ∧ Jvm.Cond.instanceMethod y_X8_brook ∈ tblG ∧ Jvm.Cond.selects y_X8_brook.cls y_X8_brook y_X8_brook ∈ tblG ∧ pl3 y_X8_brook 4 := ⟨tblG_of (i := 851) rfl rfl, tblG_of (i := 9) rfl rfl, tblG_of (i := 849) rfl rfl, tblG_of (i := 850) rfl rfl, ⟨by decide +kernel, by decide +kernel, by decide +kernel⟩⟩
def y_X8_readBrook : MethodName := ⟨"BrookStonesModel", "readBrook", "(I)Z"⟩
set_option maxRecDepth 100000 in
theorem mi_X8_readBrook : Jvm.Cond.code y_X8_readBrook prog_10_method_14_code 3 (some .boolean) ∈ tblG ∧ Jvm.Cond.initialized y_X8_readBrook.cls ∈ tblG ∧ Jvm.Cond.instanceMethod y_X8_readBrook ∈ tblG ∧ Jvm.Cond.selects y_X8_readBrook.cls y_X8_readBrook y_X8_readBrook ∈ tblG ∧ pl3 y_X8_readBrook 1 := ⟨tblG_of (i := 872) rfl rfl, tblG_of (i := 9) rfl rfl, tblG_of (i := 871) rfl rfl, tblG_sel (q := (y_X8_readBrook, 37)) (List.mem_of_getElem? (i := 57) rfl), ⟨by decide +kernel, by decide +kernel, by decide +kernel⟩⟩
def y_X8_topOf : MethodName := ⟨"BrookStonesModel", "topOf", "(II)I"⟩
set_option maxRecDepth 100000 in
theorem mi_X8_topOf : Jvm.Cond.code y_X8_topOf prog_10_method_15_code 3 (some .int) ∈ tblG ∧ Jvm.Cond.initialized y_X8_topOf.cls ∈ tblG ∧ Jvm.Cond.instanceMethod y_X8_topOf ∈ tblG ∧ Jvm.Cond.selects y_X8_topOf.cls y_X8_topOf y_X8_topOf ∈ tblG ∧ pl3 y_X8_topOf 2 := ⟨tblG_of (i := 892) rfl rfl, tblG_of (i := 9) rfl rfl, tblG_of (i := 891) rfl rfl, tblG_sel (q := (y_X8_topOf, 37)) (List.mem_of_getElem? (i := 61) rfl), ⟨by decide +kernel, by decide +kernel, by decide +kernel⟩⟩
def y_X8_ofCell : MethodName := ⟨"BrookStonesModel", "ofCell", "(II)I"⟩
set_option maxRecDepth 100000 in
theorem mi_X8_ofCell : Jvm.Cond.code y_X8_ofCell prog_10_method_16_code 3 (some .int) ∈ tblG ∧ Jvm.Cond.initialized y_X8_ofCell.cls ∈ tblG ∧ Jvm.Cond.instanceMethod y_X8_ofCell ∈ tblG ∧ Jvm.Cond.selects y_X8_ofCell.cls y_X8_ofCell y_X8_ofCell ∈ tblG ∧ pl3 y_X8_ofCell 2 := ⟨tblG_of (i := 884) rfl rfl, tblG_of (i := 9) rfl rfl, tblG_of (i := 882) rfl rfl, tblG_of (i := 883) rfl rfl, ⟨by decide +kernel, by decide +kernel, by decide +kernel⟩⟩
def y_X8_guard : MethodName := ⟨"BrookStonesModel", "guard", "(IZ)I"⟩
set_option maxRecDepth 100000 in
theorem mi_X8_guard : Jvm.Cond.code y_X8_guard prog_10_method_17_code 3 (some .int) ∈ tblG ∧ Jvm.Cond.initialized y_X8_guard.cls ∈ tblG ∧ Jvm.Cond.instanceMethod y_X8_guard ∈ tblG ∧ Jvm.Cond.selects y_X8_guard.cls y_X8_guard y_X8_guard ∈ tblG ∧ pl3 y_X8_guard 2 := ⟨tblG_of (i := 896) rfl rfl, tblG_of (i := 9) rfl rfl, tblG_of (i := 894) rfl rfl, tblG_of (i := 895) rfl rfl, ⟨by decide +kernel, by decide +kernel, by decide +kernel⟩⟩
def y_X8_water : MethodName := ⟨"BrookStonesModel", "water", "(I)I"⟩
set_option maxRecDepth 100000 in
theorem mi_X8_water : Jvm.Cond.code y_X8_water prog_10_method_18_code 3 (some .int) ∈ tblG ∧ Jvm.Cond.initialized y_X8_water.cls ∈ tblG ∧ Jvm.Cond.instanceMethod y_X8_water ∈ tblG ∧ Jvm.Cond.selects y_X8_water.cls y_X8_water y_X8_water ∈ tblG ∧ pl3 y_X8_water 1 := ⟨tblG_of (i := 900) rfl rfl, tblG_of (i := 9) rfl rfl, tblG_of (i := 898) rfl rfl, tblG_of (i := 899) rfl rfl, ⟨by decide +kernel, by decide +kernel, by decide +kernel⟩⟩
def y_X8_isStone : MethodName := ⟨"BrookStonesModel", "isStone", "(I)Z"⟩
set_option maxRecDepth 100000 in
theorem mi_X8_isStone : Jvm.Cond.code y_X8_isStone prog_10_method_19_code 2 (some .boolean) ∈ tblG ∧ Jvm.Cond.initialized y_X8_isStone.cls ∈ tblG ∧ Jvm.Cond.instanceMethod y_X8_isStone ∈ tblG ∧ Jvm.Cond.selects y_X8_isStone.cls y_X8_isStone y_X8_isStone ∈ tblG ∧ pl3 y_X8_isStone 1 := ⟨tblG_of (i := 912) rfl rfl, tblG_of (i := 9) rfl rfl, tblG_of (i := 911) rfl rfl, tblG_sel (q := (y_X8_isStone, 37)) (List.mem_of_getElem? (i := 62) rfl), ⟨by decide +kernel, by decide +kernel, by decide +kernel⟩⟩
def y_X8_stone : MethodName := ⟨"BrookStonesModel", "stone", "(IIII)I"⟩
set_option maxRecDepth 100000 in
theorem mi_X8_stone : Jvm.Cond.code y_X8_stone prog_10_method_20_code 5 (some .int) ∈ tblG ∧ Jvm.Cond.initialized y_X8_stone.cls ∈ tblG ∧ Jvm.Cond.instanceMethod y_X8_stone ∈ tblG ∧ Jvm.Cond.selects y_X8_stone.cls y_X8_stone y_X8_stone ∈ tblG ∧ pl3 y_X8_stone 4 := ⟨tblG_of (i := 904) rfl rfl, tblG_of (i := 9) rfl rfl, tblG_of (i := 902) rfl rfl, tblG_of (i := 903) rfl rfl, ⟨by decide +kernel, by decide +kernel, by decide +kernel⟩⟩
def y_X8_holdOf : MethodName := ⟨"BrookStonesModel", "holdOf", "(I)I"⟩
set_option maxRecDepth 100000 in
theorem mi_X8_holdOf : Jvm.Cond.code y_X8_holdOf prog_10_method_21_code 2 (some .int) ∈ tblG ∧ Jvm.Cond.initialized y_X8_holdOf.cls ∈ tblG ∧ Jvm.Cond.instanceMethod y_X8_holdOf ∈ tblG ∧ Jvm.Cond.selects y_X8_holdOf.cls y_X8_holdOf y_X8_holdOf ∈ tblG ∧ pl3 y_X8_holdOf 1 := ⟨tblG_of (i := 916) rfl rfl, tblG_of (i := 9) rfl rfl, tblG_of (i := 915) rfl rfl, tblG_sel (q := (y_X8_holdOf, 37)) (List.mem_of_getElem? (i := 63) rfl), ⟨by decide +kernel, by decide +kernel, by decide +kernel⟩⟩
def y_X8_ofStone : MethodName := ⟨"BrookStonesModel", "ofStone", "(II)I"⟩
set_option maxRecDepth 100000 in
theorem mi_X8_ofStone : Jvm.Cond.code y_X8_ofStone prog_10_method_22_code 3 (some .int) ∈ tblG ∧ Jvm.Cond.initialized y_X8_ofStone.cls ∈ tblG ∧ Jvm.Cond.instanceMethod y_X8_ofStone ∈ tblG ∧ Jvm.Cond.selects y_X8_ofStone.cls y_X8_ofStone y_X8_ofStone ∈ tblG ∧ pl3 y_X8_ofStone 2 := ⟨tblG_of (i := 908) rfl rfl, tblG_of (i := 9) rfl rfl, tblG_of (i := 906) rfl rfl, tblG_of (i := 907) rfl rfl, ⟨by decide +kernel, by decide +kernel, by decide +kernel⟩⟩
def y_X8_set : MethodName := ⟨"BrookStonesModel", "set", "(II)I"⟩
set_option maxRecDepth 100000 in
theorem mi_X8_set : Jvm.Cond.code y_X8_set prog_10_method_23_code 3 (some .int) ∈ tblG ∧ Jvm.Cond.initialized y_X8_set.cls ∈ tblG ∧ Jvm.Cond.instanceMethod y_X8_set ∈ tblG ∧ Jvm.Cond.selects y_X8_set.cls y_X8_set y_X8_set ∈ tblG ∧ pl3 y_X8_set 2 := ⟨tblG_of (i := 920) rfl rfl, tblG_of (i := 9) rfl rfl, tblG_of (i := 918) rfl rfl, tblG_of (i := 919) rfl rfl, ⟨by decide +kernel, by decide +kernel, by decide +kernel⟩⟩
def y_X8_workOf : MethodName := ⟨"BrookStonesModel", "workOf", "(II)I"⟩
set_option maxRecDepth 100000 in
theorem mi_X8_workOf : Jvm.Cond.code y_X8_workOf prog_10_method_24_code 4 (some .int) ∈ tblG ∧ Jvm.Cond.initialized y_X8_workOf.cls ∈ tblG ∧ Jvm.Cond.instanceMethod y_X8_workOf ∈ tblG ∧ Jvm.Cond.selects y_X8_workOf.cls y_X8_workOf y_X8_workOf ∈ tblG ∧ pl3 y_X8_workOf 2 := ⟨tblG_of (i := 928) rfl rfl, tblG_of (i := 9) rfl rfl, tblG_of (i := 927) rfl rfl, tblG_sel (q := (y_X8_workOf, 37)) (List.mem_of_getElem? (i := 64) rfl), ⟨by decide +kernel, by decide +kernel, by decide +kernel⟩⟩
def y_X8_work : MethodName := ⟨"BrookStonesModel", "work", "(II)I"⟩
set_option maxRecDepth 100000 in
theorem mi_X8_work : Jvm.Cond.code y_X8_work prog_10_method_25_code 3 (some .int) ∈ tblG ∧ Jvm.Cond.initialized y_X8_work.cls ∈ tblG ∧ Jvm.Cond.instanceMethod y_X8_work ∈ tblG ∧ Jvm.Cond.selects y_X8_work.cls y_X8_work y_X8_work ∈ tblG ∧ pl3 y_X8_work 2 := ⟨tblG_of (i := 924) rfl rfl, tblG_of (i := 9) rfl rfl, tblG_of (i := 922) rfl rfl, tblG_of (i := 923) rfl rfl, ⟨by decide +kernel, by decide +kernel, by decide +kernel⟩⟩
def y_X8_isWalker : MethodName := ⟨"BrookStonesModel", "isWalker", "(I)Z"⟩
set_option maxRecDepth 100000 in
theorem mi_X8_isWalker : Jvm.Cond.code y_X8_isWalker prog_10_method_26_code 2 (some .boolean) ∈ tblG ∧ Jvm.Cond.initialized y_X8_isWalker.cls ∈ tblG ∧ Jvm.Cond.instanceMethod y_X8_isWalker ∈ tblG ∧ Jvm.Cond.selects y_X8_isWalker.cls y_X8_isWalker y_X8_isWalker ∈ tblG ∧ pl3 y_X8_isWalker 1 := ⟨tblG_of (i := 940) rfl rfl, tblG_of (i := 9) rfl rfl, tblG_of (i := 939) rfl rfl, tblG_sel (q := (y_X8_isWalker, 37)) (List.mem_of_getElem? (i := 65) rfl), ⟨by decide +kernel, by decide +kernel, by decide +kernel⟩⟩
def y_X8_walker : MethodName := ⟨"BrookStonesModel", "walker", "(I)I"⟩
set_option maxRecDepth 100000 in
theorem mi_X8_walker : Jvm.Cond.code y_X8_walker prog_10_method_27_code 2 (some .int) ∈ tblG ∧ Jvm.Cond.initialized y_X8_walker.cls ∈ tblG ∧ Jvm.Cond.instanceMethod y_X8_walker ∈ tblG ∧ Jvm.Cond.selects y_X8_walker.cls y_X8_walker y_X8_walker ∈ tblG ∧ pl3 y_X8_walker 1 := ⟨tblG_of (i := 932) rfl rfl, tblG_of (i := 9) rfl rfl, tblG_of (i := 930) rfl rfl, tblG_of (i := 931) rfl rfl, ⟨by decide +kernel, by decide +kernel, by decide +kernel⟩⟩
def y_X8_stride : MethodName := ⟨"BrookStonesModel", "stride", "(I)I"⟩
set_option maxRecDepth 100000 in
theorem mi_X8_stride : Jvm.Cond.code y_X8_stride prog_10_method_28_code 2 (some .int) ∈ tblG ∧ Jvm.Cond.initialized y_X8_stride.cls ∈ tblG ∧ Jvm.Cond.instanceMethod y_X8_stride ∈ tblG ∧ Jvm.Cond.selects y_X8_stride.cls y_X8_stride y_X8_stride ∈ tblG ∧ pl3 y_X8_stride 1 := ⟨tblG_of (i := 936) rfl rfl, tblG_of (i := 9) rfl rfl, tblG_of (i := 934) rfl rfl, tblG_of (i := 935) rfl rfl, ⟨by decide +kernel, by decide +kernel, by decide +kernel⟩⟩
def y_X8_layNow : MethodName := ⟨"BrookStonesModel", "layNow", "()V"⟩
set_option maxRecDepth 100000 in
theorem mi_X8_layNow : Jvm.Cond.code y_X8_layNow prog_10_method_29_code 2 (none) ∈ tblG ∧ Jvm.Cond.initialized y_X8_layNow.cls ∈ tblG ∧ Jvm.Cond.instanceMethod y_X8_layNow ∈ tblG ∧ Jvm.Cond.selects y_X8_layNow.cls y_X8_layNow y_X8_layNow ∈ tblG ∧ pl3 y_X8_layNow 0 := ⟨tblG_of (i := 948) rfl rfl, tblG_of (i := 9) rfl rfl, tblG_of (i := 947) rfl rfl, tblG_sel (q := (y_X8_layNow, 37)) (List.mem_of_getElem? (i := 66) rfl), ⟨by decide +kernel, by decide +kernel, by decide +kernel⟩⟩
def y_X8_isBank : MethodName := ⟨"BrookStonesModel", "isBank", "(I)Z"⟩
set_option maxRecDepth 100000 in
theorem mi_X8_isBank : Jvm.Cond.code y_X8_isBank prog_10_method_30_code 2 (some .boolean) ∈ tblG ∧ Jvm.Cond.initialized y_X8_isBank.cls ∈ tblG ∧ Jvm.Cond.instanceMethod y_X8_isBank ∈ tblG ∧ Jvm.Cond.selects y_X8_isBank.cls y_X8_isBank y_X8_isBank ∈ tblG ∧ pl3 y_X8_isBank 1 := ⟨tblG_of (i := 969) rfl rfl, tblG_of (i := 9) rfl rfl, tblG_of (i := 968) rfl rfl, tblG_sel (q := (y_X8_isBank, 37)) (List.mem_of_getElem? (i := 71) rfl), ⟨by decide +kernel, by decide +kernel, by decide +kernel⟩⟩
def y_X8_isStand : MethodName := ⟨"BrookStonesModel", "isStand", "(I)Z"⟩
set_option maxRecDepth 100000 in
theorem mi_X8_isStand : Jvm.Cond.code y_X8_isStand prog_10_method_31_code 3 (some .boolean) ∈ tblG ∧ Jvm.Cond.initialized y_X8_isStand.cls ∈ tblG ∧ Jvm.Cond.instanceMethod y_X8_isStand ∈ tblG ∧ Jvm.Cond.selects y_X8_isStand.cls y_X8_isStand y_X8_isStand ∈ tblG ∧ pl3 y_X8_isStand 1 := ⟨tblG_of (i := 965) rfl rfl, tblG_of (i := 9) rfl rfl, tblG_of (i := 964) rfl rfl, tblG_sel (q := (y_X8_isStand, 37)) (List.mem_of_getElem? (i := 70) rfl), ⟨by decide +kernel, by decide +kernel, by decide +kernel⟩⟩
def y_X8_easeAt : MethodName := ⟨"BrookStonesModel", "easeAt", "(I)I"⟩
set_option maxRecDepth 100000 in
theorem mi_X8_easeAt : Jvm.Cond.code y_X8_easeAt prog_10_method_32_code 2 (some .int) ∈ tblG ∧ Jvm.Cond.initialized y_X8_easeAt.cls ∈ tblG ∧ Jvm.Cond.instanceMethod y_X8_easeAt ∈ tblG ∧ Jvm.Cond.selects y_X8_easeAt.cls y_X8_easeAt y_X8_easeAt ∈ tblG ∧ pl3 y_X8_easeAt 1 := ⟨tblG_of (i := 977) rfl rfl, tblG_of (i := 9) rfl rfl, tblG_of (i := 976) rfl rfl, tblG_sel (q := (y_X8_easeAt, 37)) (List.mem_of_getElem? (i := 73) rfl), ⟨by decide +kernel, by decide +kernel, by decide +kernel⟩⟩
def y_X8_isStride : MethodName := ⟨"BrookStonesModel", "isStride", "(III)Z"⟩
set_option maxRecDepth 100000 in
theorem mi_X8_isStride : Jvm.Cond.code y_X8_isStride prog_10_method_33_code 5 (some .boolean) ∈ tblG ∧ Jvm.Cond.initialized y_X8_isStride.cls ∈ tblG ∧ Jvm.Cond.instanceMethod y_X8_isStride ∈ tblG ∧ Jvm.Cond.selects y_X8_isStride.cls y_X8_isStride y_X8_isStride ∈ tblG ∧ pl3 y_X8_isStride 3 := ⟨tblG_of (i := 973) rfl rfl, tblG_of (i := 9) rfl rfl, tblG_of (i := 972) rfl rfl, tblG_sel (q := (y_X8_isStride, 37)) (List.mem_of_getElem? (i := 72) rfl), ⟨by decide +kernel, by decide +kernel, by decide +kernel⟩⟩
def y_X8_layFar : MethodName := ⟨"BrookStonesModel", "layFar", "(II)V"⟩
set_option maxRecDepth 100000 in
theorem mi_X8_layFar : Jvm.Cond.code y_X8_layFar prog_10_method_34_code 6 (none) ∈ tblG ∧ Jvm.Cond.initialized y_X8_layFar.cls ∈ tblG ∧ Jvm.Cond.instanceMethod y_X8_layFar ∈ tblG ∧ Jvm.Cond.selects y_X8_layFar.cls y_X8_layFar y_X8_layFar ∈ tblG ∧ pl3 y_X8_layFar 2 := ⟨tblG_of (i := 960) rfl rfl, tblG_of (i := 9) rfl rfl, tblG_of (i := 959) rfl rfl, tblG_sel (q := (y_X8_layFar, 37)) (List.mem_of_getElem? (i := 69) rfl), ⟨by decide +kernel, by decide +kernel, by decide +kernel⟩⟩
def y_X8_comes : MethodName := ⟨"BrookStonesModel", "comes", "(I)Z"⟩
set_option maxRecDepth 100000 in
theorem mi_X8_comes : Jvm.Cond.code y_X8_comes prog_10_method_35_code 2 (some .boolean) ∈ tblG ∧ Jvm.Cond.initialized y_X8_comes.cls ∈ tblG ∧ Jvm.Cond.instanceMethod y_X8_comes ∈ tblG ∧ Jvm.Cond.selects y_X8_comes.cls y_X8_comes y_X8_comes ∈ tblG ∧ pl3 y_X8_comes 1 := ⟨tblG_of (i := 956) rfl rfl, tblG_of (i := 9) rfl rfl, tblG_of (i := 955) rfl rfl, tblG_sel (q := (y_X8_comes, 37)) (List.mem_of_getElem? (i := 68) rfl), ⟨by decide +kernel, by decide +kernel, by decide +kernel⟩⟩
def y_X8_strideOf : MethodName := ⟨"BrookStonesModel", "strideOf", "(IZ)I"⟩
set_option maxRecDepth 100000 in
theorem mi_X8_strideOf : Jvm.Cond.code y_X8_strideOf prog_10_method_36_code 3 (some .int) ∈ tblG ∧ Jvm.Cond.initialized y_X8_strideOf.cls ∈ tblG ∧ Jvm.Cond.instanceMethod y_X8_strideOf ∈ tblG ∧ Jvm.Cond.selects y_X8_strideOf.cls y_X8_strideOf y_X8_strideOf ∈ tblG ∧ pl3 y_X8_strideOf 2 := ⟨tblG_of (i := 952) rfl rfl, tblG_of (i := 9) rfl rfl, tblG_of (i := 951) rfl rfl, tblG_sel (q := (y_X8_strideOf, 37)) (List.mem_of_getElem? (i := 67) rfl), ⟨by decide +kernel, by decide +kernel, by decide +kernel⟩⟩
def y_X8_can : MethodName := ⟨"BrookStonesModel", "can", "(IZ)I"⟩
set_option maxRecDepth 100000 in
theorem mi_X8_can : Jvm.Cond.code y_X8_can prog_10_method_37_code 3 (some .int) ∈ tblG ∧ Jvm.Cond.initialized y_X8_can.cls ∈ tblG ∧ Jvm.Cond.instanceMethod y_X8_can ∈ tblG ∧ Jvm.Cond.selects y_X8_can.cls y_X8_can y_X8_can ∈ tblG ∧ pl3 y_X8_can 2 := ⟨tblG_of (i := 944) rfl rfl, tblG_of (i := 9) rfl rfl, tblG_of (i := 942) rfl rfl, tblG_of (i := 943) rfl rfl, ⟨by decide +kernel, by decide +kernel, by decide +kernel⟩⟩
def y_X8_way : MethodName := ⟨"BrookStonesModel", "way", "(II)I"⟩
set_option maxRecDepth 100000 in
theorem mi_X8_way : Jvm.Cond.code y_X8_way prog_10_method_38_code 7 (some .int) ∈ tblG ∧ Jvm.Cond.initialized y_X8_way.cls ∈ tblG ∧ Jvm.Cond.instanceMethod y_X8_way ∈ tblG ∧ Jvm.Cond.selects y_X8_way.cls y_X8_way y_X8_way ∈ tblG ∧ pl3 y_X8_way 2 := ⟨tblG_of (i := 981) rfl rfl, tblG_of (i := 9) rfl rfl, tblG_of (i := 979) rfl rfl, tblG_of (i := 980) rfl rfl, ⟨by decide +kernel, by decide +kernel, by decide +kernel⟩⟩
def y_X8_highest : MethodName := ⟨"BrookStonesModel", "highest", "(IZ)I"⟩
set_option maxRecDepth 100000 in
theorem mi_X8_highest : Jvm.Cond.code y_X8_highest prog_10_method_39_code 5 (some .int) ∈ tblG ∧ Jvm.Cond.initialized y_X8_highest.cls ∈ tblG ∧ Jvm.Cond.instanceMethod y_X8_highest ∈ tblG ∧ Jvm.Cond.selects y_X8_highest.cls y_X8_highest y_X8_highest ∈ tblG ∧ pl3 y_X8_highest 2 := ⟨tblG_of (i := 985) rfl rfl, tblG_of (i := 9) rfl rfl, tblG_of (i := 983) rfl rfl, tblG_of (i := 984) rfl rfl, ⟨by decide +kernel, by decide +kernel, by decide +kernel⟩⟩
def y_X8_fromBoth : MethodName := ⟨"BrookStonesModel", "fromBoth", "(I)I"⟩
set_option maxRecDepth 100000 in
theorem mi_X8_fromBoth : Jvm.Cond.code y_X8_fromBoth prog_10_method_40_code 5 (some .int) ∈ tblG ∧ Jvm.Cond.initialized y_X8_fromBoth.cls ∈ tblG ∧ Jvm.Cond.instanceMethod y_X8_fromBoth ∈ tblG ∧ Jvm.Cond.selects y_X8_fromBoth.cls y_X8_fromBoth y_X8_fromBoth ∈ tblG ∧ pl3 y_X8_fromBoth 1 := ⟨tblG_of (i := 993) rfl rfl, tblG_of (i := 9) rfl rfl, tblG_of (i := 992) rfl rfl, tblG_sel (q := (y_X8_fromBoth, 37)) (List.mem_of_getElem? (i := 74) rfl), ⟨by decide +kernel, by decide +kernel, by decide +kernel⟩⟩
def y_X8_pass : MethodName := ⟨"BrookStonesModel", "pass", "(II)I"⟩
set_option maxRecDepth 100000 in
theorem mi_X8_pass : Jvm.Cond.code y_X8_pass prog_10_method_41_code 6 (some .int) ∈ tblG ∧ Jvm.Cond.initialized y_X8_pass.cls ∈ tblG ∧ Jvm.Cond.instanceMethod y_X8_pass ∈ tblG ∧ Jvm.Cond.selects y_X8_pass.cls y_X8_pass y_X8_pass ∈ tblG ∧ pl3 y_X8_pass 2 := ⟨tblG_of (i := 989) rfl rfl, tblG_of (i := 9) rfl rfl, tblG_of (i := 987) rfl rfl, tblG_of (i := 988) rfl rfl, ⟨by decide +kernel, by decide +kernel, by decide +kernel⟩⟩
def y_X8_days : MethodName := ⟨"BrookStonesModel", "days", "(IIIII)I"⟩
set_option maxRecDepth 100000 in
theorem mi_X8_days : Jvm.Cond.code y_X8_days prog_10_method_42_code 10 (some .int) ∈ tblG ∧ Jvm.Cond.initialized y_X8_days.cls ∈ tblG ∧ Jvm.Cond.instanceMethod y_X8_days ∈ tblG ∧ Jvm.Cond.selects y_X8_days.cls y_X8_days y_X8_days ∈ tblG ∧ pl3 y_X8_days 5 := ⟨tblG_of (i := 1000) rfl rfl, tblG_of (i := 9) rfl rfl, tblG_of (i := 998) rfl rfl, tblG_of (i := 999) rfl rfl, ⟨by decide +kernel, by decide +kernel, by decide +kernel⟩⟩
def y_X8_isFlood : MethodName := ⟨"BrookStonesModel", "isFlood", "(II)Z"⟩
set_option maxRecDepth 100000 in
theorem mi_X8_isFlood : Jvm.Cond.code y_X8_isFlood prog_10_method_43_code 2 (some .boolean) ∈ tblG ∧ Jvm.Cond.initialized y_X8_isFlood.cls ∈ tblG ∧ Jvm.Cond.static y_X8_isFlood ∈ tblG ∧ pl3 y_X8_isFlood 2 := ⟨tblG_of (i := 1007) rfl rfl, tblG_of (i := 9) rfl rfl, tblG_of (i := 1006) rfl rfl, ⟨by decide +kernel, by decide +kernel, by decide +kernel⟩⟩
def y_X8_powerAt : MethodName := ⟨"BrookStonesModel", "powerAt", "(II)I"⟩
set_option maxRecDepth 100000 in
theorem mi_X8_powerAt : Jvm.Cond.code y_X8_powerAt prog_10_method_44_code 4 (some .int) ∈ tblG ∧ Jvm.Cond.initialized y_X8_powerAt.cls ∈ tblG ∧ Jvm.Cond.instanceMethod y_X8_powerAt ∈ tblG ∧ Jvm.Cond.selects y_X8_powerAt.cls y_X8_powerAt y_X8_powerAt ∈ tblG ∧ pl3 y_X8_powerAt 2 := ⟨tblG_of (i := 1015) rfl rfl, tblG_of (i := 9) rfl rfl, tblG_of (i := 1014) rfl rfl, tblG_sel (q := (y_X8_powerAt, 37)) (List.mem_of_getElem? (i := 76) rfl), ⟨by decide +kernel, by decide +kernel, by decide +kernel⟩⟩
def y_X8_goFlood : MethodName := ⟨"BrookStonesModel", "goFlood", "(II)V"⟩
set_option maxRecDepth 100000 in
theorem mi_X8_goFlood : Jvm.Cond.code y_X8_goFlood prog_10_method_45_code 6 (none) ∈ tblG ∧ Jvm.Cond.initialized y_X8_goFlood.cls ∈ tblG ∧ Jvm.Cond.instanceMethod y_X8_goFlood ∈ tblG ∧ Jvm.Cond.selects y_X8_goFlood.cls y_X8_goFlood y_X8_goFlood ∈ tblG ∧ pl3 y_X8_goFlood 2 := ⟨tblG_of (i := 1011) rfl rfl, tblG_of (i := 9) rfl rfl, tblG_of (i := 1010) rfl rfl, tblG_sel (q := (y_X8_goFlood, 37)) (List.mem_of_getElem? (i := 75) rfl), ⟨by decide +kernel, by decide +kernel, by decide +kernel⟩⟩
def y_X8_standing : MethodName := ⟨"BrookStonesModel", "standing", "()I"⟩
set_option maxRecDepth 100000 in
theorem mi_X8_standing : Jvm.Cond.code y_X8_standing prog_10_method_46_code 3 (some .int) ∈ tblG ∧ Jvm.Cond.initialized y_X8_standing.cls ∈ tblG ∧ Jvm.Cond.instanceMethod y_X8_standing ∈ tblG ∧ Jvm.Cond.selects y_X8_standing.cls y_X8_standing y_X8_standing ∈ tblG ∧ pl3 y_X8_standing 0 := ⟨tblG_of (i := 1019) rfl rfl, tblG_of (i := 9) rfl rfl, tblG_of (i := 1018) rfl rfl, tblG_sel (q := (y_X8_standing, 37)) (List.mem_of_getElem? (i := 77) rfl), ⟨by decide +kernel, by decide +kernel, by decide +kernel⟩⟩
def y_X8_bitsOf : MethodName := ⟨"BrookStonesModel", "bitsOf", "(I)I"⟩
set_option maxRecDepth 100000 in
theorem mi_X8_bitsOf : Jvm.Cond.code y_X8_bitsOf prog_10_method_47_code 3 (some .int) ∈ tblG ∧ Jvm.Cond.initialized y_X8_bitsOf.cls ∈ tblG ∧ Jvm.Cond.static y_X8_bitsOf ∈ tblG ∧ pl3 y_X8_bitsOf 1 := ⟨tblG_of (i := 1038) rfl rfl, tblG_of (i := 9) rfl rfl, tblG_of (i := 1037) rfl rfl, ⟨by decide +kernel, by decide +kernel, by decide +kernel⟩⟩
def y_X8_stands : MethodName := ⟨"BrookStonesModel", "stands", "(II)I"⟩
set_option maxRecDepth 100000 in
theorem mi_X8_stands : Jvm.Cond.code y_X8_stands prog_10_method_48_code 3 (some .int) ∈ tblG ∧ Jvm.Cond.initialized y_X8_stands.cls ∈ tblG ∧ Jvm.Cond.instanceMethod y_X8_stands ∈ tblG ∧ Jvm.Cond.selects y_X8_stands.cls y_X8_stands y_X8_stands ∈ tblG ∧ pl3 y_X8_stands 2 := ⟨tblG_of (i := 1004) rfl rfl, tblG_of (i := 9) rfl rfl, tblG_of (i := 1002) rfl rfl, tblG_of (i := 1003) rfl rfl, ⟨by decide +kernel, by decide +kernel, by decide +kernel⟩⟩
def y_X8_goes : MethodName := ⟨"BrookStonesModel", "goes", "(II)I"⟩
set_option maxRecDepth 100000 in
theorem mi_X8_goes : Jvm.Cond.code y_X8_goes prog_10_method_49_code 3 (some .int) ∈ tblG ∧ Jvm.Cond.initialized y_X8_goes.cls ∈ tblG ∧ Jvm.Cond.instanceMethod y_X8_goes ∈ tblG ∧ Jvm.Cond.selects y_X8_goes.cls y_X8_goes y_X8_goes ∈ tblG ∧ pl3 y_X8_goes 2 := ⟨tblG_of (i := 1023) rfl rfl, tblG_of (i := 9) rfl rfl, tblG_of (i := 1021) rfl rfl, tblG_of (i := 1022) rfl rfl, ⟨by decide +kernel, by decide +kernel, by decide +kernel⟩⟩
def y_X8_dug : MethodName := ⟨"BrookStonesModel", "dug", "(III)I"⟩
set_option maxRecDepth 100000 in
theorem mi_X8_dug : Jvm.Cond.code y_X8_dug prog_10_method_50_code 4 (some .int) ∈ tblG ∧ Jvm.Cond.initialized y_X8_dug.cls ∈ tblG ∧ Jvm.Cond.instanceMethod y_X8_dug ∈ tblG ∧ Jvm.Cond.selects y_X8_dug.cls y_X8_dug y_X8_dug ∈ tblG ∧ pl3 y_X8_dug 3 := ⟨tblG_of (i := 1027) rfl rfl, tblG_of (i := 9) rfl rfl, tblG_of (i := 1025) rfl rfl, tblG_of (i := 1026) rfl rfl, ⟨by decide +kernel, by decide +kernel, by decide +kernel⟩⟩
def y_X8_flood : MethodName := ⟨"BrookStonesModel", "flood", "(II)I"⟩
set_option maxRecDepth 100000 in
theorem mi_X8_flood : Jvm.Cond.code y_X8_flood prog_10_method_51_code 5 (some .int) ∈ tblG ∧ Jvm.Cond.initialized y_X8_flood.cls ∈ tblG ∧ Jvm.Cond.instanceMethod y_X8_flood ∈ tblG ∧ Jvm.Cond.selects y_X8_flood.cls y_X8_flood y_X8_flood ∈ tblG ∧ pl3 y_X8_flood 2 := ⟨tblG_of (i := 1031) rfl rfl, tblG_of (i := 9) rfl rfl, tblG_of (i := 1029) rfl rfl, tblG_of (i := 1030) rfl rfl, ⟨by decide +kernel, by decide +kernel, by decide +kernel⟩⟩
def y_X8_save : MethodName := ⟨"BrookStonesModel", "save", "(III)I"⟩
set_option maxRecDepth 100000 in
theorem mi_X8_save : Jvm.Cond.code y_X8_save prog_10_method_52_code 8 (some .int) ∈ tblG ∧ Jvm.Cond.initialized y_X8_save.cls ∈ tblG ∧ Jvm.Cond.instanceMethod y_X8_save ∈ tblG ∧ Jvm.Cond.selects y_X8_save.cls y_X8_save y_X8_save ∈ tblG ∧ pl3 y_X8_save 3 := ⟨tblG_of (i := 1035) rfl rfl, tblG_of (i := 9) rfl rfl, tblG_of (i := 1033) rfl rfl, tblG_of (i := 1034) rfl rfl, ⟨by decide +kernel, by decide +kernel, by decide +kernel⟩⟩
def y_X8_isFree : MethodName := ⟨"BrookStonesModel", "isFree", "(II)Z"⟩
set_option maxRecDepth 100000 in
theorem mi_X8_isFree : Jvm.Cond.code y_X8_isFree prog_10_method_53_code 4 (some .boolean) ∈ tblG ∧ Jvm.Cond.initialized y_X8_isFree.cls ∈ tblG ∧ Jvm.Cond.instanceMethod y_X8_isFree ∈ tblG ∧ Jvm.Cond.selects y_X8_isFree.cls y_X8_isFree y_X8_isFree ∈ tblG ∧ pl3 y_X8_isFree 2 := ⟨tblG_of (i := 1050) rfl rfl, tblG_of (i := 9) rfl rfl, tblG_of (i := 1049) rfl rfl, tblG_sel (q := (y_X8_isFree, 37)) (List.mem_of_getElem? (i := 79) rfl), ⟨by decide +kernel, by decide +kernel, by decide +kernel⟩⟩
def y_X8_isPlan : MethodName := ⟨"BrookStonesModel", "isPlan", "(III)Z"⟩
set_option maxRecDepth 100000 in
theorem mi_X8_isPlan : Jvm.Cond.code y_X8_isPlan prog_10_method_54_code 5 (some .boolean) ∈ tblG ∧ Jvm.Cond.initialized y_X8_isPlan.cls ∈ tblG ∧ Jvm.Cond.instanceMethod y_X8_isPlan ∈ tblG ∧ Jvm.Cond.selects y_X8_isPlan.cls y_X8_isPlan y_X8_isPlan ∈ tblG ∧ pl3 y_X8_isPlan 3 := ⟨tblG_of (i := 1062) rfl rfl, tblG_of (i := 9) rfl rfl, tblG_of (i := 1061) rfl rfl, tblG_sel (q := (y_X8_isPlan, 37)) (List.mem_of_getElem? (i := 82) rfl), ⟨by decide +kernel, by decide +kernel, by decide +kernel⟩⟩
def y_X8_offer : MethodName := ⟨"BrookStonesModel", "offer", "(III)V"⟩
set_option maxRecDepth 100000 in
theorem mi_X8_offer : Jvm.Cond.code y_X8_offer prog_10_method_55_code 8 (none) ∈ tblG ∧ Jvm.Cond.initialized y_X8_offer.cls ∈ tblG ∧ Jvm.Cond.instanceMethod y_X8_offer ∈ tblG ∧ Jvm.Cond.selects y_X8_offer.cls y_X8_offer y_X8_offer ∈ tblG ∧ pl3 y_X8_offer 3 := ⟨tblG_of (i := 1058) rfl rfl, tblG_of (i := 9) rfl rfl, tblG_of (i := 1057) rfl rfl, tblG_sel (q := (y_X8_offer, 37)) (List.mem_of_getElem? (i := 81) rfl), ⟨by decide +kernel, by decide +kernel, by decide +kernel⟩⟩
def y_X8_workAhead : MethodName := ⟨"BrookStonesModel", "workAhead", "(I)I"⟩
set_option maxRecDepth 100000 in
theorem mi_X8_workAhead : Jvm.Cond.code y_X8_workAhead prog_10_method_56_code 4 (some .int) ∈ tblG ∧ Jvm.Cond.initialized y_X8_workAhead.cls ∈ tblG ∧ Jvm.Cond.instanceMethod y_X8_workAhead ∈ tblG ∧ Jvm.Cond.selects y_X8_workAhead.cls y_X8_workAhead y_X8_workAhead ∈ tblG ∧ pl3 y_X8_workAhead 1 := ⟨tblG_of (i := 1054) rfl rfl, tblG_of (i := 9) rfl rfl, tblG_of (i := 1053) rfl rfl, tblG_sel (q := (y_X8_workAhead, 37)) (List.mem_of_getElem? (i := 80) rfl), ⟨by decide +kernel, by decide +kernel, by decide +kernel⟩⟩
def y_X8_findPlan : MethodName := ⟨"BrookStonesModel", "findPlan", "(III)V"⟩
set_option maxRecDepth 100000 in
theorem mi_X8_findPlan : Jvm.Cond.code y_X8_findPlan prog_10_method_57_code 5 (none) ∈ tblG ∧ Jvm.Cond.initialized y_X8_findPlan.cls ∈ tblG ∧ Jvm.Cond.instanceMethod y_X8_findPlan ∈ tblG ∧ Jvm.Cond.selects y_X8_findPlan.cls y_X8_findPlan y_X8_findPlan ∈ tblG ∧ pl3 y_X8_findPlan 3 := ⟨tblG_of (i := 1046) rfl rfl, tblG_of (i := 9) rfl rfl, tblG_of (i := 1045) rfl rfl, tblG_sel (q := (y_X8_findPlan, 37)) (List.mem_of_getElem? (i := 78) rfl), ⟨by decide +kernel, by decide +kernel, by decide +kernel⟩⟩
def y_X8_plan : MethodName := ⟨"BrookStonesModel", "plan", "(IIII)I"⟩
set_option maxRecDepth 100000 in
theorem mi_X8_plan : Jvm.Cond.code y_X8_plan prog_10_method_58_code 5 (some .int) ∈ tblG ∧ Jvm.Cond.initialized y_X8_plan.cls ∈ tblG ∧ Jvm.Cond.instanceMethod y_X8_plan ∈ tblG ∧ Jvm.Cond.selects y_X8_plan.cls y_X8_plan y_X8_plan ∈ tblG ∧ pl3 y_X8_plan 4 := ⟨tblG_of (i := 1042) rfl rfl, tblG_of (i := 9) rfl rfl, tblG_of (i := 1040) rfl rfl, tblG_of (i := 1041) rfl rfl, ⟨by decide +kernel, by decide +kernel, by decide +kernel⟩⟩
def y_X8_isLaid : MethodName := ⟨"BrookStonesModel", "isLaid", "(III)Z"⟩
set_option maxRecDepth 100000 in
theorem mi_X8_isLaid : Jvm.Cond.code y_X8_isLaid prog_10_method_59_code 5 (some .boolean) ∈ tblG ∧ Jvm.Cond.initialized y_X8_isLaid.cls ∈ tblG ∧ Jvm.Cond.instanceMethod y_X8_isLaid ∈ tblG ∧ Jvm.Cond.selects y_X8_isLaid.cls y_X8_isLaid y_X8_isLaid ∈ tblG ∧ pl3 y_X8_isLaid 3 := ⟨tblG_of (i := 1074) rfl rfl, tblG_of (i := 9) rfl rfl, tblG_of (i := 1073) rfl rfl, tblG_sel (q := (y_X8_isLaid, 37)) (List.mem_of_getElem? (i := 84) rfl), ⟨by decide +kernel, by decide +kernel, by decide +kernel⟩⟩
def y_X8_layWays : MethodName := ⟨"BrookStonesModel", "layWays", "(I)V"⟩
set_option maxRecDepth 100000 in
theorem mi_X8_layWays : Jvm.Cond.code y_X8_layWays prog_10_method_60_code 5 (none) ∈ tblG ∧ Jvm.Cond.initialized y_X8_layWays.cls ∈ tblG ∧ Jvm.Cond.instanceMethod y_X8_layWays ∈ tblG ∧ Jvm.Cond.selects y_X8_layWays.cls y_X8_layWays y_X8_layWays ∈ tblG ∧ pl3 y_X8_layWays 1 := ⟨tblG_of (i := 1070) rfl rfl, tblG_of (i := 9) rfl rfl, tblG_of (i := 1069) rfl rfl, tblG_sel (q := (y_X8_layWays, 37)) (List.mem_of_getElem? (i := 83) rfl), ⟨by decide +kernel, by decide +kernel, by decide +kernel⟩⟩
def y_X8_orders : MethodName := ⟨"BrookStonesModel", "orders", "(I)I"⟩
set_option maxRecDepth 100000 in
theorem mi_X8_orders : Jvm.Cond.code y_X8_orders prog_10_method_61_code 2 (some .int) ∈ tblG ∧ Jvm.Cond.initialized y_X8_orders.cls ∈ tblG ∧ Jvm.Cond.instanceMethod y_X8_orders ∈ tblG ∧ Jvm.Cond.selects y_X8_orders.cls y_X8_orders y_X8_orders ∈ tblG ∧ pl3 y_X8_orders 1 := ⟨tblG_of (i := 1066) rfl rfl, tblG_of (i := 9) rfl rfl, tblG_of (i := 1064) rfl rfl, tblG_of (i := 1065) rfl rfl, ⟨by decide +kernel, by decide +kernel, by decide +kernel⟩⟩
def y_X8_order : MethodName := ⟨"BrookStonesModel", "order", "(II)I"⟩
set_option maxRecDepth 100000 in
theorem mi_X8_order : Jvm.Cond.code y_X8_order prog_10_method_62_code 6 (some .int) ∈ tblG ∧ Jvm.Cond.initialized y_X8_order.cls ∈ tblG ∧ Jvm.Cond.instanceMethod y_X8_order ∈ tblG ∧ Jvm.Cond.selects y_X8_order.cls y_X8_order y_X8_order ∈ tblG ∧ pl3 y_X8_order 2 := ⟨tblG_of (i := 1078) rfl rfl, tblG_of (i := 9) rfl rfl, tblG_of (i := 1076) rfl rfl, tblG_of (i := 1077) rfl rfl, ⟨by decide +kernel, by decide +kernel, by decide +kernel⟩⟩
def y_X8_fits : MethodName := ⟨"BrookStonesModel", "fits", "(II)I"⟩
set_option maxRecDepth 100000 in
theorem mi_X8_fits : Jvm.Cond.code y_X8_fits prog_10_method_63_code 5 (some .int) ∈ tblG ∧ Jvm.Cond.initialized y_X8_fits.cls ∈ tblG ∧ Jvm.Cond.instanceMethod y_X8_fits ∈ tblG ∧ Jvm.Cond.selects y_X8_fits.cls y_X8_fits y_X8_fits ∈ tblG ∧ pl3 y_X8_fits 2 := ⟨tblG_of (i := 1082) rfl rfl, tblG_of (i := 9) rfl rfl, tblG_of (i := 1080) rfl rfl, tblG_of (i := 1081) rfl rfl, ⟨by decide +kernel, by decide +kernel, by decide +kernel⟩⟩
def y_X8_common : MethodName := ⟨"BrookStonesModel", "common", "(JJ)J"⟩
set_option maxRecDepth 100000 in
theorem mi_X8_common : Jvm.Cond.code y_X8_common prog_10_method_64_code 10 (some .long) ∈ tblG ∧ Jvm.Cond.initialized y_X8_common.cls ∈ tblG ∧ Jvm.Cond.static y_X8_common ∈ tblG ∧ pl3 y_X8_common 2 := ⟨tblG_of (i := 1094) rfl rfl, tblG_of (i := 9) rfl rfl, tblG_of (i := 1093) rfl rfl, ⟨by decide +kernel, by decide +kernel, by decide +kernel⟩⟩
def y_X8_odds : MethodName := ⟨"BrookStonesModel", "odds", "(IIIIII)J"⟩
set_option maxRecDepth 100000 in
theorem mi_X8_odds : Jvm.Cond.code y_X8_odds prog_10_method_65_code 13 (some .long) ∈ tblG ∧ Jvm.Cond.initialized y_X8_odds.cls ∈ tblG ∧ Jvm.Cond.instanceMethod y_X8_odds ∈ tblG ∧ Jvm.Cond.selects y_X8_odds.cls y_X8_odds y_X8_odds ∈ tblG ∧ pl3 y_X8_odds 6 := ⟨tblG_of (i := 1086) rfl rfl, tblG_of (i := 9) rfl rfl, tblG_of (i := 1084) rfl rfl, tblG_of (i := 1085) rfl rfl, ⟨by decide +kernel, by decide +kernel, by decide +kernel⟩⟩
def y_X8_sheet : MethodName := ⟨"BrookStonesModel", "sheet", "(III)I"⟩
set_option maxRecDepth 100000 in
theorem mi_X8_sheet : Jvm.Cond.code y_X8_sheet prog_10_method_66_code 5 (some .int) ∈ tblG ∧ Jvm.Cond.initialized y_X8_sheet.cls ∈ tblG ∧ Jvm.Cond.instanceMethod y_X8_sheet ∈ tblG ∧ Jvm.Cond.selects y_X8_sheet.cls y_X8_sheet y_X8_sheet ∈ tblG ∧ pl3 y_X8_sheet 3 := ⟨tblG_of (i := 1098) rfl rfl, tblG_of (i := 9) rfl rfl, tblG_of (i := 1096) rfl rfl, tblG_of (i := 1097) rfl rfl, ⟨by decide +kernel, by decide +kernel, by decide +kernel⟩⟩
def y_X8_lose : MethodName := ⟨"BrookStonesModel", "lose", "(I)I"⟩
set_option maxRecDepth 100000 in
theorem mi_X8_lose : Jvm.Cond.code y_X8_lose prog_10_method_67_code 3 (some .int) ∈ tblG ∧ Jvm.Cond.initialized y_X8_lose.cls ∈ tblG ∧ Jvm.Cond.instanceMethod y_X8_lose ∈ tblG ∧ Jvm.Cond.selects y_X8_lose.cls y_X8_lose y_X8_lose ∈ tblG ∧ pl3 y_X8_lose 1 := ⟨tblG_of (i := 1102) rfl rfl, tblG_of (i := 9) rfl rfl, tblG_of (i := 1100) rfl rfl, tblG_of (i := 1101) rfl rfl, ⟨by decide +kernel, by decide +kernel, by decide +kernel⟩⟩
def y_X8_put : MethodName := ⟨"BrookStonesModel", "put", "(III)I"⟩
set_option maxRecDepth 100000 in
theorem mi_X8_put : Jvm.Cond.code y_X8_put prog_10_method_68_code 4 (some .int) ∈ tblG ∧ Jvm.Cond.initialized y_X8_put.cls ∈ tblG ∧ Jvm.Cond.instanceMethod y_X8_put ∈ tblG ∧ Jvm.Cond.selects y_X8_put.cls y_X8_put y_X8_put ∈ tblG ∧ pl3 y_X8_put 3 := ⟨tblG_of (i := 1106) rfl rfl, tblG_of (i := 9) rfl rfl, tblG_of (i := 1104) rfl rfl, tblG_of (i := 1105) rfl rfl, ⟨by decide +kernel, by decide +kernel, by decide +kernel⟩⟩
def y_X8_cell : MethodName := ⟨"BrookStonesModel", "cell", "(III)J"⟩
set_option maxRecDepth 100000 in
theorem mi_X8_cell : Jvm.Cond.code y_X8_cell prog_10_method_69_code 4 (some .long) ∈ tblG ∧ Jvm.Cond.initialized y_X8_cell.cls ∈ tblG ∧ Jvm.Cond.instanceMethod y_X8_cell ∈ tblG ∧ Jvm.Cond.selects y_X8_cell.cls y_X8_cell y_X8_cell ∈ tblG ∧ pl3 y_X8_cell 3 := ⟨tblG_of (i := 1110) rfl rfl, tblG_of (i := 9) rfl rfl, tblG_of (i := 1108) rfl rfl, tblG_of (i := 1109) rfl rfl, ⟨by decide +kernel, by decide +kernel, by decide +kernel⟩⟩
def y_X8_copy : MethodName := ⟨"BrookStonesModel", "copy", "(IIIII)I"⟩
set_option maxRecDepth 100000 in
theorem mi_X8_copy : Jvm.Cond.code y_X8_copy prog_10_method_70_code 10 (some .int) ∈ tblG ∧ Jvm.Cond.initialized y_X8_copy.cls ∈ tblG ∧ Jvm.Cond.instanceMethod y_X8_copy ∈ tblG ∧ Jvm.Cond.selects y_X8_copy.cls y_X8_copy y_X8_copy ∈ tblG ∧ pl3 y_X8_copy 5 := ⟨tblG_of (i := 1114) rfl rfl, tblG_of (i := 9) rfl rfl, tblG_of (i := 1112) rfl rfl, tblG_of (i := 1113) rfl rfl, ⟨by decide +kernel, by decide +kernel, by decide +kernel⟩⟩
def y_X8_begins : MethodName := ⟨"BrookStonesModel", "begins", "(I)V"⟩
set_option maxRecDepth 100000 in
theorem mi_X8_begins : Jvm.Cond.code y_X8_begins prog_10_method_71_code 2 (none) ∈ tblG ∧ Jvm.Cond.initialized y_X8_begins.cls ∈ tblG ∧ Jvm.Cond.instanceMethod y_X8_begins ∈ tblG ∧ Jvm.Cond.selects y_X8_begins.cls y_X8_begins y_X8_begins ∈ tblG ∧ pl3 y_X8_begins 1 := ⟨tblG_of (i := 1122) rfl rfl, tblG_of (i := 9) rfl rfl, tblG_of (i := 1121) rfl rfl, tblG_sel (q := (y_X8_begins, 37)) (List.mem_of_getElem? (i := 86) rfl), ⟨by decide +kernel, by decide +kernel, by decide +kernel⟩⟩
def y_X8_tell : MethodName := ⟨"BrookStonesModel", "tell", "(I)I"⟩
set_option maxRecDepth 100000 in
theorem mi_X8_tell : Jvm.Cond.code y_X8_tell prog_10_method_72_code 3 (some .int) ∈ tblG ∧ Jvm.Cond.initialized y_X8_tell.cls ∈ tblG ∧ Jvm.Cond.instanceMethod y_X8_tell ∈ tblG ∧ Jvm.Cond.selects y_X8_tell.cls y_X8_tell y_X8_tell ∈ tblG ∧ pl3 y_X8_tell 1 := ⟨tblG_of (i := 1118) rfl rfl, tblG_of (i := 9) rfl rfl, tblG_of (i := 1116) rfl rfl, tblG_of (i := 1117) rfl rfl, ⟨by decide +kernel, by decide +kernel, by decide +kernel⟩⟩
def y_X8_tread : MethodName := ⟨"BrookStonesModel", "tread", "(I)I"⟩
set_option maxRecDepth 100000 in
theorem mi_X8_tread : Jvm.Cond.code y_X8_tread prog_10_method_73_code 2 (some .int) ∈ tblG ∧ Jvm.Cond.initialized y_X8_tread.cls ∈ tblG ∧ Jvm.Cond.instanceMethod y_X8_tread ∈ tblG ∧ Jvm.Cond.selects y_X8_tread.cls y_X8_tread y_X8_tread ∈ tblG ∧ pl3 y_X8_tread 1 := ⟨tblG_of (i := 1126) rfl rfl, tblG_of (i := 9) rfl rfl, tblG_of (i := 1124) rfl rfl, tblG_of (i := 1125) rfl rfl, ⟨by decide +kernel, by decide +kernel, by decide +kernel⟩⟩
def y_X8_as : MethodName := ⟨"BrookStonesModel", "as", "(II)I"⟩
set_option maxRecDepth 100000 in
theorem mi_X8_as : Jvm.Cond.code y_X8_as prog_10_method_74_code 3 (some .int) ∈ tblG ∧ Jvm.Cond.initialized y_X8_as.cls ∈ tblG ∧ Jvm.Cond.instanceMethod y_X8_as ∈ tblG ∧ Jvm.Cond.selects y_X8_as.cls y_X8_as y_X8_as ∈ tblG ∧ pl3 y_X8_as 2 := ⟨tblG_of (i := 1130) rfl rfl, tblG_of (i := 9) rfl rfl, tblG_of (i := 1128) rfl rfl, tblG_of (i := 1129) rfl rfl, ⟨by decide +kernel, by decide +kernel, by decide +kernel⟩⟩
def y_X8_trace : MethodName := ⟨"BrookStonesModel", "trace", "()I"⟩
set_option maxRecDepth 100000 in
theorem mi_X8_trace : Jvm.Cond.code y_X8_trace prog_10_method_75_code 1 (some .int) ∈ tblG ∧ Jvm.Cond.initialized y_X8_trace.cls ∈ tblG ∧ Jvm.Cond.instanceMethod y_X8_trace ∈ tblG ∧ Jvm.Cond.selects y_X8_trace.cls y_X8_trace y_X8_trace ∈ tblG ∧ pl3 y_X8_trace 0 := ⟨tblG_of (i := 1134) rfl rfl, tblG_of (i := 9) rfl rfl, tblG_of (i := 1132) rfl rfl, tblG_of (i := 1133) rfl rfl, ⟨by decide +kernel, by decide +kernel, by decide +kernel⟩⟩
def y_X8_fault : MethodName := ⟨"BrookStonesModel", "fault", "()I"⟩
set_option maxRecDepth 100000 in
theorem mi_X8_fault : Jvm.Cond.code y_X8_fault prog_10_method_76_code 1 (some .int) ∈ tblG ∧ Jvm.Cond.initialized y_X8_fault.cls ∈ tblG ∧ Jvm.Cond.instanceMethod y_X8_fault ∈ tblG ∧ Jvm.Cond.selects y_X8_fault.cls y_X8_fault y_X8_fault ∈ tblG ∧ pl3 y_X8_fault 0 := ⟨tblG_of (i := 1138) rfl rfl, tblG_of (i := 9) rfl rfl, tblG_of (i := 1136) rfl rfl, tblG_of (i := 1137) rfl rfl, ⟨by decide +kernel, by decide +kernel, by decide +kernel⟩⟩
def y_X8_stonesIn : MethodName := ⟨"BrookStonesModel", "stonesIn", "(Z)I"⟩
set_option maxRecDepth 100000 in
theorem mi_X8_stonesIn : Jvm.Cond.code y_X8_stonesIn prog_10_method_77_code 4 (some .int) ∈ tblG ∧ Jvm.Cond.initialized y_X8_stonesIn.cls ∈ tblG ∧ Jvm.Cond.instanceMethod y_X8_stonesIn ∈ tblG ∧ Jvm.Cond.selects y_X8_stonesIn.cls y_X8_stonesIn y_X8_stonesIn ∈ tblG ∧ pl3 y_X8_stonesIn 1 := ⟨tblG_of (i := 1146) rfl rfl, tblG_of (i := 9) rfl rfl, tblG_of (i := 1145) rfl rfl, tblG_sel (q := (y_X8_stonesIn, 37)) (List.mem_of_getElem? (i := 87) rfl), ⟨by decide +kernel, by decide +kernel, by decide +kernel⟩⟩
def y_X8_guards : MethodName := ⟨"BrookStonesModel", "guards", "()I"⟩
set_option maxRecDepth 100000 in
theorem mi_X8_guards : Jvm.Cond.code y_X8_guards prog_10_method_78_code 3 (some .int) ∈ tblG ∧ Jvm.Cond.initialized y_X8_guards.cls ∈ tblG ∧ Jvm.Cond.instanceMethod y_X8_guards ∈ tblG ∧ Jvm.Cond.selects y_X8_guards.cls y_X8_guards y_X8_guards ∈ tblG ∧ pl3 y_X8_guards 0 := ⟨tblG_of (i := 1150) rfl rfl, tblG_of (i := 9) rfl rfl, tblG_of (i := 1149) rfl rfl, tblG_sel (q := (y_X8_guards, 37)) (List.mem_of_getElem? (i := 88) rfl), ⟨by decide +kernel, by decide +kernel, by decide +kernel⟩⟩
def y_X8_many : MethodName := ⟨"BrookStonesModel", "many", "(I)I"⟩
set_option maxRecDepth 100000 in
theorem mi_X8_many : Jvm.Cond.code y_X8_many prog_10_method_79_code 2 (some .int) ∈ tblG ∧ Jvm.Cond.initialized y_X8_many.cls ∈ tblG ∧ Jvm.Cond.instanceMethod y_X8_many ∈ tblG ∧ Jvm.Cond.selects y_X8_many.cls y_X8_many y_X8_many ∈ tblG ∧ pl3 y_X8_many 1 := ⟨tblG_of (i := 1142) rfl rfl, tblG_of (i := 9) rfl rfl, tblG_of (i := 1140) rfl rfl, tblG_of (i := 1141) rfl rfl, ⟨by decide +kernel, by decide +kernel, by decide +kernel⟩⟩
def y_J6_bitCount_0f7a4 : MethodName := ⟨"java/lang/Integer", "bitCount", "(I)I"⟩
set_option maxRecDepth 100000 in
theorem mi_J6_bitCount_0f7a4 : Jvm.Cond.code y_J6_bitCount_0f7a4 prog_11_method_49_code 1 (some .int) ∈ tblG ∧ Jvm.Cond.initialized y_J6_bitCount_0f7a4.cls ∈ tblG ∧ Jvm.Cond.static y_J6_bitCount_0f7a4 ∈ tblG ∧ pl3 y_J6_bitCount_0f7a4 1 := ⟨tblG_of (i := 518) rfl rfl, tblG_of (i := 12) rfl rfl, tblG_of (i := 517) rfl rfl, ⟨by decide +kernel, by decide +kernel, by decide +kernel⟩⟩
def y_J9_max_7cf53 : MethodName := ⟨"java/lang/Math", "max", "(II)I"⟩
set_option maxRecDepth 100000 in
theorem mi_J9_max_7cf53 : Jvm.Cond.code y_J9_max_7cf53 prog_12_method_65_code 2 (some .int) ∈ tblG ∧ Jvm.Cond.initialized y_J9_max_7cf53.cls ∈ tblG ∧ Jvm.Cond.static y_J9_max_7cf53 ∈ tblG ∧ pl3 y_J9_max_7cf53 2 := ⟨tblG_of (i := 304) rfl rfl, tblG_of (i := 11) rfl rfl, tblG_of (i := 303) rfl rfl, ⟨by decide +kernel, by decide +kernel, by decide +kernel⟩⟩
def y_J9_min_7cf53 : MethodName := ⟨"java/lang/Math", "min", "(II)I"⟩
set_option maxRecDepth 100000 in
theorem mi_J9_min_7cf53 : Jvm.Cond.code y_J9_min_7cf53 prog_12_method_69_code 2 (some .int) ∈ tblG ∧ Jvm.Cond.initialized y_J9_min_7cf53.cls ∈ tblG ∧ Jvm.Cond.static y_J9_min_7cf53 ∈ tblG ∧ pl3 y_J9_min_7cf53 2 := ⟨tblG_of (i := 313) rfl rfl, tblG_of (i := 11) rfl rfl, tblG_of (i := 312) rfl rfl, ⟨by decide +kernel, by decide +kernel, by decide +kernel⟩⟩
def y_J7_rangeCheck_23922 : MethodName := ⟨"java/util/Arrays", "rangeCheck", "(III)V"⟩
set_option maxRecDepth 100000 in
theorem mi_J7_rangeCheck_23922 : Jvm.Cond.code y_J7_rangeCheck_23922 prog_14_method_30_code 3 (none) ∈ tblG ∧ Jvm.Cond.initialized y_J7_rangeCheck_23922.cls ∈ tblG ∧ Jvm.Cond.static y_J7_rangeCheck_23922 ∈ tblG ∧ pl3 y_J7_rangeCheck_23922 3 := ⟨tblG_of (i := 654) rfl rfl, tblG_of (i := 3) rfl rfl, tblG_of (i := 653) rfl rfl, ⟨by decide +kernel, by decide +kernel, by decide +kernel⟩⟩
def y_J7_fill_53178 : MethodName := ⟨"java/util/Arrays", "fill", "([II)V"⟩
set_option maxRecDepth 100000 in
theorem mi_J7_fill_53178 : Jvm.Cond.code y_J7_fill_53178 prog_14_method_103_code 4 (none) ∈ tblG ∧ Jvm.Cond.initialized y_J7_fill_53178.cls ∈ tblG ∧ Jvm.Cond.static y_J7_fill_53178 ∈ tblG ∧ pl3 y_J7_fill_53178 2 := ⟨tblG_of (i := 30) rfl rfl, tblG_of (i := 3) rfl rfl, tblG_of (i := 29) rfl rfl, ⟨by decide +kernel, by decide +kernel, by decide +kernel⟩⟩
def y_J7_fill_fda19 : MethodName := ⟨"java/util/Arrays", "fill", "([IIII)V"⟩
set_option maxRecDepth 100000 in
theorem mi_J7_fill_fda19 : Jvm.Cond.code y_J7_fill_fda19 prog_14_method_104_code 5 (none) ∈ tblG ∧ Jvm.Cond.initialized y_J7_fill_fda19.cls ∈ tblG ∧ Jvm.Cond.static y_J7_fill_fda19 ∈ tblG ∧ pl3 y_J7_fill_fda19 4 := ⟨tblG_of (i := 651) rfl rfl, tblG_of (i := 3) rfl rfl, tblG_of (i := 650) rfl rfl, ⟨by decide +kernel, by decide +kernel, by decide +kernel⟩⟩
set_option maxRecDepth 100000 in
theorem fk_BrookStones_12 : fOK "BrookStones" false (12, 6, 0, 10) := ⟨RX7, TX7, 8, tyX7, "BrookStones", rfl, by decide, uw_X7, tyX7_ok, nmX7, rfl, Or.inl (tblG_of (i := 230) rfl rfl), fun h => absurd h (by decide), fun h => absurd h (by decide)⟩
set_option maxRecDepth 100000 in
theorem fk_BrookStones_21 : fOK "BrookStones" false (21, 6, 1, 10) := ⟨RX7, TX7, 8, tyX7, "BrookStones", rfl, by decide, uw_X7, tyX7_ok, nmX7, rfl, Or.inl (tblG_of (i := 231) rfl rfl), fun h => absurd h (by decide), fun h => absurd h (by decide)⟩
set_option maxRecDepth 100000 in
theorem fk_BrookStones_28 : fOK "BrookStones" false (28, 6, 2, 10) := ⟨RX7, TX7, 8, tyX7, "BrookStones", rfl, by decide, uw_X7, tyX7_ok, nmX7, rfl, Or.inl (tblG_of (i := 232) rfl rfl), fun h => absurd h (by decide), fun h => absurd h (by decide)⟩
set_option maxRecDepth 100000 in
theorem fk_BrookStones_35 : fOK "BrookStones" false (35, 6, 3, 10) := ⟨RX7, TX7, 8, tyX7, "BrookStones", rfl, by decide, uw_X7, tyX7_ok, nmX7, rfl, Or.inl (tblG_of (i := 233) rfl rfl), fun h => absurd h (by decide), fun h => absurd h (by decide)⟩
set_option maxRecDepth 100000 in
theorem fk_BrookStones_42 : fOK "BrookStones" false (42, 6, 4, 10) := ⟨RX7, TX7, 8, tyX7, "BrookStones", rfl, by decide, uw_X7, tyX7_ok, nmX7, rfl, Or.inl (tblG_of (i := 234) rfl rfl), fun h => absurd h (by decide), fun h => absurd h (by decide)⟩
set_option maxRecDepth 100000 in
theorem fk_BrookStones_49 : fOK "BrookStones" false (49, 6, 5, 10) := ⟨RX7, TX7, 8, tyX7, "BrookStones", rfl, by decide, uw_X7, tyX7_ok, nmX7, rfl, Or.inl (tblG_of (i := 235) rfl rfl), fun h => absurd h (by decide), fun h => absurd h (by decide)⟩
set_option maxRecDepth 100000 in
theorem fk_BrookStones_53 : fOK "BrookStones" false (53, 6, 7, 1) := ⟨RX7, TX7, 8, tyX7, "BrookStones", rfl, by decide, uw_X7, tyX7_ok, nmX7, rfl, Or.inl (tblG_of (i := 237) rfl rfl), fun _ => ⟨rfl, rfl⟩, fun h => absurd h (by decide)⟩
set_option maxRecDepth 100000 in
theorem fk_BrookStones_74 : fOK "BrookStones" false (74, 0, 8, 1) := ⟨RX0, TX0, 15, tyX0, "BrookStones", rfl, by decide, uw_X0, tyX0_ok, nmX0, rfl, Or.inr (tblN_of (i := 52) rfl rfl), fun _ => ⟨rfl, rfl⟩, fun h => absurd h (by decide)⟩
set_option maxRecDepth 100000 in
theorem fk_BrookStones_81 : fOK "BrookStones" false (81, 0, 2, 10) := ⟨RX0, TX0, 15, tyX0, "BrookStones", rfl, by decide, uw_X0, tyX0_ok, nmX0, rfl, Or.inr (tblN_of (i := 39) rfl rfl), fun h => absurd h (by decide), fun h => absurd h (by decide)⟩
set_option maxRecDepth 100000 in
theorem fk_BrookStones_85 : fOK "BrookStones" false (85, 0, 0, 10) := ⟨RX0, TX0, 15, tyX0, "BrookStones", rfl, by decide, uw_X0, tyX0_ok, nmX0, rfl, Or.inr (tblN_of (i := 33) rfl rfl), fun h => absurd h (by decide), fun h => absurd h (by decide)⟩
set_option maxRecDepth 100000 in
theorem fk_BrookStones_88 : fOK "BrookStones" false (88, 0, 1, 10) := ⟨RX0, TX0, 15, tyX0, "BrookStones", rfl, by decide, uw_X0, tyX0_ok, nmX0, rfl, Or.inr (tblN_of (i := 36) rfl rfl), fun h => absurd h (by decide), fun h => absurd h (by decide)⟩
set_option maxRecDepth 100000 in
theorem fk_BrookStones_91 : fOK "BrookStones" false (91, 0, 10, 1) := ⟨RX0, TX0, 15, tyX0, "BrookStones", rfl, by decide, uw_X0, tyX0_ok, nmX0, rfl, Or.inr (tblN_of (i := 60) rfl rfl), fun _ => ⟨rfl, rfl⟩, fun h => absurd h (by decide)⟩
set_option maxRecDepth 100000 in
theorem fk_BrookStones_98 : fOK "BrookStones" false (98, 0, 11, 1) := ⟨RX0, TX0, 15, tyX0, "BrookStones", rfl, by decide, uw_X0, tyX0_ok, nmX0, rfl, Or.inr (tblN_of (i := 64) rfl rfl), fun _ => ⟨rfl, rfl⟩, fun h => absurd h (by decide)⟩
set_option maxRecDepth 100000 in
theorem fk_BrookStones_113 : fOK "BrookStones" false (113, 0, 12, 1) := ⟨RX0, TX0, 15, tyX0, "BrookStones", rfl, by decide, uw_X0, tyX0_ok, nmX0, rfl, Or.inr (tblN_of (i := 69) rfl rfl), fun _ => ⟨rfl, rfl⟩, fun h => absurd h (by decide)⟩
set_option maxRecDepth 100000 in
theorem fk_BrookStones_122 : fOK "BrookStones" false (122, 0, 3, 10) := ⟨RX0, TX0, 15, tyX0, "BrookStones", rfl, by decide, uw_X0, tyX0_ok, nmX0, rfl, Or.inr (tblN_of (i := 41) rfl rfl), fun h => absurd h (by decide), fun h => absurd h (by decide)⟩
set_option maxRecDepth 100000 in
theorem fk_BrookStones_125 : fOK "BrookStones" false (125, 0, 4, 10) := ⟨RX0, TX0, 15, tyX0, "BrookStones", rfl, by decide, uw_X0, tyX0_ok, nmX0, rfl, Or.inr (tblN_of (i := 43) rfl rfl), fun h => absurd h (by decide), fun h => absurd h (by decide)⟩
set_option maxRecDepth 100000 in
theorem fk_BrookStones_128 : fOK "BrookStones" false (128, 0, 5, 10) := ⟨RX0, TX0, 15, tyX0, "BrookStones", rfl, by decide, uw_X0, tyX0_ok, nmX0, rfl, Or.inr (tblN_of (i := 45) rfl rfl), fun h => absurd h (by decide), fun h => absurd h (by decide)⟩
set_option maxRecDepth 100000 in
theorem fk_BrookStones_131 : fOK "BrookStones" false (131, 0, 6, 10) := ⟨RX0, TX0, 15, tyX0, "BrookStones", rfl, by decide, uw_X0, tyX0_ok, nmX0, rfl, Or.inr (tblN_of (i := 47) rfl rfl), fun h => absurd h (by decide), fun h => absurd h (by decide)⟩
set_option maxRecDepth 100000 in
theorem fk_BrookStones_138 : fOK "BrookStones" false (138, 0, 13, 1) := ⟨RX0, TX0, 15, tyX0, "BrookStones", rfl, by decide, uw_X0, tyX0_ok, nmX0, rfl, Or.inr (tblN_of (i := 72) rfl rfl), fun _ => ⟨rfl, rfl⟩, fun h => absurd h (by decide)⟩
set_option maxRecDepth 100000 in
theorem fk_BrookStones_152 : fOK "BrookStones" false (152, 0, 14, 1) := ⟨RX0, TX0, 15, tyX0, "BrookStones", rfl, by decide, uw_X0, tyX0_ok, nmX0, rfl, Or.inr (tblN_of (i := 74) rfl rfl), fun _ => ⟨rfl, rfl⟩, fun h => absurd h (by decide)⟩
set_option maxRecDepth 100000 in
theorem fk_BrookStones_161 : fOK "BrookStones" false (161, 0, 7, 10) := ⟨RX0, TX0, 15, tyX0, "BrookStones", rfl, by decide, uw_X0, tyX0_ok, nmX0, rfl, Or.inr (tblN_of (i := 49) rfl rfl), fun h => absurd h (by decide), fun h => absurd h (by decide)⟩
set_option maxRecDepth 100000 in
theorem fk_BrookStones_179 : fOK "BrookStones" false (179, 5, 0, 10) := ⟨RX6, TX6, 6, tyX6, "BrookStones", rfl, by decide, uw_X6, tyX6_ok, nmX6, rfl, Or.inr (tblN_of (i := 133) rfl rfl), fun h => absurd h (by decide), fun h => absurd h (by decide)⟩
set_option maxRecDepth 100000 in
theorem fk_BrookStones_207 : fOK "BrookStones" false (207, 1, 2, 1) := ⟨RX1, TX1, 3, tyX1, "BrookStones", rfl, by decide, uw_X1, tyX1_ok, nmX1, rfl, Or.inr (tblN_of (i := 164) rfl rfl), fun _ => ⟨rfl, rfl⟩, fun h => absurd h (by decide)⟩
set_option maxRecDepth 100000 in
theorem fk_BrookStones_210 : fOK "BrookStones" false (210, 1, 1, 10) := ⟨RX1, TX1, 3, tyX1, "BrookStones", rfl, by decide, uw_X1, tyX1_ok, nmX1, rfl, Or.inr (tblN_of (i := 161) rfl rfl), fun h => absurd h (by decide), fun h => absurd h (by decide)⟩
set_option maxRecDepth 100000 in
theorem fk_BrookStones_213 : fOK "BrookStones" false (213, 1, 0, 10) := ⟨RX1, TX1, 3, tyX1, "BrookStones", rfl, by decide, uw_X1, tyX1_ok, nmX1, rfl, Or.inr (tblN_of (i := 159) rfl rfl), fun h => absurd h (by decide), fun h => absurd h (by decide)⟩
set_option maxRecDepth 100000 in
theorem fk_BrookStones_230 : fOK "BrookStones" false (230, 3, 7, 1) := ⟨RX3, TX3, 11, tyX3, "BrookStones", rfl, by decide, uw_X3, tyX3_ok, nmX3, rfl, Or.inr (tblN_of (i := 190) rfl rfl), fun _ => ⟨rfl, rfl⟩, fun h => absurd h (by decide)⟩
set_option maxRecDepth 100000 in
theorem fk_BrookStones_233 : fOK "BrookStones" false (233, 3, 6, 1) := ⟨RX3, TX3, 11, tyX3, "BrookStones", rfl, by decide, uw_X3, tyX3_ok, nmX3, rfl, Or.inr (tblN_of (i := 188) rfl rfl), fun _ => ⟨rfl, rfl⟩, fun h => absurd h (by decide)⟩
set_option maxRecDepth 100000 in
theorem fk_BrookStones_236 : fOK "BrookStones" false (236, 3, 2, 10) := ⟨RX3, TX3, 11, tyX3, "BrookStones", rfl, by decide, uw_X3, tyX3_ok, nmX3, rfl, Or.inr (tblN_of (i := 183) rfl rfl), fun h => absurd h (by decide), fun h => absurd h (by decide)⟩
set_option maxRecDepth 100000 in
theorem fk_BrookStones_275 : fOK "BrookStones" false (275, 4, 1, 10) := ⟨RX4, TX4, 3, tyX4, "BrookStones", rfl, by decide, uw_X4, tyX4_ok, nmX4, rfl, Or.inr (tblN_of (i := 117) rfl rfl), fun h => absurd h (by decide), fun h => absurd h (by decide)⟩
set_option maxRecDepth 100000 in
theorem fk_BrookStones_281 : fOK "BrookStones" false (281, 4, 0, 10) := ⟨RX4, TX4, 3, tyX4, "BrookStones", rfl, by decide, uw_X4, tyX4_ok, nmX4, rfl, Or.inr (tblN_of (i := 115) rfl rfl), fun h => absurd h (by decide), fun h => absurd h (by decide)⟩
set_option maxRecDepth 100000 in
theorem fk_BrookStones_303 : fOK "BrookStones" false (303, 6, 6, 1) := ⟨RX7, TX7, 8, tyX7, "BrookStones", rfl, by decide, uw_X7, tyX7_ok, nmX7, rfl, Or.inl (tblG_of (i := 236) rfl rfl), fun _ => ⟨rfl, rfl⟩, fun h => absurd h (by decide)⟩
def fl_BrookStones : List (Nat × Nat × Nat × Nat) := [(12, 6, 0, 10), (21, 6, 1, 10), (28, 6, 2, 10), (35, 6, 3, 10), (42, 6, 4, 10), (49, 6, 5, 10), (53, 6, 7, 1), (74, 0, 8, 1), (81, 0, 2, 10), (85, 0, 0, 10), (88, 0, 1, 10), (91, 0, 10, 1), (98, 0, 11, 1), (113, 0, 12, 1), (122, 0, 3, 10), (125, 0, 4, 10), (128, 0, 5, 10), (131, 0, 6, 10), (138, 0, 13, 1), (152, 0, 14, 1), (161, 0, 7, 10), (179, 5, 0, 10), (207, 1, 2, 1), (210, 1, 1, 10), (213, 1, 0, 10), (230, 3, 7, 1), (233, 3, 6, 1), (236, 3, 2, 10), (275, 4, 1, 10), (281, 4, 0, 10), (303, 6, 6, 1)]
set_option maxRecDepth 100000 in
theorem fl_BrookStones_ok : ∀ q ∈ fl_BrookStones, fOK "BrookStones" false q := List.forall_mem_cons.mpr ⟨fk_BrookStones_12, List.forall_mem_cons.mpr ⟨fk_BrookStones_21, List.forall_mem_cons.mpr ⟨fk_BrookStones_28, List.forall_mem_cons.mpr ⟨fk_BrookStones_35, List.forall_mem_cons.mpr ⟨fk_BrookStones_42, List.forall_mem_cons.mpr ⟨fk_BrookStones_49, List.forall_mem_cons.mpr ⟨fk_BrookStones_53, List.forall_mem_cons.mpr ⟨fk_BrookStones_74, List.forall_mem_cons.mpr ⟨fk_BrookStones_81, List.forall_mem_cons.mpr ⟨fk_BrookStones_85, List.forall_mem_cons.mpr ⟨fk_BrookStones_88, List.forall_mem_cons.mpr ⟨fk_BrookStones_91, List.forall_mem_cons.mpr ⟨fk_BrookStones_98, List.forall_mem_cons.mpr ⟨fk_BrookStones_113, List.forall_mem_cons.mpr ⟨fk_BrookStones_122, List.forall_mem_cons.mpr ⟨fk_BrookStones_125, List.forall_mem_cons.mpr ⟨fk_BrookStones_128, List.forall_mem_cons.mpr ⟨fk_BrookStones_131, List.forall_mem_cons.mpr ⟨fk_BrookStones_138, List.forall_mem_cons.mpr ⟨fk_BrookStones_152, List.forall_mem_cons.mpr ⟨fk_BrookStones_161, List.forall_mem_cons.mpr ⟨fk_BrookStones_179, List.forall_mem_cons.mpr ⟨fk_BrookStones_207, List.forall_mem_cons.mpr ⟨fk_BrookStones_210, List.forall_mem_cons.mpr ⟨fk_BrookStones_213, List.forall_mem_cons.mpr ⟨fk_BrookStones_230, List.forall_mem_cons.mpr ⟨fk_BrookStones_233, List.forall_mem_cons.mpr ⟨fk_BrookStones_236, List.forall_mem_cons.mpr ⟨fk_BrookStones_275, List.forall_mem_cons.mpr ⟨fk_BrookStones_281, List.forall_mem_cons.mpr ⟨fk_BrookStones_303, fun _ h => absurd h List.not_mem_nil⟩⟩⟩⟩⟩⟩⟩⟩⟩⟩⟩⟩⟩⟩⟩⟩⟩⟩⟩⟩⟩⟩⟩⟩⟩⟩⟩⟩⟩⟩⟩
set_option maxRecDepth 100000 in
theorem fk_BrookStones_i_12 : fOK "BrookStones" true (12, 6, 0, 12) := ⟨RX7, TX7, 8, tyX7, "BrookStones", rfl, by decide, uw_X7, tyX7_ok, nmX7, rfl, Or.inl (tblG_of (i := 230) rfl rfl), fun h => absurd h (by decide), fun _ => ⟨rfl, rfl, rfl, Or.inl ⟨_, rfl⟩, tblG_of (i := 230) rfl rfl⟩⟩
set_option maxRecDepth 100000 in
theorem fk_BrookStones_i_21 : fOK "BrookStones" true (21, 6, 1, 12) := ⟨RX7, TX7, 8, tyX7, "BrookStones", rfl, by decide, uw_X7, tyX7_ok, nmX7, rfl, Or.inl (tblG_of (i := 231) rfl rfl), fun h => absurd h (by decide), fun _ => ⟨rfl, rfl, rfl, Or.inl ⟨_, rfl⟩, tblG_of (i := 231) rfl rfl⟩⟩
set_option maxRecDepth 100000 in
theorem fk_BrookStones_i_28 : fOK "BrookStones" true (28, 6, 2, 12) := ⟨RX7, TX7, 8, tyX7, "BrookStones", rfl, by decide, uw_X7, tyX7_ok, nmX7, rfl, Or.inl (tblG_of (i := 232) rfl rfl), fun h => absurd h (by decide), fun _ => ⟨rfl, rfl, rfl, Or.inl ⟨_, rfl⟩, tblG_of (i := 232) rfl rfl⟩⟩
set_option maxRecDepth 100000 in
theorem fk_BrookStones_i_35 : fOK "BrookStones" true (35, 6, 3, 12) := ⟨RX7, TX7, 8, tyX7, "BrookStones", rfl, by decide, uw_X7, tyX7_ok, nmX7, rfl, Or.inl (tblG_of (i := 233) rfl rfl), fun h => absurd h (by decide), fun _ => ⟨rfl, rfl, rfl, Or.inl ⟨_, rfl⟩, tblG_of (i := 233) rfl rfl⟩⟩
set_option maxRecDepth 100000 in
theorem fk_BrookStones_i_42 : fOK "BrookStones" true (42, 6, 4, 12) := ⟨RX7, TX7, 8, tyX7, "BrookStones", rfl, by decide, uw_X7, tyX7_ok, nmX7, rfl, Or.inl (tblG_of (i := 234) rfl rfl), fun h => absurd h (by decide), fun _ => ⟨rfl, rfl, rfl, Or.inl ⟨_, rfl⟩, tblG_of (i := 234) rfl rfl⟩⟩
set_option maxRecDepth 100000 in
theorem fk_BrookStones_i_49 : fOK "BrookStones" true (49, 6, 5, 12) := ⟨RX7, TX7, 8, tyX7, "BrookStones", rfl, by decide, uw_X7, tyX7_ok, nmX7, rfl, Or.inl (tblG_of (i := 235) rfl rfl), fun h => absurd h (by decide), fun _ => ⟨rfl, rfl, rfl, Or.inl ⟨_, rfl⟩, tblG_of (i := 235) rfl rfl⟩⟩
set_option maxRecDepth 100000 in
theorem fk_BrookStones_i_53 : fOK "BrookStones" true (53, 6, 7, 1) := ⟨RX7, TX7, 8, tyX7, "BrookStones", rfl, by decide, uw_X7, tyX7_ok, nmX7, rfl, Or.inl (tblG_of (i := 237) rfl rfl), fun _ => ⟨rfl, rfl⟩, fun h => absurd h (by decide)⟩
set_option maxRecDepth 100000 in
theorem fk_BrookStones_i_74 : fOK "BrookStones" true (74, 0, 8, 1) := ⟨RX0, TX0, 15, tyX0, "BrookStones", rfl, by decide, uw_X0, tyX0_ok, nmX0, rfl, Or.inr (tblN_of (i := 52) rfl rfl), fun _ => ⟨rfl, rfl⟩, fun h => absurd h (by decide)⟩
set_option maxRecDepth 100000 in
theorem fk_BrookStones_i_81 : fOK "BrookStones" true (81, 0, 2, 10) := ⟨RX0, TX0, 15, tyX0, "BrookStones", rfl, by decide, uw_X0, tyX0_ok, nmX0, rfl, Or.inr (tblN_of (i := 39) rfl rfl), fun h => absurd h (by decide), fun h => absurd h (by decide)⟩
set_option maxRecDepth 100000 in
theorem fk_BrookStones_i_85 : fOK "BrookStones" true (85, 0, 0, 10) := ⟨RX0, TX0, 15, tyX0, "BrookStones", rfl, by decide, uw_X0, tyX0_ok, nmX0, rfl, Or.inr (tblN_of (i := 33) rfl rfl), fun h => absurd h (by decide), fun h => absurd h (by decide)⟩
set_option maxRecDepth 100000 in
theorem fk_BrookStones_i_88 : fOK "BrookStones" true (88, 0, 1, 10) := ⟨RX0, TX0, 15, tyX0, "BrookStones", rfl, by decide, uw_X0, tyX0_ok, nmX0, rfl, Or.inr (tblN_of (i := 36) rfl rfl), fun h => absurd h (by decide), fun h => absurd h (by decide)⟩
set_option maxRecDepth 100000 in
theorem fk_BrookStones_i_91 : fOK "BrookStones" true (91, 0, 10, 1) := ⟨RX0, TX0, 15, tyX0, "BrookStones", rfl, by decide, uw_X0, tyX0_ok, nmX0, rfl, Or.inr (tblN_of (i := 60) rfl rfl), fun _ => ⟨rfl, rfl⟩, fun h => absurd h (by decide)⟩
set_option maxRecDepth 100000 in
theorem fk_BrookStones_i_98 : fOK "BrookStones" true (98, 0, 11, 1) := ⟨RX0, TX0, 15, tyX0, "BrookStones", rfl, by decide, uw_X0, tyX0_ok, nmX0, rfl, Or.inr (tblN_of (i := 64) rfl rfl), fun _ => ⟨rfl, rfl⟩, fun h => absurd h (by decide)⟩
set_option maxRecDepth 100000 in
theorem fk_BrookStones_i_113 : fOK "BrookStones" true (113, 0, 12, 1) := ⟨RX0, TX0, 15, tyX0, "BrookStones", rfl, by decide, uw_X0, tyX0_ok, nmX0, rfl, Or.inr (tblN_of (i := 69) rfl rfl), fun _ => ⟨rfl, rfl⟩, fun h => absurd h (by decide)⟩
set_option maxRecDepth 100000 in
theorem fk_BrookStones_i_122 : fOK "BrookStones" true (122, 0, 3, 10) := ⟨RX0, TX0, 15, tyX0, "BrookStones", rfl, by decide, uw_X0, tyX0_ok, nmX0, rfl, Or.inr (tblN_of (i := 41) rfl rfl), fun h => absurd h (by decide), fun h => absurd h (by decide)⟩
set_option maxRecDepth 100000 in
theorem fk_BrookStones_i_125 : fOK "BrookStones" true (125, 0, 4, 10) := ⟨RX0, TX0, 15, tyX0, "BrookStones", rfl, by decide, uw_X0, tyX0_ok, nmX0, rfl, Or.inr (tblN_of (i := 43) rfl rfl), fun h => absurd h (by decide), fun h => absurd h (by decide)⟩
set_option maxRecDepth 100000 in
theorem fk_BrookStones_i_128 : fOK "BrookStones" true (128, 0, 5, 10) := ⟨RX0, TX0, 15, tyX0, "BrookStones", rfl, by decide, uw_X0, tyX0_ok, nmX0, rfl, Or.inr (tblN_of (i := 45) rfl rfl), fun h => absurd h (by decide), fun h => absurd h (by decide)⟩
set_option maxRecDepth 100000 in
theorem fk_BrookStones_i_131 : fOK "BrookStones" true (131, 0, 6, 10) := ⟨RX0, TX0, 15, tyX0, "BrookStones", rfl, by decide, uw_X0, tyX0_ok, nmX0, rfl, Or.inr (tblN_of (i := 47) rfl rfl), fun h => absurd h (by decide), fun h => absurd h (by decide)⟩
set_option maxRecDepth 100000 in
theorem fk_BrookStones_i_138 : fOK "BrookStones" true (138, 0, 13, 1) := ⟨RX0, TX0, 15, tyX0, "BrookStones", rfl, by decide, uw_X0, tyX0_ok, nmX0, rfl, Or.inr (tblN_of (i := 72) rfl rfl), fun _ => ⟨rfl, rfl⟩, fun h => absurd h (by decide)⟩
set_option maxRecDepth 100000 in
theorem fk_BrookStones_i_152 : fOK "BrookStones" true (152, 0, 14, 1) := ⟨RX0, TX0, 15, tyX0, "BrookStones", rfl, by decide, uw_X0, tyX0_ok, nmX0, rfl, Or.inr (tblN_of (i := 74) rfl rfl), fun _ => ⟨rfl, rfl⟩, fun h => absurd h (by decide)⟩
set_option maxRecDepth 100000 in
theorem fk_BrookStones_i_161 : fOK "BrookStones" true (161, 0, 7, 10) := ⟨RX0, TX0, 15, tyX0, "BrookStones", rfl, by decide, uw_X0, tyX0_ok, nmX0, rfl, Or.inr (tblN_of (i := 49) rfl rfl), fun h => absurd h (by decide), fun h => absurd h (by decide)⟩
set_option maxRecDepth 100000 in
theorem fk_BrookStones_i_179 : fOK "BrookStones" true (179, 5, 0, 10) := ⟨RX6, TX6, 6, tyX6, "BrookStones", rfl, by decide, uw_X6, tyX6_ok, nmX6, rfl, Or.inr (tblN_of (i := 133) rfl rfl), fun h => absurd h (by decide), fun h => absurd h (by decide)⟩
set_option maxRecDepth 100000 in
theorem fk_BrookStones_i_207 : fOK "BrookStones" true (207, 1, 2, 1) := ⟨RX1, TX1, 3, tyX1, "BrookStones", rfl, by decide, uw_X1, tyX1_ok, nmX1, rfl, Or.inr (tblN_of (i := 164) rfl rfl), fun _ => ⟨rfl, rfl⟩, fun h => absurd h (by decide)⟩
set_option maxRecDepth 100000 in
theorem fk_BrookStones_i_210 : fOK "BrookStones" true (210, 1, 1, 10) := ⟨RX1, TX1, 3, tyX1, "BrookStones", rfl, by decide, uw_X1, tyX1_ok, nmX1, rfl, Or.inr (tblN_of (i := 161) rfl rfl), fun h => absurd h (by decide), fun h => absurd h (by decide)⟩
set_option maxRecDepth 100000 in
theorem fk_BrookStones_i_213 : fOK "BrookStones" true (213, 1, 0, 10) := ⟨RX1, TX1, 3, tyX1, "BrookStones", rfl, by decide, uw_X1, tyX1_ok, nmX1, rfl, Or.inr (tblN_of (i := 159) rfl rfl), fun h => absurd h (by decide), fun h => absurd h (by decide)⟩
set_option maxRecDepth 100000 in
theorem fk_BrookStones_i_230 : fOK "BrookStones" true (230, 3, 7, 1) := ⟨RX3, TX3, 11, tyX3, "BrookStones", rfl, by decide, uw_X3, tyX3_ok, nmX3, rfl, Or.inr (tblN_of (i := 190) rfl rfl), fun _ => ⟨rfl, rfl⟩, fun h => absurd h (by decide)⟩
set_option maxRecDepth 100000 in
theorem fk_BrookStones_i_233 : fOK "BrookStones" true (233, 3, 6, 1) := ⟨RX3, TX3, 11, tyX3, "BrookStones", rfl, by decide, uw_X3, tyX3_ok, nmX3, rfl, Or.inr (tblN_of (i := 188) rfl rfl), fun _ => ⟨rfl, rfl⟩, fun h => absurd h (by decide)⟩
set_option maxRecDepth 100000 in
theorem fk_BrookStones_i_236 : fOK "BrookStones" true (236, 3, 2, 10) := ⟨RX3, TX3, 11, tyX3, "BrookStones", rfl, by decide, uw_X3, tyX3_ok, nmX3, rfl, Or.inr (tblN_of (i := 183) rfl rfl), fun h => absurd h (by decide), fun h => absurd h (by decide)⟩
set_option maxRecDepth 100000 in
theorem fk_BrookStones_i_275 : fOK "BrookStones" true (275, 4, 1, 10) := ⟨RX4, TX4, 3, tyX4, "BrookStones", rfl, by decide, uw_X4, tyX4_ok, nmX4, rfl, Or.inr (tblN_of (i := 117) rfl rfl), fun h => absurd h (by decide), fun h => absurd h (by decide)⟩
set_option maxRecDepth 100000 in
theorem fk_BrookStones_i_281 : fOK "BrookStones" true (281, 4, 0, 10) := ⟨RX4, TX4, 3, tyX4, "BrookStones", rfl, by decide, uw_X4, tyX4_ok, nmX4, rfl, Or.inr (tblN_of (i := 115) rfl rfl), fun h => absurd h (by decide), fun h => absurd h (by decide)⟩
set_option maxRecDepth 100000 in
theorem fk_BrookStones_i_303 : fOK "BrookStones" true (303, 6, 6, 1) := ⟨RX7, TX7, 8, tyX7, "BrookStones", rfl, by decide, uw_X7, tyX7_ok, nmX7, rfl, Or.inl (tblG_of (i := 236) rfl rfl), fun _ => ⟨rfl, rfl⟩, fun h => absurd h (by decide)⟩
def fl_BrookStones_i : List (Nat × Nat × Nat × Nat) := [(12, 6, 0, 12), (21, 6, 1, 12), (28, 6, 2, 12), (35, 6, 3, 12), (42, 6, 4, 12), (49, 6, 5, 12), (53, 6, 7, 1), (74, 0, 8, 1), (81, 0, 2, 10), (85, 0, 0, 10), (88, 0, 1, 10), (91, 0, 10, 1), (98, 0, 11, 1), (113, 0, 12, 1), (122, 0, 3, 10), (125, 0, 4, 10), (128, 0, 5, 10), (131, 0, 6, 10), (138, 0, 13, 1), (152, 0, 14, 1), (161, 0, 7, 10), (179, 5, 0, 10), (207, 1, 2, 1), (210, 1, 1, 10), (213, 1, 0, 10), (230, 3, 7, 1), (233, 3, 6, 1), (236, 3, 2, 10), (275, 4, 1, 10), (281, 4, 0, 10), (303, 6, 6, 1)]
set_option maxRecDepth 100000 in
theorem fl_BrookStones_i_ok : ∀ q ∈ fl_BrookStones_i, fOK "BrookStones" true q := List.forall_mem_cons.mpr ⟨fk_BrookStones_i_12, List.forall_mem_cons.mpr ⟨fk_BrookStones_i_21, List.forall_mem_cons.mpr ⟨fk_BrookStones_i_28, List.forall_mem_cons.mpr ⟨fk_BrookStones_i_35, List.forall_mem_cons.mpr ⟨fk_BrookStones_i_42, List.forall_mem_cons.mpr ⟨fk_BrookStones_i_49, List.forall_mem_cons.mpr ⟨fk_BrookStones_i_53, List.forall_mem_cons.mpr ⟨fk_BrookStones_i_74, List.forall_mem_cons.mpr ⟨fk_BrookStones_i_81, List.forall_mem_cons.mpr ⟨fk_BrookStones_i_85, List.forall_mem_cons.mpr ⟨fk_BrookStones_i_88, List.forall_mem_cons.mpr ⟨fk_BrookStones_i_91, List.forall_mem_cons.mpr ⟨fk_BrookStones_i_98, List.forall_mem_cons.mpr ⟨fk_BrookStones_i_113, List.forall_mem_cons.mpr ⟨fk_BrookStones_i_122, List.forall_mem_cons.mpr ⟨fk_BrookStones_i_125, List.forall_mem_cons.mpr ⟨fk_BrookStones_i_128, List.forall_mem_cons.mpr ⟨fk_BrookStones_i_131, List.forall_mem_cons.mpr ⟨fk_BrookStones_i_138, List.forall_mem_cons.mpr ⟨fk_BrookStones_i_152, List.forall_mem_cons.mpr ⟨fk_BrookStones_i_161, List.forall_mem_cons.mpr ⟨fk_BrookStones_i_179, List.forall_mem_cons.mpr ⟨fk_BrookStones_i_207, List.forall_mem_cons.mpr ⟨fk_BrookStones_i_210, List.forall_mem_cons.mpr ⟨fk_BrookStones_i_213, List.forall_mem_cons.mpr ⟨fk_BrookStones_i_230, List.forall_mem_cons.mpr ⟨fk_BrookStones_i_233, List.forall_mem_cons.mpr ⟨fk_BrookStones_i_236, List.forall_mem_cons.mpr ⟨fk_BrookStones_i_275, List.forall_mem_cons.mpr ⟨fk_BrookStones_i_281, List.forall_mem_cons.mpr ⟨fk_BrookStones_i_303, fun _ h => absurd h List.not_mem_nil⟩⟩⟩⟩⟩⟩⟩⟩⟩⟩⟩⟩⟩⟩⟩⟩⟩⟩⟩⟩⟩⟩⟩⟩⟩⟩⟩⟩⟩⟩⟩
set_option maxRecDepth 100000 in
theorem fk_BrookStones_Brook_9 : fOK "BrookStones$Brook" false (9, 0, 0, 10) := ⟨RX0, TX0, 15, tyX0, "BrookStones", rfl, by decide, uw_X0, tyX0_ok, nmX0, rfl, Or.inl (tblG_of (i := 31) rfl rfl), fun h => absurd h (by decide), fun h => absurd h (by decide)⟩
set_option maxRecDepth 100000 in
theorem fk_BrookStones_Brook_15 : fOK "BrookStones$Brook" false (15, 0, 1, 10) := ⟨RX0, TX0, 15, tyX0, "BrookStones", rfl, by decide, uw_X0, tyX0_ok, nmX0, rfl, Or.inl (tblG_of (i := 34) rfl rfl), fun h => absurd h (by decide), fun h => absurd h (by decide)⟩
set_option maxRecDepth 100000 in
theorem fk_BrookStones_Brook_18 : fOK "BrookStones$Brook" false (18, 0, 2, 10) := ⟨RX0, TX0, 15, tyX0, "BrookStones", rfl, by decide, uw_X0, tyX0_ok, nmX0, rfl, Or.inl (tblG_of (i := 38) rfl rfl), fun h => absurd h (by decide), fun h => absurd h (by decide)⟩
set_option maxRecDepth 100000 in
theorem fk_BrookStones_Brook_21 : fOK "BrookStones$Brook" false (21, 0, 3, 10) := ⟨RX0, TX0, 15, tyX0, "BrookStones", rfl, by decide, uw_X0, tyX0_ok, nmX0, rfl, Or.inl (tblG_of (i := 40) rfl rfl), fun h => absurd h (by decide), fun h => absurd h (by decide)⟩
set_option maxRecDepth 100000 in
theorem fk_BrookStones_Brook_24 : fOK "BrookStones$Brook" false (24, 0, 4, 10) := ⟨RX0, TX0, 15, tyX0, "BrookStones", rfl, by decide, uw_X0, tyX0_ok, nmX0, rfl, Or.inl (tblG_of (i := 42) rfl rfl), fun h => absurd h (by decide), fun h => absurd h (by decide)⟩
set_option maxRecDepth 100000 in
theorem fk_BrookStones_Brook_27 : fOK "BrookStones$Brook" false (27, 0, 5, 10) := ⟨RX0, TX0, 15, tyX0, "BrookStones", rfl, by decide, uw_X0, tyX0_ok, nmX0, rfl, Or.inl (tblG_of (i := 44) rfl rfl), fun h => absurd h (by decide), fun h => absurd h (by decide)⟩
set_option maxRecDepth 100000 in
theorem fk_BrookStones_Brook_30 : fOK "BrookStones$Brook" false (30, 0, 6, 10) := ⟨RX0, TX0, 15, tyX0, "BrookStones", rfl, by decide, uw_X0, tyX0_ok, nmX0, rfl, Or.inl (tblG_of (i := 46) rfl rfl), fun h => absurd h (by decide), fun h => absurd h (by decide)⟩
set_option maxRecDepth 100000 in
theorem fk_BrookStones_Brook_33 : fOK "BrookStones$Brook" false (33, 0, 7, 10) := ⟨RX0, TX0, 15, tyX0, "BrookStones", rfl, by decide, uw_X0, tyX0_ok, nmX0, rfl, Or.inl (tblG_of (i := 48) rfl rfl), fun h => absurd h (by decide), fun h => absurd h (by decide)⟩
set_option maxRecDepth 100000 in
theorem fk_BrookStones_Brook_42 : fOK "BrookStones$Brook" false (42, 0, 10, 1) := ⟨RX0, TX0, 15, tyX0, "BrookStones", rfl, by decide, uw_X0, tyX0_ok, nmX0, rfl, Or.inl (tblG_of (i := 59) rfl rfl), fun _ => ⟨rfl, rfl⟩, fun h => absurd h (by decide)⟩
set_option maxRecDepth 100000 in
theorem fk_BrookStones_Brook_46 : fOK "BrookStones$Brook" false (46, 0, 11, 1) := ⟨RX0, TX0, 15, tyX0, "BrookStones", rfl, by decide, uw_X0, tyX0_ok, nmX0, rfl, Or.inl (tblG_of (i := 62) rfl rfl), fun _ => ⟨rfl, rfl⟩, fun h => absurd h (by decide)⟩
set_option maxRecDepth 100000 in
theorem fk_BrookStones_Brook_49 : fOK "BrookStones$Brook" false (49, 0, 12, 1) := ⟨RX0, TX0, 15, tyX0, "BrookStones", rfl, by decide, uw_X0, tyX0_ok, nmX0, rfl, Or.inl (tblG_of (i := 67) rfl rfl), fun _ => ⟨rfl, rfl⟩, fun h => absurd h (by decide)⟩
set_option maxRecDepth 100000 in
theorem fk_BrookStones_Brook_52 : fOK "BrookStones$Brook" false (52, 0, 13, 1) := ⟨RX0, TX0, 15, tyX0, "BrookStones", rfl, by decide, uw_X0, tyX0_ok, nmX0, rfl, Or.inl (tblG_of (i := 70) rfl rfl), fun _ => ⟨rfl, rfl⟩, fun h => absurd h (by decide)⟩
set_option maxRecDepth 100000 in
theorem fk_BrookStones_Brook_55 : fOK "BrookStones$Brook" false (55, 0, 14, 1) := ⟨RX0, TX0, 15, tyX0, "BrookStones", rfl, by decide, uw_X0, tyX0_ok, nmX0, rfl, Or.inl (tblG_of (i := 73) rfl rfl), fun _ => ⟨rfl, rfl⟩, fun h => absurd h (by decide)⟩
set_option maxRecDepth 100000 in
theorem fk_BrookStones_Brook_58 : fOK "BrookStones$Brook" false (58, 0, 8, 1) := ⟨RX0, TX0, 15, tyX0, "BrookStones", rfl, by decide, uw_X0, tyX0_ok, nmX0, rfl, Or.inl (tblG_of (i := 53) rfl rfl), fun _ => ⟨rfl, rfl⟩, fun h => absurd h (by decide)⟩
def fl_BrookStones_Brook : List (Nat × Nat × Nat × Nat) := [(9, 0, 0, 10), (15, 0, 1, 10), (18, 0, 2, 10), (21, 0, 3, 10), (24, 0, 4, 10), (27, 0, 5, 10), (30, 0, 6, 10), (33, 0, 7, 10), (42, 0, 10, 1), (46, 0, 11, 1), (49, 0, 12, 1), (52, 0, 13, 1), (55, 0, 14, 1), (58, 0, 8, 1)]
set_option maxRecDepth 100000 in
theorem fl_BrookStones_Brook_ok : ∀ q ∈ fl_BrookStones_Brook, fOK "BrookStones$Brook" false q := List.forall_mem_cons.mpr ⟨fk_BrookStones_Brook_9, List.forall_mem_cons.mpr ⟨fk_BrookStones_Brook_15, List.forall_mem_cons.mpr ⟨fk_BrookStones_Brook_18, List.forall_mem_cons.mpr ⟨fk_BrookStones_Brook_21, List.forall_mem_cons.mpr ⟨fk_BrookStones_Brook_24, List.forall_mem_cons.mpr ⟨fk_BrookStones_Brook_27, List.forall_mem_cons.mpr ⟨fk_BrookStones_Brook_30, List.forall_mem_cons.mpr ⟨fk_BrookStones_Brook_33, List.forall_mem_cons.mpr ⟨fk_BrookStones_Brook_42, List.forall_mem_cons.mpr ⟨fk_BrookStones_Brook_46, List.forall_mem_cons.mpr ⟨fk_BrookStones_Brook_49, List.forall_mem_cons.mpr ⟨fk_BrookStones_Brook_52, List.forall_mem_cons.mpr ⟨fk_BrookStones_Brook_55, List.forall_mem_cons.mpr ⟨fk_BrookStones_Brook_58, fun _ h => absurd h List.not_mem_nil⟩⟩⟩⟩⟩⟩⟩⟩⟩⟩⟩⟩⟩⟩
set_option maxRecDepth 100000 in
theorem fk_BrookStones_Brook_i_9 : fOK "BrookStones$Brook" true (9, 0, 0, 12) := ⟨RX0, TX0, 15, tyX0, "BrookStones", rfl, by decide, uw_X0, tyX0_ok, nmX0, rfl, Or.inl (tblG_of (i := 31) rfl rfl), fun h => absurd h (by decide), fun _ => ⟨rfl, rfl, rfl, Or.inr ⟨_, rfl⟩, tblG_of (i := 31) rfl rfl⟩⟩
set_option maxRecDepth 100000 in
theorem fk_BrookStones_Brook_i_15 : fOK "BrookStones$Brook" true (15, 0, 1, 12) := ⟨RX0, TX0, 15, tyX0, "BrookStones", rfl, by decide, uw_X0, tyX0_ok, nmX0, rfl, Or.inl (tblG_of (i := 34) rfl rfl), fun h => absurd h (by decide), fun _ => ⟨rfl, rfl, rfl, Or.inr ⟨_, rfl⟩, tblG_of (i := 34) rfl rfl⟩⟩
set_option maxRecDepth 100000 in
theorem fk_BrookStones_Brook_i_18 : fOK "BrookStones$Brook" true (18, 0, 2, 12) := ⟨RX0, TX0, 15, tyX0, "BrookStones", rfl, by decide, uw_X0, tyX0_ok, nmX0, rfl, Or.inl (tblG_of (i := 38) rfl rfl), fun h => absurd h (by decide), fun _ => ⟨rfl, rfl, rfl, Or.inr ⟨_, rfl⟩, tblG_of (i := 38) rfl rfl⟩⟩
set_option maxRecDepth 100000 in
theorem fk_BrookStones_Brook_i_21 : fOK "BrookStones$Brook" true (21, 0, 3, 12) := ⟨RX0, TX0, 15, tyX0, "BrookStones", rfl, by decide, uw_X0, tyX0_ok, nmX0, rfl, Or.inl (tblG_of (i := 40) rfl rfl), fun h => absurd h (by decide), fun _ => ⟨rfl, rfl, rfl, Or.inr ⟨_, rfl⟩, tblG_of (i := 40) rfl rfl⟩⟩
set_option maxRecDepth 100000 in
theorem fk_BrookStones_Brook_i_24 : fOK "BrookStones$Brook" true (24, 0, 4, 12) := ⟨RX0, TX0, 15, tyX0, "BrookStones", rfl, by decide, uw_X0, tyX0_ok, nmX0, rfl, Or.inl (tblG_of (i := 42) rfl rfl), fun h => absurd h (by decide), fun _ => ⟨rfl, rfl, rfl, Or.inr ⟨_, rfl⟩, tblG_of (i := 42) rfl rfl⟩⟩
set_option maxRecDepth 100000 in
theorem fk_BrookStones_Brook_i_27 : fOK "BrookStones$Brook" true (27, 0, 5, 12) := ⟨RX0, TX0, 15, tyX0, "BrookStones", rfl, by decide, uw_X0, tyX0_ok, nmX0, rfl, Or.inl (tblG_of (i := 44) rfl rfl), fun h => absurd h (by decide), fun _ => ⟨rfl, rfl, rfl, Or.inr ⟨_, rfl⟩, tblG_of (i := 44) rfl rfl⟩⟩
set_option maxRecDepth 100000 in
theorem fk_BrookStones_Brook_i_30 : fOK "BrookStones$Brook" true (30, 0, 6, 12) := ⟨RX0, TX0, 15, tyX0, "BrookStones", rfl, by decide, uw_X0, tyX0_ok, nmX0, rfl, Or.inl (tblG_of (i := 46) rfl rfl), fun h => absurd h (by decide), fun _ => ⟨rfl, rfl, rfl, Or.inr ⟨_, rfl⟩, tblG_of (i := 46) rfl rfl⟩⟩
set_option maxRecDepth 100000 in
theorem fk_BrookStones_Brook_i_33 : fOK "BrookStones$Brook" true (33, 0, 7, 12) := ⟨RX0, TX0, 15, tyX0, "BrookStones", rfl, by decide, uw_X0, tyX0_ok, nmX0, rfl, Or.inl (tblG_of (i := 48) rfl rfl), fun h => absurd h (by decide), fun _ => ⟨rfl, rfl, rfl, Or.inr ⟨_, rfl⟩, tblG_of (i := 48) rfl rfl⟩⟩
set_option maxRecDepth 100000 in
theorem fk_BrookStones_Brook_i_42 : fOK "BrookStones$Brook" true (42, 0, 10, 1) := ⟨RX0, TX0, 15, tyX0, "BrookStones", rfl, by decide, uw_X0, tyX0_ok, nmX0, rfl, Or.inl (tblG_of (i := 59) rfl rfl), fun _ => ⟨rfl, rfl⟩, fun h => absurd h (by decide)⟩
set_option maxRecDepth 100000 in
theorem fk_BrookStones_Brook_i_46 : fOK "BrookStones$Brook" true (46, 0, 11, 1) := ⟨RX0, TX0, 15, tyX0, "BrookStones", rfl, by decide, uw_X0, tyX0_ok, nmX0, rfl, Or.inl (tblG_of (i := 62) rfl rfl), fun _ => ⟨rfl, rfl⟩, fun h => absurd h (by decide)⟩
set_option maxRecDepth 100000 in
theorem fk_BrookStones_Brook_i_49 : fOK "BrookStones$Brook" true (49, 0, 12, 1) := ⟨RX0, TX0, 15, tyX0, "BrookStones", rfl, by decide, uw_X0, tyX0_ok, nmX0, rfl, Or.inl (tblG_of (i := 67) rfl rfl), fun _ => ⟨rfl, rfl⟩, fun h => absurd h (by decide)⟩
set_option maxRecDepth 100000 in
theorem fk_BrookStones_Brook_i_52 : fOK "BrookStones$Brook" true (52, 0, 13, 1) := ⟨RX0, TX0, 15, tyX0, "BrookStones", rfl, by decide, uw_X0, tyX0_ok, nmX0, rfl, Or.inl (tblG_of (i := 70) rfl rfl), fun _ => ⟨rfl, rfl⟩, fun h => absurd h (by decide)⟩
set_option maxRecDepth 100000 in
theorem fk_BrookStones_Brook_i_55 : fOK "BrookStones$Brook" true (55, 0, 14, 1) := ⟨RX0, TX0, 15, tyX0, "BrookStones", rfl, by decide, uw_X0, tyX0_ok, nmX0, rfl, Or.inl (tblG_of (i := 73) rfl rfl), fun _ => ⟨rfl, rfl⟩, fun h => absurd h (by decide)⟩
set_option maxRecDepth 100000 in
theorem fk_BrookStones_Brook_i_58 : fOK "BrookStones$Brook" true (58, 0, 8, 1) := ⟨RX0, TX0, 15, tyX0, "BrookStones", rfl, by decide, uw_X0, tyX0_ok, nmX0, rfl, Or.inl (tblG_of (i := 53) rfl rfl), fun _ => ⟨rfl, rfl⟩, fun h => absurd h (by decide)⟩
def fl_BrookStones_Brook_i : List (Nat × Nat × Nat × Nat) := [(9, 0, 0, 12), (15, 0, 1, 12), (18, 0, 2, 12), (21, 0, 3, 12), (24, 0, 4, 12), (27, 0, 5, 12), (30, 0, 6, 12), (33, 0, 7, 12), (42, 0, 10, 1), (46, 0, 11, 1), (49, 0, 12, 1), (52, 0, 13, 1), (55, 0, 14, 1), (58, 0, 8, 1)]
set_option maxRecDepth 100000 in
theorem fl_BrookStones_Brook_i_ok : ∀ q ∈ fl_BrookStones_Brook_i, fOK "BrookStones$Brook" true q := List.forall_mem_cons.mpr ⟨fk_BrookStones_Brook_i_9, List.forall_mem_cons.mpr ⟨fk_BrookStones_Brook_i_15, List.forall_mem_cons.mpr ⟨fk_BrookStones_Brook_i_18, List.forall_mem_cons.mpr ⟨fk_BrookStones_Brook_i_21, List.forall_mem_cons.mpr ⟨fk_BrookStones_Brook_i_24, List.forall_mem_cons.mpr ⟨fk_BrookStones_Brook_i_27, List.forall_mem_cons.mpr ⟨fk_BrookStones_Brook_i_30, List.forall_mem_cons.mpr ⟨fk_BrookStones_Brook_i_33, List.forall_mem_cons.mpr ⟨fk_BrookStones_Brook_i_42, List.forall_mem_cons.mpr ⟨fk_BrookStones_Brook_i_46, List.forall_mem_cons.mpr ⟨fk_BrookStones_Brook_i_49, List.forall_mem_cons.mpr ⟨fk_BrookStones_Brook_i_52, List.forall_mem_cons.mpr ⟨fk_BrookStones_Brook_i_55, List.forall_mem_cons.mpr ⟨fk_BrookStones_Brook_i_58, fun _ h => absurd h List.not_mem_nil⟩⟩⟩⟩⟩⟩⟩⟩⟩⟩⟩⟩⟩⟩
set_option maxRecDepth 100000 in
theorem fk_BrookStones_Flood_9 : fOK "BrookStones$Flood" false (9, 1, 0, 10) := ⟨RX1, TX1, 3, tyX1, "BrookStones", rfl, by decide, uw_X1, tyX1_ok, nmX1, rfl, Or.inl (tblG_of (i := 158) rfl rfl), fun h => absurd h (by decide), fun h => absurd h (by decide)⟩
set_option maxRecDepth 100000 in
theorem fk_BrookStones_Flood_15 : fOK "BrookStones$Flood" false (15, 1, 1, 10) := ⟨RX1, TX1, 3, tyX1, "BrookStones", rfl, by decide, uw_X1, tyX1_ok, nmX1, rfl, Or.inl (tblG_of (i := 160) rfl rfl), fun h => absurd h (by decide), fun h => absurd h (by decide)⟩
set_option maxRecDepth 100000 in
theorem fk_BrookStones_Flood_18 : fOK "BrookStones$Flood" false (18, 1, 2, 1) := ⟨RX1, TX1, 3, tyX1, "BrookStones", rfl, by decide, uw_X1, tyX1_ok, nmX1, rfl, Or.inl (tblG_of (i := 162) rfl rfl), fun _ => ⟨rfl, rfl⟩, fun h => absurd h (by decide)⟩
set_option maxRecDepth 100000 in
theorem fk_BrookStones_Flood_22 : fOK "BrookStones$Flood" false (22, 0, 8, 1) := ⟨RX0, TX0, 15, tyX0, "BrookStones", rfl, by decide, uw_X0, tyX0_ok, nmX0, rfl, Or.inr (tblN_of (i := 51) rfl rfl), fun _ => ⟨rfl, rfl⟩, fun h => absurd h (by decide)⟩
set_option maxRecDepth 100000 in
theorem fk_BrookStones_Flood_43 : fOK "BrookStones$Flood" false (43, 0, 9, 1) := ⟨RX0, TX0, 15, tyX0, "BrookStones", rfl, by decide, uw_X0, tyX0_ok, nmX0, rfl, Or.inr (tblN_of (i := 58) rfl rfl), fun _ => ⟨rfl, rfl⟩, fun h => absurd h (by decide)⟩
set_option maxRecDepth 100000 in
theorem fk_BrookStones_Flood_46 : fOK "BrookStones$Flood" false (46, 0, 1, 10) := ⟨RX0, TX0, 15, tyX0, "BrookStones", rfl, by decide, uw_X0, tyX0_ok, nmX0, rfl, Or.inr (tblN_of (i := 37) rfl rfl), fun h => absurd h (by decide), fun h => absurd h (by decide)⟩
def fl_BrookStones_Flood : List (Nat × Nat × Nat × Nat) := [(9, 1, 0, 10), (15, 1, 1, 10), (18, 1, 2, 1), (22, 0, 8, 1), (43, 0, 9, 1), (46, 0, 1, 10)]
set_option maxRecDepth 100000 in
theorem fl_BrookStones_Flood_ok : ∀ q ∈ fl_BrookStones_Flood, fOK "BrookStones$Flood" false q := List.forall_mem_cons.mpr ⟨fk_BrookStones_Flood_9, List.forall_mem_cons.mpr ⟨fk_BrookStones_Flood_15, List.forall_mem_cons.mpr ⟨fk_BrookStones_Flood_18, List.forall_mem_cons.mpr ⟨fk_BrookStones_Flood_22, List.forall_mem_cons.mpr ⟨fk_BrookStones_Flood_43, List.forall_mem_cons.mpr ⟨fk_BrookStones_Flood_46, fun _ h => absurd h List.not_mem_nil⟩⟩⟩⟩⟩⟩
set_option maxRecDepth 100000 in
theorem fk_BrookStones_Flood_i_9 : fOK "BrookStones$Flood" true (9, 1, 0, 12) := ⟨RX1, TX1, 3, tyX1, "BrookStones", rfl, by decide, uw_X1, tyX1_ok, nmX1, rfl, Or.inl (tblG_of (i := 158) rfl rfl), fun h => absurd h (by decide), fun _ => ⟨rfl, rfl, rfl, Or.inr ⟨_, rfl⟩, tblG_of (i := 158) rfl rfl⟩⟩
set_option maxRecDepth 100000 in
theorem fk_BrookStones_Flood_i_15 : fOK "BrookStones$Flood" true (15, 1, 1, 12) := ⟨RX1, TX1, 3, tyX1, "BrookStones", rfl, by decide, uw_X1, tyX1_ok, nmX1, rfl, Or.inl (tblG_of (i := 160) rfl rfl), fun h => absurd h (by decide), fun _ => ⟨rfl, rfl, rfl, Or.inr ⟨_, rfl⟩, tblG_of (i := 160) rfl rfl⟩⟩
set_option maxRecDepth 100000 in
theorem fk_BrookStones_Flood_i_18 : fOK "BrookStones$Flood" true (18, 1, 2, 1) := ⟨RX1, TX1, 3, tyX1, "BrookStones", rfl, by decide, uw_X1, tyX1_ok, nmX1, rfl, Or.inl (tblG_of (i := 162) rfl rfl), fun _ => ⟨rfl, rfl⟩, fun h => absurd h (by decide)⟩
set_option maxRecDepth 100000 in
theorem fk_BrookStones_Flood_i_22 : fOK "BrookStones$Flood" true (22, 0, 8, 1) := ⟨RX0, TX0, 15, tyX0, "BrookStones", rfl, by decide, uw_X0, tyX0_ok, nmX0, rfl, Or.inr (tblN_of (i := 51) rfl rfl), fun _ => ⟨rfl, rfl⟩, fun h => absurd h (by decide)⟩
set_option maxRecDepth 100000 in
theorem fk_BrookStones_Flood_i_43 : fOK "BrookStones$Flood" true (43, 0, 9, 1) := ⟨RX0, TX0, 15, tyX0, "BrookStones", rfl, by decide, uw_X0, tyX0_ok, nmX0, rfl, Or.inr (tblN_of (i := 58) rfl rfl), fun _ => ⟨rfl, rfl⟩, fun h => absurd h (by decide)⟩
set_option maxRecDepth 100000 in
theorem fk_BrookStones_Flood_i_46 : fOK "BrookStones$Flood" true (46, 0, 1, 10) := ⟨RX0, TX0, 15, tyX0, "BrookStones", rfl, by decide, uw_X0, tyX0_ok, nmX0, rfl, Or.inr (tblN_of (i := 37) rfl rfl), fun h => absurd h (by decide), fun h => absurd h (by decide)⟩
def fl_BrookStones_Flood_i : List (Nat × Nat × Nat × Nat) := [(9, 1, 0, 12), (15, 1, 1, 12), (18, 1, 2, 1), (22, 0, 8, 1), (43, 0, 9, 1), (46, 0, 1, 10)]
set_option maxRecDepth 100000 in
theorem fl_BrookStones_Flood_i_ok : ∀ q ∈ fl_BrookStones_Flood_i, fOK "BrookStones$Flood" true q := List.forall_mem_cons.mpr ⟨fk_BrookStones_Flood_i_9, List.forall_mem_cons.mpr ⟨fk_BrookStones_Flood_i_15, List.forall_mem_cons.mpr ⟨fk_BrookStones_Flood_i_18, List.forall_mem_cons.mpr ⟨fk_BrookStones_Flood_i_22, List.forall_mem_cons.mpr ⟨fk_BrookStones_Flood_i_43, List.forall_mem_cons.mpr ⟨fk_BrookStones_Flood_i_46, fun _ h => absurd h List.not_mem_nil⟩⟩⟩⟩⟩⟩
set_option maxRecDepth 100000 in
theorem fk_BrookStones_Layings_9 : fOK "BrookStones$Layings" false (9, 2, 0, 10) := ⟨RX2, TX2, 2, tyX2, "BrookStones", rfl, by decide, uw_X2, tyX2_ok, nmX2, rfl, Or.inl (tblG_of (i := 223) rfl rfl), fun h => absurd h (by decide), fun h => absurd h (by decide)⟩
set_option maxRecDepth 100000 in
theorem fk_BrookStones_Layings_21 : fOK "BrookStones$Layings" false (21, 2, 1, 1) := ⟨RX2, TX2, 2, tyX2, "BrookStones", rfl, by decide, uw_X2, tyX2_ok, nmX2, rfl, Or.inl (tblG_of (i := 224) rfl rfl), fun _ => ⟨rfl, rfl⟩, fun h => absurd h (by decide)⟩
set_option maxRecDepth 100000 in
theorem fk_BrookStones_Layings_32 : fOK "BrookStones$Layings" false (32, 0, 8, 1) := ⟨RX0, TX0, 15, tyX0, "BrookStones", rfl, by decide, uw_X0, tyX0_ok, nmX0, rfl, Or.inr (tblN_of (i := 55) rfl rfl), fun _ => ⟨rfl, rfl⟩, fun h => absurd h (by decide)⟩
set_option maxRecDepth 100000 in
theorem fk_BrookStones_Layings_43 : fOK "BrookStones$Layings" false (43, 0, 11, 1) := ⟨RX0, TX0, 15, tyX0, "BrookStones", rfl, by decide, uw_X0, tyX0_ok, nmX0, rfl, Or.inr (tblN_of (i := 65) rfl rfl), fun _ => ⟨rfl, rfl⟩, fun h => absurd h (by decide)⟩
def fl_BrookStones_Layings : List (Nat × Nat × Nat × Nat) := [(9, 2, 0, 10), (21, 2, 1, 1), (32, 0, 8, 1), (43, 0, 11, 1)]
set_option maxRecDepth 100000 in
theorem fl_BrookStones_Layings_ok : ∀ q ∈ fl_BrookStones_Layings, fOK "BrookStones$Layings" false q := List.forall_mem_cons.mpr ⟨fk_BrookStones_Layings_9, List.forall_mem_cons.mpr ⟨fk_BrookStones_Layings_21, List.forall_mem_cons.mpr ⟨fk_BrookStones_Layings_32, List.forall_mem_cons.mpr ⟨fk_BrookStones_Layings_43, fun _ h => absurd h List.not_mem_nil⟩⟩⟩⟩
set_option maxRecDepth 100000 in
theorem fk_BrookStones_Layings_i_9 : fOK "BrookStones$Layings" true (9, 2, 0, 12) := ⟨RX2, TX2, 2, tyX2, "BrookStones", rfl, by decide, uw_X2, tyX2_ok, nmX2, rfl, Or.inl (tblG_of (i := 223) rfl rfl), fun h => absurd h (by decide), fun _ => ⟨rfl, rfl, rfl, Or.inr ⟨_, rfl⟩, tblG_of (i := 223) rfl rfl⟩⟩
set_option maxRecDepth 100000 in
theorem fk_BrookStones_Layings_i_21 : fOK "BrookStones$Layings" true (21, 2, 1, 1) := ⟨RX2, TX2, 2, tyX2, "BrookStones", rfl, by decide, uw_X2, tyX2_ok, nmX2, rfl, Or.inl (tblG_of (i := 224) rfl rfl), fun _ => ⟨rfl, rfl⟩, fun h => absurd h (by decide)⟩
set_option maxRecDepth 100000 in
theorem fk_BrookStones_Layings_i_32 : fOK "BrookStones$Layings" true (32, 0, 8, 1) := ⟨RX0, TX0, 15, tyX0, "BrookStones", rfl, by decide, uw_X0, tyX0_ok, nmX0, rfl, Or.inr (tblN_of (i := 55) rfl rfl), fun _ => ⟨rfl, rfl⟩, fun h => absurd h (by decide)⟩
set_option maxRecDepth 100000 in
theorem fk_BrookStones_Layings_i_43 : fOK "BrookStones$Layings" true (43, 0, 11, 1) := ⟨RX0, TX0, 15, tyX0, "BrookStones", rfl, by decide, uw_X0, tyX0_ok, nmX0, rfl, Or.inr (tblN_of (i := 65) rfl rfl), fun _ => ⟨rfl, rfl⟩, fun h => absurd h (by decide)⟩
def fl_BrookStones_Layings_i : List (Nat × Nat × Nat × Nat) := [(9, 2, 0, 12), (21, 2, 1, 1), (32, 0, 8, 1), (43, 0, 11, 1)]
set_option maxRecDepth 100000 in
theorem fl_BrookStones_Layings_i_ok : ∀ q ∈ fl_BrookStones_Layings_i, fOK "BrookStones$Layings" true q := List.forall_mem_cons.mpr ⟨fk_BrookStones_Layings_i_9, List.forall_mem_cons.mpr ⟨fk_BrookStones_Layings_i_21, List.forall_mem_cons.mpr ⟨fk_BrookStones_Layings_i_32, List.forall_mem_cons.mpr ⟨fk_BrookStones_Layings_i_43, fun _ h => absurd h List.not_mem_nil⟩⟩⟩⟩
set_option maxRecDepth 100000 in
theorem fk_BrookStones_Planner_12 : fOK "BrookStones$Planner" false (12, 3, 0, 10) := ⟨RX3, TX3, 11, tyX3, "BrookStones", rfl, by decide, uw_X3, tyX3_ok, nmX3, rfl, Or.inl (tblG_of (i := 180) rfl rfl), fun h => absurd h (by decide), fun h => absurd h (by decide)⟩
set_option maxRecDepth 100000 in
theorem fk_BrookStones_Planner_18 : fOK "BrookStones$Planner" false (18, 3, 1, 10) := ⟨RX3, TX3, 11, tyX3, "BrookStones", rfl, by decide, uw_X3, tyX3_ok, nmX3, rfl, Or.inl (tblG_of (i := 181) rfl rfl), fun h => absurd h (by decide), fun h => absurd h (by decide)⟩
set_option maxRecDepth 100000 in
theorem fk_BrookStones_Planner_22 : fOK "BrookStones$Planner" false (22, 3, 2, 10) := ⟨RX3, TX3, 11, tyX3, "BrookStones", rfl, by decide, uw_X3, tyX3_ok, nmX3, rfl, Or.inl (tblG_of (i := 182) rfl rfl), fun h => absurd h (by decide), fun h => absurd h (by decide)⟩
set_option maxRecDepth 100000 in
theorem fk_BrookStones_Planner_25 : fOK "BrookStones$Planner" false (25, 3, 3, 10) := ⟨RX3, TX3, 11, tyX3, "BrookStones", rfl, by decide, uw_X3, tyX3_ok, nmX3, rfl, Or.inl (tblG_of (i := 184) rfl rfl), fun h => absurd h (by decide), fun h => absurd h (by decide)⟩
set_option maxRecDepth 100000 in
theorem fk_BrookStones_Planner_28 : fOK "BrookStones$Planner" false (28, 3, 4, 10) := ⟨RX3, TX3, 11, tyX3, "BrookStones", rfl, by decide, uw_X3, tyX3_ok, nmX3, rfl, Or.inl (tblG_of (i := 185) rfl rfl), fun h => absurd h (by decide), fun h => absurd h (by decide)⟩
set_option maxRecDepth 100000 in
theorem fk_BrookStones_Planner_31 : fOK "BrookStones$Planner" false (31, 3, 5, 10) := ⟨RX3, TX3, 11, tyX3, "BrookStones", rfl, by decide, uw_X3, tyX3_ok, nmX3, rfl, Or.inl (tblG_of (i := 186) rfl rfl), fun h => absurd h (by decide), fun h => absurd h (by decide)⟩
set_option maxRecDepth 100000 in
theorem fk_BrookStones_Planner_34 : fOK "BrookStones$Planner" false (34, 3, 8, 1) := ⟨RX3, TX3, 11, tyX3, "BrookStones", rfl, by decide, uw_X3, tyX3_ok, nmX3, rfl, Or.inl (tblG_of (i := 191) rfl rfl), fun _ => ⟨rfl, rfl⟩, fun h => absurd h (by decide)⟩
set_option maxRecDepth 100000 in
theorem fk_BrookStones_Planner_38 : fOK "BrookStones$Planner" false (38, 3, 9, 1) := ⟨RX3, TX3, 11, tyX3, "BrookStones", rfl, by decide, uw_X3, tyX3_ok, nmX3, rfl, Or.inl (tblG_of (i := 192) rfl rfl), fun _ => ⟨rfl, rfl⟩, fun h => absurd h (by decide)⟩
set_option maxRecDepth 100000 in
theorem fk_BrookStones_Planner_41 : fOK "BrookStones$Planner" false (41, 3, 10, 1) := ⟨RX3, TX3, 11, tyX3, "BrookStones", rfl, by decide, uw_X3, tyX3_ok, nmX3, rfl, Or.inl (tblG_of (i := 193) rfl rfl), fun _ => ⟨rfl, rfl⟩, fun h => absurd h (by decide)⟩
set_option maxRecDepth 100000 in
theorem fk_BrookStones_Planner_45 : fOK "BrookStones$Planner" false (45, 3, 6, 1) := ⟨RX3, TX3, 11, tyX3, "BrookStones", rfl, by decide, uw_X3, tyX3_ok, nmX3, rfl, Or.inl (tblG_of (i := 187) rfl rfl), fun _ => ⟨rfl, rfl⟩, fun h => absurd h (by decide)⟩
set_option maxRecDepth 100000 in
theorem fk_BrookStones_Planner_48 : fOK "BrookStones$Planner" false (48, 3, 7, 1) := ⟨RX3, TX3, 11, tyX3, "BrookStones", rfl, by decide, uw_X3, tyX3_ok, nmX3, rfl, Or.inl (tblG_of (i := 189) rfl rfl), fun _ => ⟨rfl, rfl⟩, fun h => absurd h (by decide)⟩
set_option maxRecDepth 100000 in
theorem fk_BrookStones_Planner_57 : fOK "BrookStones$Planner" false (57, 0, 12, 1) := ⟨RX0, TX0, 15, tyX0, "BrookStones", rfl, by decide, uw_X0, tyX0_ok, nmX0, rfl, Or.inr (tblN_of (i := 68) rfl rfl), fun _ => ⟨rfl, rfl⟩, fun h => absurd h (by decide)⟩
set_option maxRecDepth 100000 in
theorem fk_BrookStones_Planner_70 : fOK "BrookStones$Planner" false (70, 0, 13, 1) := ⟨RX0, TX0, 15, tyX0, "BrookStones", rfl, by decide, uw_X0, tyX0_ok, nmX0, rfl, Or.inr (tblN_of (i := 71) rfl rfl), fun _ => ⟨rfl, rfl⟩, fun h => absurd h (by decide)⟩
set_option maxRecDepth 100000 in
theorem fk_BrookStones_Planner_77 : fOK "BrookStones$Planner" false (77, 0, 8, 1) := ⟨RX0, TX0, 15, tyX0, "BrookStones", rfl, by decide, uw_X0, tyX0_ok, nmX0, rfl, Or.inr (tblN_of (i := 54) rfl rfl), fun _ => ⟨rfl, rfl⟩, fun h => absurd h (by decide)⟩
set_option maxRecDepth 100000 in
theorem fk_BrookStones_Planner_94 : fOK "BrookStones$Planner" false (94, 0, 11, 1) := ⟨RX0, TX0, 15, tyX0, "BrookStones", rfl, by decide, uw_X0, tyX0_ok, nmX0, rfl, Or.inr (tblN_of (i := 66) rfl rfl), fun _ => ⟨rfl, rfl⟩, fun h => absurd h (by decide)⟩
set_option maxRecDepth 100000 in
theorem fk_BrookStones_Planner_101 : fOK "BrookStones$Planner" false (101, 0, 10, 1) := ⟨RX0, TX0, 15, tyX0, "BrookStones", rfl, by decide, uw_X0, tyX0_ok, nmX0, rfl, Or.inr (tblN_of (i := 61) rfl rfl), fun _ => ⟨rfl, rfl⟩, fun h => absurd h (by decide)⟩
set_option maxRecDepth 100000 in
theorem fk_BrookStones_Planner_149 : fOK "BrookStones$Planner" false (149, 1, 2, 1) := ⟨RX1, TX1, 3, tyX1, "BrookStones", rfl, by decide, uw_X1, tyX1_ok, nmX1, rfl, Or.inr (tblN_of (i := 163) rfl rfl), fun _ => ⟨rfl, rfl⟩, fun h => absurd h (by decide)⟩
def fl_BrookStones_Planner : List (Nat × Nat × Nat × Nat) := [(12, 3, 0, 10), (18, 3, 1, 10), (22, 3, 2, 10), (25, 3, 3, 10), (28, 3, 4, 10), (31, 3, 5, 10), (34, 3, 8, 1), (38, 3, 9, 1), (41, 3, 10, 1), (45, 3, 6, 1), (48, 3, 7, 1), (57, 0, 12, 1), (70, 0, 13, 1), (77, 0, 8, 1), (94, 0, 11, 1), (101, 0, 10, 1), (149, 1, 2, 1)]
set_option maxRecDepth 100000 in
theorem fl_BrookStones_Planner_ok : ∀ q ∈ fl_BrookStones_Planner, fOK "BrookStones$Planner" false q := List.forall_mem_cons.mpr ⟨fk_BrookStones_Planner_12, List.forall_mem_cons.mpr ⟨fk_BrookStones_Planner_18, List.forall_mem_cons.mpr ⟨fk_BrookStones_Planner_22, List.forall_mem_cons.mpr ⟨fk_BrookStones_Planner_25, List.forall_mem_cons.mpr ⟨fk_BrookStones_Planner_28, List.forall_mem_cons.mpr ⟨fk_BrookStones_Planner_31, List.forall_mem_cons.mpr ⟨fk_BrookStones_Planner_34, List.forall_mem_cons.mpr ⟨fk_BrookStones_Planner_38, List.forall_mem_cons.mpr ⟨fk_BrookStones_Planner_41, List.forall_mem_cons.mpr ⟨fk_BrookStones_Planner_45, List.forall_mem_cons.mpr ⟨fk_BrookStones_Planner_48, List.forall_mem_cons.mpr ⟨fk_BrookStones_Planner_57, List.forall_mem_cons.mpr ⟨fk_BrookStones_Planner_70, List.forall_mem_cons.mpr ⟨fk_BrookStones_Planner_77, List.forall_mem_cons.mpr ⟨fk_BrookStones_Planner_94, List.forall_mem_cons.mpr ⟨fk_BrookStones_Planner_101, List.forall_mem_cons.mpr ⟨fk_BrookStones_Planner_149, fun _ h => absurd h List.not_mem_nil⟩⟩⟩⟩⟩⟩⟩⟩⟩⟩⟩⟩⟩⟩⟩⟩⟩
set_option maxRecDepth 100000 in
theorem fk_BrookStones_Planner_i_12 : fOK "BrookStones$Planner" true (12, 3, 0, 12) := ⟨RX3, TX3, 11, tyX3, "BrookStones", rfl, by decide, uw_X3, tyX3_ok, nmX3, rfl, Or.inl (tblG_of (i := 180) rfl rfl), fun h => absurd h (by decide), fun _ => ⟨rfl, rfl, rfl, Or.inl ⟨_, rfl⟩, tblG_of (i := 180) rfl rfl⟩⟩
set_option maxRecDepth 100000 in
theorem fk_BrookStones_Planner_i_18 : fOK "BrookStones$Planner" true (18, 3, 1, 12) := ⟨RX3, TX3, 11, tyX3, "BrookStones", rfl, by decide, uw_X3, tyX3_ok, nmX3, rfl, Or.inl (tblG_of (i := 181) rfl rfl), fun h => absurd h (by decide), fun _ => ⟨rfl, rfl, rfl, Or.inr ⟨_, rfl⟩, tblG_of (i := 181) rfl rfl⟩⟩
set_option maxRecDepth 100000 in
theorem fk_BrookStones_Planner_i_22 : fOK "BrookStones$Planner" true (22, 3, 2, 12) := ⟨RX3, TX3, 11, tyX3, "BrookStones", rfl, by decide, uw_X3, tyX3_ok, nmX3, rfl, Or.inl (tblG_of (i := 182) rfl rfl), fun h => absurd h (by decide), fun _ => ⟨rfl, rfl, rfl, Or.inr ⟨_, rfl⟩, tblG_of (i := 182) rfl rfl⟩⟩
set_option maxRecDepth 100000 in
theorem fk_BrookStones_Planner_i_25 : fOK "BrookStones$Planner" true (25, 3, 3, 12) := ⟨RX3, TX3, 11, tyX3, "BrookStones", rfl, by decide, uw_X3, tyX3_ok, nmX3, rfl, Or.inl (tblG_of (i := 184) rfl rfl), fun h => absurd h (by decide), fun _ => ⟨rfl, rfl, rfl, Or.inr ⟨_, rfl⟩, tblG_of (i := 184) rfl rfl⟩⟩
set_option maxRecDepth 100000 in
theorem fk_BrookStones_Planner_i_28 : fOK "BrookStones$Planner" true (28, 3, 4, 12) := ⟨RX3, TX3, 11, tyX3, "BrookStones", rfl, by decide, uw_X3, tyX3_ok, nmX3, rfl, Or.inl (tblG_of (i := 185) rfl rfl), fun h => absurd h (by decide), fun _ => ⟨rfl, rfl, rfl, Or.inr ⟨_, rfl⟩, tblG_of (i := 185) rfl rfl⟩⟩
set_option maxRecDepth 100000 in
theorem fk_BrookStones_Planner_i_31 : fOK "BrookStones$Planner" true (31, 3, 5, 12) := ⟨RX3, TX3, 11, tyX3, "BrookStones", rfl, by decide, uw_X3, tyX3_ok, nmX3, rfl, Or.inl (tblG_of (i := 186) rfl rfl), fun h => absurd h (by decide), fun _ => ⟨rfl, rfl, rfl, Or.inr ⟨_, rfl⟩, tblG_of (i := 186) rfl rfl⟩⟩
set_option maxRecDepth 100000 in
theorem fk_BrookStones_Planner_i_34 : fOK "BrookStones$Planner" true (34, 3, 8, 1) := ⟨RX3, TX3, 11, tyX3, "BrookStones", rfl, by decide, uw_X3, tyX3_ok, nmX3, rfl, Or.inl (tblG_of (i := 191) rfl rfl), fun _ => ⟨rfl, rfl⟩, fun h => absurd h (by decide)⟩
set_option maxRecDepth 100000 in
theorem fk_BrookStones_Planner_i_38 : fOK "BrookStones$Planner" true (38, 3, 9, 1) := ⟨RX3, TX3, 11, tyX3, "BrookStones", rfl, by decide, uw_X3, tyX3_ok, nmX3, rfl, Or.inl (tblG_of (i := 192) rfl rfl), fun _ => ⟨rfl, rfl⟩, fun h => absurd h (by decide)⟩
set_option maxRecDepth 100000 in
theorem fk_BrookStones_Planner_i_41 : fOK "BrookStones$Planner" true (41, 3, 10, 1) := ⟨RX3, TX3, 11, tyX3, "BrookStones", rfl, by decide, uw_X3, tyX3_ok, nmX3, rfl, Or.inl (tblG_of (i := 193) rfl rfl), fun _ => ⟨rfl, rfl⟩, fun h => absurd h (by decide)⟩
set_option maxRecDepth 100000 in
theorem fk_BrookStones_Planner_i_45 : fOK "BrookStones$Planner" true (45, 3, 6, 1) := ⟨RX3, TX3, 11, tyX3, "BrookStones", rfl, by decide, uw_X3, tyX3_ok, nmX3, rfl, Or.inl (tblG_of (i := 187) rfl rfl), fun _ => ⟨rfl, rfl⟩, fun h => absurd h (by decide)⟩
set_option maxRecDepth 100000 in
theorem fk_BrookStones_Planner_i_48 : fOK "BrookStones$Planner" true (48, 3, 7, 1) := ⟨RX3, TX3, 11, tyX3, "BrookStones", rfl, by decide, uw_X3, tyX3_ok, nmX3, rfl, Or.inl (tblG_of (i := 189) rfl rfl), fun _ => ⟨rfl, rfl⟩, fun h => absurd h (by decide)⟩
set_option maxRecDepth 100000 in
theorem fk_BrookStones_Planner_i_57 : fOK "BrookStones$Planner" true (57, 0, 12, 1) := ⟨RX0, TX0, 15, tyX0, "BrookStones", rfl, by decide, uw_X0, tyX0_ok, nmX0, rfl, Or.inr (tblN_of (i := 68) rfl rfl), fun _ => ⟨rfl, rfl⟩, fun h => absurd h (by decide)⟩
set_option maxRecDepth 100000 in
theorem fk_BrookStones_Planner_i_70 : fOK "BrookStones$Planner" true (70, 0, 13, 1) := ⟨RX0, TX0, 15, tyX0, "BrookStones", rfl, by decide, uw_X0, tyX0_ok, nmX0, rfl, Or.inr (tblN_of (i := 71) rfl rfl), fun _ => ⟨rfl, rfl⟩, fun h => absurd h (by decide)⟩
set_option maxRecDepth 100000 in
theorem fk_BrookStones_Planner_i_77 : fOK "BrookStones$Planner" true (77, 0, 8, 1) := ⟨RX0, TX0, 15, tyX0, "BrookStones", rfl, by decide, uw_X0, tyX0_ok, nmX0, rfl, Or.inr (tblN_of (i := 54) rfl rfl), fun _ => ⟨rfl, rfl⟩, fun h => absurd h (by decide)⟩
set_option maxRecDepth 100000 in
theorem fk_BrookStones_Planner_i_94 : fOK "BrookStones$Planner" true (94, 0, 11, 1) := ⟨RX0, TX0, 15, tyX0, "BrookStones", rfl, by decide, uw_X0, tyX0_ok, nmX0, rfl, Or.inr (tblN_of (i := 66) rfl rfl), fun _ => ⟨rfl, rfl⟩, fun h => absurd h (by decide)⟩
set_option maxRecDepth 100000 in
theorem fk_BrookStones_Planner_i_101 : fOK "BrookStones$Planner" true (101, 0, 10, 1) := ⟨RX0, TX0, 15, tyX0, "BrookStones", rfl, by decide, uw_X0, tyX0_ok, nmX0, rfl, Or.inr (tblN_of (i := 61) rfl rfl), fun _ => ⟨rfl, rfl⟩, fun h => absurd h (by decide)⟩
set_option maxRecDepth 100000 in
theorem fk_BrookStones_Planner_i_149 : fOK "BrookStones$Planner" true (149, 1, 2, 1) := ⟨RX1, TX1, 3, tyX1, "BrookStones", rfl, by decide, uw_X1, tyX1_ok, nmX1, rfl, Or.inr (tblN_of (i := 163) rfl rfl), fun _ => ⟨rfl, rfl⟩, fun h => absurd h (by decide)⟩
def fl_BrookStones_Planner_i : List (Nat × Nat × Nat × Nat) := [(12, 3, 0, 12), (18, 3, 1, 12), (22, 3, 2, 12), (25, 3, 3, 12), (28, 3, 4, 12), (31, 3, 5, 12), (34, 3, 8, 1), (38, 3, 9, 1), (41, 3, 10, 1), (45, 3, 6, 1), (48, 3, 7, 1), (57, 0, 12, 1), (70, 0, 13, 1), (77, 0, 8, 1), (94, 0, 11, 1), (101, 0, 10, 1), (149, 1, 2, 1)]
set_option maxRecDepth 100000 in
theorem fl_BrookStones_Planner_i_ok : ∀ q ∈ fl_BrookStones_Planner_i, fOK "BrookStones$Planner" true q := List.forall_mem_cons.mpr ⟨fk_BrookStones_Planner_i_12, List.forall_mem_cons.mpr ⟨fk_BrookStones_Planner_i_18, List.forall_mem_cons.mpr ⟨fk_BrookStones_Planner_i_22, List.forall_mem_cons.mpr ⟨fk_BrookStones_Planner_i_25, List.forall_mem_cons.mpr ⟨fk_BrookStones_Planner_i_28, List.forall_mem_cons.mpr ⟨fk_BrookStones_Planner_i_31, List.forall_mem_cons.mpr ⟨fk_BrookStones_Planner_i_34, List.forall_mem_cons.mpr ⟨fk_BrookStones_Planner_i_38, List.forall_mem_cons.mpr ⟨fk_BrookStones_Planner_i_41, List.forall_mem_cons.mpr ⟨fk_BrookStones_Planner_i_45, List.forall_mem_cons.mpr ⟨fk_BrookStones_Planner_i_48, List.forall_mem_cons.mpr ⟨fk_BrookStones_Planner_i_57, List.forall_mem_cons.mpr ⟨fk_BrookStones_Planner_i_70, List.forall_mem_cons.mpr ⟨fk_BrookStones_Planner_i_77, List.forall_mem_cons.mpr ⟨fk_BrookStones_Planner_i_94, List.forall_mem_cons.mpr ⟨fk_BrookStones_Planner_i_101, List.forall_mem_cons.mpr ⟨fk_BrookStones_Planner_i_149, fun _ h => absurd h List.not_mem_nil⟩⟩⟩⟩⟩⟩⟩⟩⟩⟩⟩⟩⟩⟩⟩⟩⟩
set_option maxRecDepth 100000 in
theorem fk_BrookStones_Sheets_9 : fOK "BrookStones$Sheets" false (9, 4, 0, 10) := ⟨RX4, TX4, 3, tyX4, "BrookStones", rfl, by decide, uw_X4, tyX4_ok, nmX4, rfl, Or.inl (tblG_of (i := 114) rfl rfl), fun h => absurd h (by decide), fun h => absurd h (by decide)⟩
set_option maxRecDepth 100000 in
theorem fk_BrookStones_Sheets_15 : fOK "BrookStones$Sheets" false (15, 4, 1, 10) := ⟨RX4, TX4, 3, tyX4, "BrookStones", rfl, by decide, uw_X4, tyX4_ok, nmX4, rfl, Or.inl (tblG_of (i := 116) rfl rfl), fun h => absurd h (by decide), fun h => absurd h (by decide)⟩
set_option maxRecDepth 100000 in
theorem fk_BrookStones_Sheets_18 : fOK "BrookStones$Sheets" false (18, 4, 2, 10) := ⟨RX4, TX4, 3, tyX4, "BrookStones", rfl, by decide, uw_X4, tyX4_ok, nmX4, rfl, Or.inl (tblG_of (i := 118) rfl rfl), fun h => absurd h (by decide), fun h => absurd h (by decide)⟩
def fl_BrookStones_Sheets : List (Nat × Nat × Nat × Nat) := [(9, 4, 0, 10), (15, 4, 1, 10), (18, 4, 2, 10)]
set_option maxRecDepth 100000 in
theorem fl_BrookStones_Sheets_ok : ∀ q ∈ fl_BrookStones_Sheets, fOK "BrookStones$Sheets" false q := List.forall_mem_cons.mpr ⟨fk_BrookStones_Sheets_9, List.forall_mem_cons.mpr ⟨fk_BrookStones_Sheets_15, List.forall_mem_cons.mpr ⟨fk_BrookStones_Sheets_18, fun _ h => absurd h List.not_mem_nil⟩⟩⟩
set_option maxRecDepth 100000 in
theorem fk_BrookStones_Sheets_i_9 : fOK "BrookStones$Sheets" true (9, 4, 0, 12) := ⟨RX4, TX4, 3, tyX4, "BrookStones", rfl, by decide, uw_X4, tyX4_ok, nmX4, rfl, Or.inl (tblG_of (i := 114) rfl rfl), fun h => absurd h (by decide), fun _ => ⟨rfl, rfl, rfl, Or.inr ⟨_, rfl⟩, tblG_of (i := 114) rfl rfl⟩⟩
set_option maxRecDepth 100000 in
theorem fk_BrookStones_Sheets_i_15 : fOK "BrookStones$Sheets" true (15, 4, 1, 12) := ⟨RX4, TX4, 3, tyX4, "BrookStones", rfl, by decide, uw_X4, tyX4_ok, nmX4, rfl, Or.inl (tblG_of (i := 116) rfl rfl), fun h => absurd h (by decide), fun _ => ⟨rfl, rfl, rfl, Or.inr ⟨_, rfl⟩, tblG_of (i := 116) rfl rfl⟩⟩
set_option maxRecDepth 100000 in
theorem fk_BrookStones_Sheets_i_18 : fOK "BrookStones$Sheets" true (18, 4, 2, 12) := ⟨RX4, TX4, 3, tyX4, "BrookStones", rfl, by decide, uw_X4, tyX4_ok, nmX4, rfl, Or.inl (tblG_of (i := 118) rfl rfl), fun h => absurd h (by decide), fun _ => ⟨rfl, rfl, rfl, Or.inr ⟨_, rfl⟩, tblG_of (i := 118) rfl rfl⟩⟩
def fl_BrookStones_Sheets_i : List (Nat × Nat × Nat × Nat) := [(9, 4, 0, 12), (15, 4, 1, 12), (18, 4, 2, 12)]
set_option maxRecDepth 100000 in
theorem fl_BrookStones_Sheets_i_ok : ∀ q ∈ fl_BrookStones_Sheets_i, fOK "BrookStones$Sheets" true q := List.forall_mem_cons.mpr ⟨fk_BrookStones_Sheets_i_9, List.forall_mem_cons.mpr ⟨fk_BrookStones_Sheets_i_15, List.forall_mem_cons.mpr ⟨fk_BrookStones_Sheets_i_18, fun _ h => absurd h List.not_mem_nil⟩⟩⟩
set_option maxRecDepth 100000 in
theorem fk_BrookStones_Text_34 : fOK "BrookStones$Text" false (34, 0, 0, 10) := ⟨RX0, TX0, 15, tyX0, "BrookStones", rfl, by decide, uw_X0, tyX0_ok, nmX0, rfl, Or.inr (tblN_of (i := 32) rfl rfl), fun h => absurd h (by decide), fun h => absurd h (by decide)⟩
set_option maxRecDepth 100000 in
theorem fk_BrookStones_Text_40 : fOK "BrookStones$Text" false (40, 0, 1, 10) := ⟨RX0, TX0, 15, tyX0, "BrookStones", rfl, by decide, uw_X0, tyX0_ok, nmX0, rfl, Or.inr (tblN_of (i := 35) rfl rfl), fun h => absurd h (by decide), fun h => absurd h (by decide)⟩
set_option maxRecDepth 100000 in
theorem fk_BrookStones_Text_43 : fOK "BrookStones$Text" false (43, 0, 9, 1) := ⟨RX0, TX0, 15, tyX0, "BrookStones", rfl, by decide, uw_X0, tyX0_ok, nmX0, rfl, Or.inr (tblN_of (i := 57) rfl rfl), fun _ => ⟨rfl, rfl⟩, fun h => absurd h (by decide)⟩
set_option maxRecDepth 100000 in
theorem fk_BrookStones_Text_47 : fOK "BrookStones$Text" false (47, 0, 8, 1) := ⟨RX0, TX0, 15, tyX0, "BrookStones", rfl, by decide, uw_X0, tyX0_ok, nmX0, rfl, Or.inr (tblN_of (i := 56) rfl rfl), fun _ => ⟨rfl, rfl⟩, fun h => absurd h (by decide)⟩
def fl_BrookStones_Text : List (Nat × Nat × Nat × Nat) := [(34, 0, 0, 10), (40, 0, 1, 10), (43, 0, 9, 1), (47, 0, 8, 1)]
set_option maxRecDepth 100000 in
theorem fl_BrookStones_Text_ok : ∀ q ∈ fl_BrookStones_Text, fOK "BrookStones$Text" false q := List.forall_mem_cons.mpr ⟨fk_BrookStones_Text_34, List.forall_mem_cons.mpr ⟨fk_BrookStones_Text_40, List.forall_mem_cons.mpr ⟨fk_BrookStones_Text_43, List.forall_mem_cons.mpr ⟨fk_BrookStones_Text_47, fun _ h => absurd h List.not_mem_nil⟩⟩⟩⟩
set_option maxRecDepth 100000 in
theorem fk_BrookStones_Text_i_34 : fOK "BrookStones$Text" true (34, 0, 0, 10) := ⟨RX0, TX0, 15, tyX0, "BrookStones", rfl, by decide, uw_X0, tyX0_ok, nmX0, rfl, Or.inr (tblN_of (i := 32) rfl rfl), fun h => absurd h (by decide), fun h => absurd h (by decide)⟩
set_option maxRecDepth 100000 in
theorem fk_BrookStones_Text_i_40 : fOK "BrookStones$Text" true (40, 0, 1, 10) := ⟨RX0, TX0, 15, tyX0, "BrookStones", rfl, by decide, uw_X0, tyX0_ok, nmX0, rfl, Or.inr (tblN_of (i := 35) rfl rfl), fun h => absurd h (by decide), fun h => absurd h (by decide)⟩
set_option maxRecDepth 100000 in
theorem fk_BrookStones_Text_i_43 : fOK "BrookStones$Text" true (43, 0, 9, 1) := ⟨RX0, TX0, 15, tyX0, "BrookStones", rfl, by decide, uw_X0, tyX0_ok, nmX0, rfl, Or.inr (tblN_of (i := 57) rfl rfl), fun _ => ⟨rfl, rfl⟩, fun h => absurd h (by decide)⟩
set_option maxRecDepth 100000 in
theorem fk_BrookStones_Text_i_47 : fOK "BrookStones$Text" true (47, 0, 8, 1) := ⟨RX0, TX0, 15, tyX0, "BrookStones", rfl, by decide, uw_X0, tyX0_ok, nmX0, rfl, Or.inr (tblN_of (i := 56) rfl rfl), fun _ => ⟨rfl, rfl⟩, fun h => absurd h (by decide)⟩
def fl_BrookStones_Text_i : List (Nat × Nat × Nat × Nat) := [(34, 0, 0, 10), (40, 0, 1, 10), (43, 0, 9, 1), (47, 0, 8, 1)]
set_option maxRecDepth 100000 in
theorem fl_BrookStones_Text_i_ok : ∀ q ∈ fl_BrookStones_Text_i, fOK "BrookStones$Text" true q := List.forall_mem_cons.mpr ⟨fk_BrookStones_Text_i_34, List.forall_mem_cons.mpr ⟨fk_BrookStones_Text_i_40, List.forall_mem_cons.mpr ⟨fk_BrookStones_Text_i_43, List.forall_mem_cons.mpr ⟨fk_BrookStones_Text_i_47, fun _ h => absurd h List.not_mem_nil⟩⟩⟩⟩
set_option maxRecDepth 100000 in
theorem fk_BrookStones_Way_9 : fOK "BrookStones$Way" false (9, 5, 0, 10) := ⟨RX6, TX6, 6, tyX6, "BrookStones", rfl, by decide, uw_X6, tyX6_ok, nmX6, rfl, Or.inl (tblG_of (i := 132) rfl rfl), fun h => absurd h (by decide), fun h => absurd h (by decide)⟩
set_option maxRecDepth 100000 in
theorem fk_BrookStones_Way_15 : fOK "BrookStones$Way" false (15, 5, 1, 10) := ⟨RX6, TX6, 6, tyX6, "BrookStones", rfl, by decide, uw_X6, tyX6_ok, nmX6, rfl, Or.inl (tblG_of (i := 134) rfl rfl), fun h => absurd h (by decide), fun h => absurd h (by decide)⟩
set_option maxRecDepth 100000 in
theorem fk_BrookStones_Way_18 : fOK "BrookStones$Way" false (18, 5, 5, 1) := ⟨RX6, TX6, 6, tyX6, "BrookStones", rfl, by decide, uw_X6, tyX6_ok, nmX6, rfl, Or.inl (tblG_of (i := 138) rfl rfl), fun _ => ⟨rfl, rfl⟩, fun h => absurd h (by decide)⟩
set_option maxRecDepth 100000 in
theorem fk_BrookStones_Way_22 : fOK "BrookStones$Way" false (22, 0, 8, 1) := ⟨RX0, TX0, 15, tyX0, "BrookStones", rfl, by decide, uw_X0, tyX0_ok, nmX0, rfl, Or.inr (tblN_of (i := 50) rfl rfl), fun _ => ⟨rfl, rfl⟩, fun h => absurd h (by decide)⟩
set_option maxRecDepth 100000 in
theorem fk_BrookStones_Way_27 : fOK "BrookStones$Way" false (27, 5, 4, 1) := ⟨RX6, TX6, 6, tyX6, "BrookStones", rfl, by decide, uw_X6, tyX6_ok, nmX6, rfl, Or.inl (tblG_of (i := 137) rfl rfl), fun _ => ⟨rfl, rfl⟩, fun h => absurd h (by decide)⟩
set_option maxRecDepth 100000 in
theorem fk_BrookStones_Way_30 : fOK "BrookStones$Way" false (30, 0, 11, 1) := ⟨RX0, TX0, 15, tyX0, "BrookStones", rfl, by decide, uw_X0, tyX0_ok, nmX0, rfl, Or.inr (tblN_of (i := 63) rfl rfl), fun _ => ⟨rfl, rfl⟩, fun h => absurd h (by decide)⟩
set_option maxRecDepth 100000 in
theorem fk_BrookStones_Way_37 : fOK "BrookStones$Way" false (37, 5, 2, 1) := ⟨RX6, TX6, 6, tyX6, "BrookStones", rfl, by decide, uw_X6, tyX6_ok, nmX6, rfl, Or.inl (tblG_of (i := 135) rfl rfl), fun _ => ⟨rfl, rfl⟩, fun h => absurd h (by decide)⟩
set_option maxRecDepth 100000 in
theorem fk_BrookStones_Way_43 : fOK "BrookStones$Way" false (43, 5, 3, 1) := ⟨RX6, TX6, 6, tyX6, "BrookStones", rfl, by decide, uw_X6, tyX6_ok, nmX6, rfl, Or.inl (tblG_of (i := 136) rfl rfl), fun _ => ⟨rfl, rfl⟩, fun h => absurd h (by decide)⟩
def fl_BrookStones_Way : List (Nat × Nat × Nat × Nat) := [(9, 5, 0, 10), (15, 5, 1, 10), (18, 5, 5, 1), (22, 0, 8, 1), (27, 5, 4, 1), (30, 0, 11, 1), (37, 5, 2, 1), (43, 5, 3, 1)]
set_option maxRecDepth 100000 in
theorem fl_BrookStones_Way_ok : ∀ q ∈ fl_BrookStones_Way, fOK "BrookStones$Way" false q := List.forall_mem_cons.mpr ⟨fk_BrookStones_Way_9, List.forall_mem_cons.mpr ⟨fk_BrookStones_Way_15, List.forall_mem_cons.mpr ⟨fk_BrookStones_Way_18, List.forall_mem_cons.mpr ⟨fk_BrookStones_Way_22, List.forall_mem_cons.mpr ⟨fk_BrookStones_Way_27, List.forall_mem_cons.mpr ⟨fk_BrookStones_Way_30, List.forall_mem_cons.mpr ⟨fk_BrookStones_Way_37, List.forall_mem_cons.mpr ⟨fk_BrookStones_Way_43, fun _ h => absurd h List.not_mem_nil⟩⟩⟩⟩⟩⟩⟩⟩
set_option maxRecDepth 100000 in
theorem fk_BrookStones_Way_i_9 : fOK "BrookStones$Way" true (9, 5, 0, 12) := ⟨RX6, TX6, 6, tyX6, "BrookStones", rfl, by decide, uw_X6, tyX6_ok, nmX6, rfl, Or.inl (tblG_of (i := 132) rfl rfl), fun h => absurd h (by decide), fun _ => ⟨rfl, rfl, rfl, Or.inr ⟨_, rfl⟩, tblG_of (i := 132) rfl rfl⟩⟩
set_option maxRecDepth 100000 in
theorem fk_BrookStones_Way_i_15 : fOK "BrookStones$Way" true (15, 5, 1, 12) := ⟨RX6, TX6, 6, tyX6, "BrookStones", rfl, by decide, uw_X6, tyX6_ok, nmX6, rfl, Or.inl (tblG_of (i := 134) rfl rfl), fun h => absurd h (by decide), fun _ => ⟨rfl, rfl, rfl, Or.inr ⟨_, rfl⟩, tblG_of (i := 134) rfl rfl⟩⟩
set_option maxRecDepth 100000 in
theorem fk_BrookStones_Way_i_18 : fOK "BrookStones$Way" true (18, 5, 5, 1) := ⟨RX6, TX6, 6, tyX6, "BrookStones", rfl, by decide, uw_X6, tyX6_ok, nmX6, rfl, Or.inl (tblG_of (i := 138) rfl rfl), fun _ => ⟨rfl, rfl⟩, fun h => absurd h (by decide)⟩
set_option maxRecDepth 100000 in
theorem fk_BrookStones_Way_i_22 : fOK "BrookStones$Way" true (22, 0, 8, 1) := ⟨RX0, TX0, 15, tyX0, "BrookStones", rfl, by decide, uw_X0, tyX0_ok, nmX0, rfl, Or.inr (tblN_of (i := 50) rfl rfl), fun _ => ⟨rfl, rfl⟩, fun h => absurd h (by decide)⟩
set_option maxRecDepth 100000 in
theorem fk_BrookStones_Way_i_27 : fOK "BrookStones$Way" true (27, 5, 4, 1) := ⟨RX6, TX6, 6, tyX6, "BrookStones", rfl, by decide, uw_X6, tyX6_ok, nmX6, rfl, Or.inl (tblG_of (i := 137) rfl rfl), fun _ => ⟨rfl, rfl⟩, fun h => absurd h (by decide)⟩
set_option maxRecDepth 100000 in
theorem fk_BrookStones_Way_i_30 : fOK "BrookStones$Way" true (30, 0, 11, 1) := ⟨RX0, TX0, 15, tyX0, "BrookStones", rfl, by decide, uw_X0, tyX0_ok, nmX0, rfl, Or.inr (tblN_of (i := 63) rfl rfl), fun _ => ⟨rfl, rfl⟩, fun h => absurd h (by decide)⟩
set_option maxRecDepth 100000 in
theorem fk_BrookStones_Way_i_37 : fOK "BrookStones$Way" true (37, 5, 2, 1) := ⟨RX6, TX6, 6, tyX6, "BrookStones", rfl, by decide, uw_X6, tyX6_ok, nmX6, rfl, Or.inl (tblG_of (i := 135) rfl rfl), fun _ => ⟨rfl, rfl⟩, fun h => absurd h (by decide)⟩
set_option maxRecDepth 100000 in
theorem fk_BrookStones_Way_i_43 : fOK "BrookStones$Way" true (43, 5, 3, 1) := ⟨RX6, TX6, 6, tyX6, "BrookStones", rfl, by decide, uw_X6, tyX6_ok, nmX6, rfl, Or.inl (tblG_of (i := 136) rfl rfl), fun _ => ⟨rfl, rfl⟩, fun h => absurd h (by decide)⟩
def fl_BrookStones_Way_i : List (Nat × Nat × Nat × Nat) := [(9, 5, 0, 12), (15, 5, 1, 12), (18, 5, 5, 1), (22, 0, 8, 1), (27, 5, 4, 1), (30, 0, 11, 1), (37, 5, 2, 1), (43, 5, 3, 1)]
set_option maxRecDepth 100000 in
theorem fl_BrookStones_Way_i_ok : ∀ q ∈ fl_BrookStones_Way_i, fOK "BrookStones$Way" true q := List.forall_mem_cons.mpr ⟨fk_BrookStones_Way_i_9, List.forall_mem_cons.mpr ⟨fk_BrookStones_Way_i_15, List.forall_mem_cons.mpr ⟨fk_BrookStones_Way_i_18, List.forall_mem_cons.mpr ⟨fk_BrookStones_Way_i_22, List.forall_mem_cons.mpr ⟨fk_BrookStones_Way_i_27, List.forall_mem_cons.mpr ⟨fk_BrookStones_Way_i_30, List.forall_mem_cons.mpr ⟨fk_BrookStones_Way_i_37, List.forall_mem_cons.mpr ⟨fk_BrookStones_Way_i_43, fun _ h => absurd h List.not_mem_nil⟩⟩⟩⟩⟩⟩⟩⟩
set_option maxRecDepth 100000 in
theorem fk_BrookStonesModel_9 : fOK "BrookStonesModel" false (9, 7, 2, 10) := ⟨RX8, TX8, 37, tyX8, "BrookStones", rfl, by decide, uw_X8, tyX8_ok, nmX8, rfl, Or.inl (tblG_of (i := 737) rfl rfl), fun h => absurd h (by decide), fun h => absurd h (by decide)⟩
set_option maxRecDepth 100000 in
theorem fk_BrookStonesModel_13 : fOK "BrookStonesModel" false (13, 7, 3, 10) := ⟨RX8, TX8, 37, tyX8, "BrookStones", rfl, by decide, uw_X8, tyX8_ok, nmX8, rfl, Or.inl (tblG_of (i := 738) rfl rfl), fun h => absurd h (by decide), fun h => absurd h (by decide)⟩
set_option maxRecDepth 100000 in
theorem fk_BrookStonesModel_16 : fOK "BrookStonesModel" false (16, 7, 4, 10) := ⟨RX8, TX8, 37, tyX8, "BrookStones", rfl, by decide, uw_X8, tyX8_ok, nmX8, rfl, Or.inl (tblG_of (i := 739) rfl rfl), fun h => absurd h (by decide), fun h => absurd h (by decide)⟩
set_option maxRecDepth 100000 in
theorem fk_BrookStonesModel_19 : fOK "BrookStonesModel" false (19, 7, 8, 10) := ⟨RX8, TX8, 37, tyX8, "BrookStones", rfl, by decide, uw_X8, tyX8_ok, nmX8, rfl, Or.inl (tblG_of (i := 743) rfl rfl), fun h => absurd h (by decide), fun h => absurd h (by decide)⟩
set_option maxRecDepth 100000 in
theorem fk_BrookStonesModel_22 : fOK "BrookStonesModel" false (22, 7, 9, 10) := ⟨RX8, TX8, 37, tyX8, "BrookStones", rfl, by decide, uw_X8, tyX8_ok, nmX8, rfl, Or.inl (tblG_of (i := 744) rfl rfl), fun h => absurd h (by decide), fun h => absurd h (by decide)⟩
set_option maxRecDepth 100000 in
theorem fk_BrookStonesModel_25 : fOK "BrookStonesModel" false (25, 7, 10, 10) := ⟨RX8, TX8, 37, tyX8, "BrookStones", rfl, by decide, uw_X8, tyX8_ok, nmX8, rfl, Or.inl (tblG_of (i := 745) rfl rfl), fun h => absurd h (by decide), fun h => absurd h (by decide)⟩
set_option maxRecDepth 100000 in
theorem fk_BrookStonesModel_29 : fOK "BrookStonesModel" false (29, 7, 11, 10) := ⟨RX8, TX8, 37, tyX8, "BrookStones", rfl, by decide, uw_X8, tyX8_ok, nmX8, rfl, Or.inl (tblG_of (i := 746) rfl rfl), fun h => absurd h (by decide), fun h => absurd h (by decide)⟩
set_option maxRecDepth 100000 in
theorem fk_BrookStonesModel_32 : fOK "BrookStonesModel" false (32, 7, 15, 10) := ⟨RX8, TX8, 37, tyX8, "BrookStones", rfl, by decide, uw_X8, tyX8_ok, nmX8, rfl, Or.inl (tblG_of (i := 750) rfl rfl), fun h => absurd h (by decide), fun h => absurd h (by decide)⟩
set_option maxRecDepth 100000 in
theorem fk_BrookStonesModel_35 : fOK "BrookStonesModel" false (35, 7, 16, 10) := ⟨RX8, TX8, 37, tyX8, "BrookStones", rfl, by decide, uw_X8, tyX8_ok, nmX8, rfl, Or.inl (tblG_of (i := 751) rfl rfl), fun h => absurd h (by decide), fun h => absurd h (by decide)⟩
set_option maxRecDepth 100000 in
theorem fk_BrookStonesModel_38 : fOK "BrookStonesModel" false (38, 7, 18, 10) := ⟨RX8, TX8, 37, tyX8, "BrookStones", rfl, by decide, uw_X8, tyX8_ok, nmX8, rfl, Or.inl (tblG_of (i := 753) rfl rfl), fun h => absurd h (by decide), fun h => absurd h (by decide)⟩
set_option maxRecDepth 100000 in
theorem fk_BrookStonesModel_41 : fOK "BrookStonesModel" false (41, 7, 19, 10) := ⟨RX8, TX8, 37, tyX8, "BrookStones", rfl, by decide, uw_X8, tyX8_ok, nmX8, rfl, Or.inl (tblG_of (i := 754) rfl rfl), fun h => absurd h (by decide), fun h => absurd h (by decide)⟩
set_option maxRecDepth 100000 in
theorem fk_BrookStonesModel_44 : fOK "BrookStonesModel" false (44, 7, 20, 10) := ⟨RX8, TX8, 37, tyX8, "BrookStones", rfl, by decide, uw_X8, tyX8_ok, nmX8, rfl, Or.inl (tblG_of (i := 755) rfl rfl), fun h => absurd h (by decide), fun h => absurd h (by decide)⟩
set_option maxRecDepth 100000 in
theorem fk_BrookStonesModel_47 : fOK "BrookStonesModel" false (47, 7, 21, 10) := ⟨RX8, TX8, 37, tyX8, "BrookStones", rfl, by decide, uw_X8, tyX8_ok, nmX8, rfl, Or.inl (tblG_of (i := 756) rfl rfl), fun h => absurd h (by decide), fun h => absurd h (by decide)⟩
set_option maxRecDepth 100000 in
theorem fk_BrookStonesModel_50 : fOK "BrookStonesModel" false (50, 7, 22, 10) := ⟨RX8, TX8, 37, tyX8, "BrookStones", rfl, by decide, uw_X8, tyX8_ok, nmX8, rfl, Or.inl (tblG_of (i := 757) rfl rfl), fun h => absurd h (by decide), fun h => absurd h (by decide)⟩
set_option maxRecDepth 100000 in
theorem fk_BrookStonesModel_53 : fOK "BrookStonesModel" false (53, 7, 24, 10) := ⟨RX8, TX8, 37, tyX8, "BrookStones", rfl, by decide, uw_X8, tyX8_ok, nmX8, rfl, Or.inl (tblG_of (i := 759) rfl rfl), fun h => absurd h (by decide), fun h => absurd h (by decide)⟩
set_option maxRecDepth 100000 in
theorem fk_BrookStonesModel_56 : fOK "BrookStonesModel" false (56, 7, 25, 10) := ⟨RX8, TX8, 37, tyX8, "BrookStones", rfl, by decide, uw_X8, tyX8_ok, nmX8, rfl, Or.inl (tblG_of (i := 760) rfl rfl), fun h => absurd h (by decide), fun h => absurd h (by decide)⟩
set_option maxRecDepth 100000 in
theorem fk_BrookStonesModel_59 : fOK "BrookStonesModel" false (59, 7, 27, 10) := ⟨RX8, TX8, 37, tyX8, "BrookStones", rfl, by decide, uw_X8, tyX8_ok, nmX8, rfl, Or.inl (tblG_of (i := 762) rfl rfl), fun h => absurd h (by decide), fun h => absurd h (by decide)⟩
set_option maxRecDepth 100000 in
theorem fk_BrookStonesModel_62 : fOK "BrookStonesModel" false (62, 7, 28, 10) := ⟨RX8, TX8, 37, tyX8, "BrookStones", rfl, by decide, uw_X8, tyX8_ok, nmX8, rfl, Or.inl (tblG_of (i := 763) rfl rfl), fun h => absurd h (by decide), fun h => absurd h (by decide)⟩
set_option maxRecDepth 100000 in
theorem fk_BrookStonesModel_65 : fOK "BrookStonesModel" false (65, 7, 29, 10) := ⟨RX8, TX8, 37, tyX8, "BrookStones", rfl, by decide, uw_X8, tyX8_ok, nmX8, rfl, Or.inl (tblG_of (i := 764) rfl rfl), fun h => absurd h (by decide), fun h => absurd h (by decide)⟩
set_option maxRecDepth 100000 in
theorem fk_BrookStonesModel_68 : fOK "BrookStonesModel" false (68, 7, 30, 10) := ⟨RX8, TX8, 37, tyX8, "BrookStones", rfl, by decide, uw_X8, tyX8_ok, nmX8, rfl, Or.inl (tblG_of (i := 765) rfl rfl), fun h => absurd h (by decide), fun h => absurd h (by decide)⟩
set_option maxRecDepth 100000 in
theorem fk_BrookStonesModel_71 : fOK "BrookStonesModel" false (71, 7, 31, 1) := ⟨RX8, TX8, 37, tyX8, "BrookStones", rfl, by decide, uw_X8, tyX8_ok, nmX8, rfl, Or.inl (tblG_of (i := 766) rfl rfl), fun _ => ⟨rfl, rfl⟩, fun h => absurd h (by decide)⟩
set_option maxRecDepth 100000 in
theorem fk_BrookStonesModel_75 : fOK "BrookStonesModel" false (75, 7, 32, 10) := ⟨RX8, TX8, 37, tyX8, "BrookStones", rfl, by decide, uw_X8, tyX8_ok, nmX8, rfl, Or.inl (tblG_of (i := 767) rfl rfl), fun h => absurd h (by decide), fun h => absurd h (by decide)⟩
set_option maxRecDepth 100000 in
theorem fk_BrookStonesModel_78 : fOK "BrookStonesModel" false (78, 7, 33, 10) := ⟨RX8, TX8, 37, tyX8, "BrookStones", rfl, by decide, uw_X8, tyX8_ok, nmX8, rfl, Or.inl (tblG_of (i := 768) rfl rfl), fun h => absurd h (by decide), fun h => absurd h (by decide)⟩
set_option maxRecDepth 100000 in
theorem fk_BrookStonesModel_81 : fOK "BrookStonesModel" false (81, 7, 36, 10) := ⟨RX8, TX8, 37, tyX8, "BrookStones", rfl, by decide, uw_X8, tyX8_ok, nmX8, rfl, Or.inl (tblG_of (i := 771) rfl rfl), fun h => absurd h (by decide), fun h => absurd h (by decide)⟩
set_option maxRecDepth 100000 in
theorem fk_BrookStonesModel_84 : fOK "BrookStonesModel" false (84, 7, 0, 1) := ⟨RX8, TX8, 37, tyX8, "BrookStones", rfl, by decide, uw_X8, tyX8_ok, nmX8, rfl, Or.inl (tblG_of (i := 735) rfl rfl), fun _ => ⟨rfl, rfl⟩, fun h => absurd h (by decide)⟩
set_option maxRecDepth 100000 in
theorem fk_BrookStonesModel_93 : fOK "BrookStonesModel" false (93, 7, 5, 1) := ⟨RX8, TX8, 37, tyX8, "BrookStones", rfl, by decide, uw_X8, tyX8_ok, nmX8, rfl, Or.inl (tblG_of (i := 740) rfl rfl), fun _ => ⟨rfl, rfl⟩, fun h => absurd h (by decide)⟩
set_option maxRecDepth 100000 in
theorem fk_BrookStonesModel_96 : fOK "BrookStonesModel" false (96, 7, 12, 1) := ⟨RX8, TX8, 37, tyX8, "BrookStones", rfl, by decide, uw_X8, tyX8_ok, nmX8, rfl, Or.inl (tblG_of (i := 747) rfl rfl), fun _ => ⟨rfl, rfl⟩, fun h => absurd h (by decide)⟩
set_option maxRecDepth 100000 in
theorem fk_BrookStonesModel_117 : fOK "BrookStonesModel" false (117, 7, 13, 1) := ⟨RX8, TX8, 37, tyX8, "BrookStones", rfl, by decide, uw_X8, tyX8_ok, nmX8, rfl, Or.inl (tblG_of (i := 748) rfl rfl), fun _ => ⟨rfl, rfl⟩, fun h => absurd h (by decide)⟩
set_option maxRecDepth 100000 in
theorem fk_BrookStonesModel_120 : fOK "BrookStonesModel" false (120, 7, 14, 1) := ⟨RX8, TX8, 37, tyX8, "BrookStones", rfl, by decide, uw_X8, tyX8_ok, nmX8, rfl, Or.inl (tblG_of (i := 749) rfl rfl), fun _ => ⟨rfl, rfl⟩, fun h => absurd h (by decide)⟩
set_option maxRecDepth 100000 in
theorem fk_BrookStonesModel_123 : fOK "BrookStonesModel" false (123, 7, 6, 1) := ⟨RX8, TX8, 37, tyX8, "BrookStones", rfl, by decide, uw_X8, tyX8_ok, nmX8, rfl, Or.inl (tblG_of (i := 741) rfl rfl), fun _ => ⟨rfl, rfl⟩, fun h => absurd h (by decide)⟩
set_option maxRecDepth 100000 in
theorem fk_BrookStonesModel_126 : fOK "BrookStonesModel" false (126, 7, 7, 1) := ⟨RX8, TX8, 37, tyX8, "BrookStones", rfl, by decide, uw_X8, tyX8_ok, nmX8, rfl, Or.inl (tblG_of (i := 742) rfl rfl), fun _ => ⟨rfl, rfl⟩, fun h => absurd h (by decide)⟩
set_option maxRecDepth 100000 in
theorem fk_BrookStonesModel_129 : fOK "BrookStonesModel" false (129, 7, 17, 1) := ⟨RX8, TX8, 37, tyX8, "BrookStones", rfl, by decide, uw_X8, tyX8_ok, nmX8, rfl, Or.inl (tblG_of (i := 752) rfl rfl), fun _ => ⟨rfl, rfl⟩, fun h => absurd h (by decide)⟩
set_option maxRecDepth 100000 in
theorem fk_BrookStonesModel_132 : fOK "BrookStonesModel" false (132, 7, 23, 1) := ⟨RX8, TX8, 37, tyX8, "BrookStones", rfl, by decide, uw_X8, tyX8_ok, nmX8, rfl, Or.inl (tblG_of (i := 758) rfl rfl), fun _ => ⟨rfl, rfl⟩, fun h => absurd h (by decide)⟩
set_option maxRecDepth 100000 in
theorem fk_BrookStonesModel_161 : fOK "BrookStonesModel" false (161, 7, 26, 1) := ⟨RX8, TX8, 37, tyX8, "BrookStones", rfl, by decide, uw_X8, tyX8_ok, nmX8, rfl, Or.inl (tblG_of (i := 761) rfl rfl), fun _ => ⟨rfl, rfl⟩, fun h => absurd h (by decide)⟩
set_option maxRecDepth 100000 in
theorem fk_BrookStonesModel_213 : fOK "BrookStonesModel" false (213, 7, 34, 1) := ⟨RX8, TX8, 37, tyX8, "BrookStones", rfl, by decide, uw_X8, tyX8_ok, nmX8, rfl, Or.inl (tblG_of (i := 769) rfl rfl), fun _ => ⟨rfl, rfl⟩, fun h => absurd h (by decide)⟩
set_option maxRecDepth 100000 in
theorem fk_BrookStonesModel_216 : fOK "BrookStonesModel" false (216, 7, 35, 1) := ⟨RX8, TX8, 37, tyX8, "BrookStones", rfl, by decide, uw_X8, tyX8_ok, nmX8, rfl, Or.inl (tblG_of (i := 770) rfl rfl), fun _ => ⟨rfl, rfl⟩, fun h => absurd h (by decide)⟩
set_option maxRecDepth 100000 in
theorem fk_BrookStonesModel_250 : fOK "BrookStonesModel" false (250, 7, 1, 1) := ⟨RX8, TX8, 37, tyX8, "BrookStones", rfl, by decide, uw_X8, tyX8_ok, nmX8, rfl, Or.inl (tblG_of (i := 736) rfl rfl), fun _ => ⟨rfl, rfl⟩, fun h => absurd h (by decide)⟩
def fl_BrookStonesModel : List (Nat × Nat × Nat × Nat) := [(9, 7, 2, 10), (13, 7, 3, 10), (16, 7, 4, 10), (19, 7, 8, 10), (22, 7, 9, 10), (25, 7, 10, 10), (29, 7, 11, 10), (32, 7, 15, 10), (35, 7, 16, 10), (38, 7, 18, 10), (41, 7, 19, 10), (44, 7, 20, 10), (47, 7, 21, 10), (50, 7, 22, 10), (53, 7, 24, 10), (56, 7, 25, 10), (59, 7, 27, 10), (62, 7, 28, 10), (65, 7, 29, 10), (68, 7, 30, 10), (71, 7, 31, 1), (75, 7, 32, 10), (78, 7, 33, 10), (81, 7, 36, 10), (84, 7, 0, 1), (93, 7, 5, 1), (96, 7, 12, 1), (117, 7, 13, 1), (120, 7, 14, 1), (123, 7, 6, 1), (126, 7, 7, 1), (129, 7, 17, 1), (132, 7, 23, 1), (161, 7, 26, 1), (213, 7, 34, 1), (216, 7, 35, 1), (250, 7, 1, 1)]
set_option maxRecDepth 100000 in
theorem fl_BrookStonesModel_ok : ∀ q ∈ fl_BrookStonesModel, fOK "BrookStonesModel" false q := List.forall_mem_cons.mpr ⟨fk_BrookStonesModel_9, List.forall_mem_cons.mpr ⟨fk_BrookStonesModel_13, List.forall_mem_cons.mpr ⟨fk_BrookStonesModel_16, List.forall_mem_cons.mpr ⟨fk_BrookStonesModel_19, List.forall_mem_cons.mpr ⟨fk_BrookStonesModel_22, List.forall_mem_cons.mpr ⟨fk_BrookStonesModel_25, List.forall_mem_cons.mpr ⟨fk_BrookStonesModel_29, List.forall_mem_cons.mpr ⟨fk_BrookStonesModel_32, List.forall_mem_cons.mpr ⟨fk_BrookStonesModel_35, List.forall_mem_cons.mpr ⟨fk_BrookStonesModel_38, List.forall_mem_cons.mpr ⟨fk_BrookStonesModel_41, List.forall_mem_cons.mpr ⟨fk_BrookStonesModel_44, List.forall_mem_cons.mpr ⟨fk_BrookStonesModel_47, List.forall_mem_cons.mpr ⟨fk_BrookStonesModel_50, List.forall_mem_cons.mpr ⟨fk_BrookStonesModel_53, List.forall_mem_cons.mpr ⟨fk_BrookStonesModel_56, List.forall_mem_cons.mpr ⟨fk_BrookStonesModel_59, List.forall_mem_cons.mpr ⟨fk_BrookStonesModel_62, List.forall_mem_cons.mpr ⟨fk_BrookStonesModel_65, List.forall_mem_cons.mpr ⟨fk_BrookStonesModel_68, List.forall_mem_cons.mpr ⟨fk_BrookStonesModel_71, List.forall_mem_cons.mpr ⟨fk_BrookStonesModel_75, List.forall_mem_cons.mpr ⟨fk_BrookStonesModel_78, List.forall_mem_cons.mpr ⟨fk_BrookStonesModel_81, List.forall_mem_cons.mpr ⟨fk_BrookStonesModel_84, List.forall_mem_cons.mpr ⟨fk_BrookStonesModel_93, List.forall_mem_cons.mpr ⟨fk_BrookStonesModel_96, List.forall_mem_cons.mpr ⟨fk_BrookStonesModel_117, List.forall_mem_cons.mpr ⟨fk_BrookStonesModel_120, List.forall_mem_cons.mpr ⟨fk_BrookStonesModel_123, List.forall_mem_cons.mpr ⟨fk_BrookStonesModel_126, List.forall_mem_cons.mpr ⟨fk_BrookStonesModel_129, List.forall_mem_cons.mpr ⟨fk_BrookStonesModel_132, List.forall_mem_cons.mpr ⟨fk_BrookStonesModel_161, List.forall_mem_cons.mpr ⟨fk_BrookStonesModel_213, List.forall_mem_cons.mpr ⟨fk_BrookStonesModel_216, List.forall_mem_cons.mpr ⟨fk_BrookStonesModel_250, fun _ h => absurd h List.not_mem_nil⟩⟩⟩⟩⟩⟩⟩⟩⟩⟩⟩⟩⟩⟩⟩⟩⟩⟩⟩⟩⟩⟩⟩⟩⟩⟩⟩⟩⟩⟩⟩⟩⟩⟩⟩⟩⟩
set_option maxRecDepth 100000 in
theorem fk_BrookStonesModel_i_9 : fOK "BrookStonesModel" true (9, 7, 2, 12) := ⟨RX8, TX8, 37, tyX8, "BrookStones", rfl, by decide, uw_X8, tyX8_ok, nmX8, rfl, Or.inl (tblG_of (i := 737) rfl rfl), fun h => absurd h (by decide), fun _ => ⟨rfl, rfl, rfl, Or.inr ⟨_, rfl⟩, tblG_of (i := 737) rfl rfl⟩⟩
set_option maxRecDepth 100000 in
theorem fk_BrookStonesModel_i_13 : fOK "BrookStonesModel" true (13, 7, 3, 12) := ⟨RX8, TX8, 37, tyX8, "BrookStones", rfl, by decide, uw_X8, tyX8_ok, nmX8, rfl, Or.inl (tblG_of (i := 738) rfl rfl), fun h => absurd h (by decide), fun _ => ⟨rfl, rfl, rfl, Or.inr ⟨_, rfl⟩, tblG_of (i := 738) rfl rfl⟩⟩
set_option maxRecDepth 100000 in
theorem fk_BrookStonesModel_i_16 : fOK "BrookStonesModel" true (16, 7, 4, 12) := ⟨RX8, TX8, 37, tyX8, "BrookStones", rfl, by decide, uw_X8, tyX8_ok, nmX8, rfl, Or.inl (tblG_of (i := 739) rfl rfl), fun h => absurd h (by decide), fun _ => ⟨rfl, rfl, rfl, Or.inr ⟨_, rfl⟩, tblG_of (i := 739) rfl rfl⟩⟩
set_option maxRecDepth 100000 in
theorem fk_BrookStonesModel_i_19 : fOK "BrookStonesModel" true (19, 7, 8, 12) := ⟨RX8, TX8, 37, tyX8, "BrookStones", rfl, by decide, uw_X8, tyX8_ok, nmX8, rfl, Or.inl (tblG_of (i := 743) rfl rfl), fun h => absurd h (by decide), fun _ => ⟨rfl, rfl, rfl, Or.inr ⟨_, rfl⟩, tblG_of (i := 743) rfl rfl⟩⟩
set_option maxRecDepth 100000 in
theorem fk_BrookStonesModel_i_22 : fOK "BrookStonesModel" true (22, 7, 9, 12) := ⟨RX8, TX8, 37, tyX8, "BrookStones", rfl, by decide, uw_X8, tyX8_ok, nmX8, rfl, Or.inl (tblG_of (i := 744) rfl rfl), fun h => absurd h (by decide), fun _ => ⟨rfl, rfl, rfl, Or.inr ⟨_, rfl⟩, tblG_of (i := 744) rfl rfl⟩⟩
set_option maxRecDepth 100000 in
theorem fk_BrookStonesModel_i_25 : fOK "BrookStonesModel" true (25, 7, 10, 12) := ⟨RX8, TX8, 37, tyX8, "BrookStones", rfl, by decide, uw_X8, tyX8_ok, nmX8, rfl, Or.inl (tblG_of (i := 745) rfl rfl), fun h => absurd h (by decide), fun _ => ⟨rfl, rfl, rfl, Or.inr ⟨_, rfl⟩, tblG_of (i := 745) rfl rfl⟩⟩
set_option maxRecDepth 100000 in
theorem fk_BrookStonesModel_i_29 : fOK "BrookStonesModel" true (29, 7, 11, 12) := ⟨RX8, TX8, 37, tyX8, "BrookStones", rfl, by decide, uw_X8, tyX8_ok, nmX8, rfl, Or.inl (tblG_of (i := 746) rfl rfl), fun h => absurd h (by decide), fun _ => ⟨rfl, rfl, rfl, Or.inr ⟨_, rfl⟩, tblG_of (i := 746) rfl rfl⟩⟩
set_option maxRecDepth 100000 in
theorem fk_BrookStonesModel_i_32 : fOK "BrookStonesModel" true (32, 7, 15, 12) := ⟨RX8, TX8, 37, tyX8, "BrookStones", rfl, by decide, uw_X8, tyX8_ok, nmX8, rfl, Or.inl (tblG_of (i := 750) rfl rfl), fun h => absurd h (by decide), fun _ => ⟨rfl, rfl, rfl, Or.inr ⟨_, rfl⟩, tblG_of (i := 750) rfl rfl⟩⟩
set_option maxRecDepth 100000 in
theorem fk_BrookStonesModel_i_35 : fOK "BrookStonesModel" true (35, 7, 16, 12) := ⟨RX8, TX8, 37, tyX8, "BrookStones", rfl, by decide, uw_X8, tyX8_ok, nmX8, rfl, Or.inl (tblG_of (i := 751) rfl rfl), fun h => absurd h (by decide), fun _ => ⟨rfl, rfl, rfl, Or.inr ⟨_, rfl⟩, tblG_of (i := 751) rfl rfl⟩⟩
set_option maxRecDepth 100000 in
theorem fk_BrookStonesModel_i_38 : fOK "BrookStonesModel" true (38, 7, 18, 12) := ⟨RX8, TX8, 37, tyX8, "BrookStones", rfl, by decide, uw_X8, tyX8_ok, nmX8, rfl, Or.inl (tblG_of (i := 753) rfl rfl), fun h => absurd h (by decide), fun _ => ⟨rfl, rfl, rfl, Or.inr ⟨_, rfl⟩, tblG_of (i := 753) rfl rfl⟩⟩
set_option maxRecDepth 100000 in
theorem fk_BrookStonesModel_i_41 : fOK "BrookStonesModel" true (41, 7, 19, 12) := ⟨RX8, TX8, 37, tyX8, "BrookStones", rfl, by decide, uw_X8, tyX8_ok, nmX8, rfl, Or.inl (tblG_of (i := 754) rfl rfl), fun h => absurd h (by decide), fun _ => ⟨rfl, rfl, rfl, Or.inr ⟨_, rfl⟩, tblG_of (i := 754) rfl rfl⟩⟩
set_option maxRecDepth 100000 in
theorem fk_BrookStonesModel_i_44 : fOK "BrookStonesModel" true (44, 7, 20, 12) := ⟨RX8, TX8, 37, tyX8, "BrookStones", rfl, by decide, uw_X8, tyX8_ok, nmX8, rfl, Or.inl (tblG_of (i := 755) rfl rfl), fun h => absurd h (by decide), fun _ => ⟨rfl, rfl, rfl, Or.inr ⟨_, rfl⟩, tblG_of (i := 755) rfl rfl⟩⟩
set_option maxRecDepth 100000 in
theorem fk_BrookStonesModel_i_47 : fOK "BrookStonesModel" true (47, 7, 21, 12) := ⟨RX8, TX8, 37, tyX8, "BrookStones", rfl, by decide, uw_X8, tyX8_ok, nmX8, rfl, Or.inl (tblG_of (i := 756) rfl rfl), fun h => absurd h (by decide), fun _ => ⟨rfl, rfl, rfl, Or.inr ⟨_, rfl⟩, tblG_of (i := 756) rfl rfl⟩⟩
set_option maxRecDepth 100000 in
theorem fk_BrookStonesModel_i_50 : fOK "BrookStonesModel" true (50, 7, 22, 12) := ⟨RX8, TX8, 37, tyX8, "BrookStones", rfl, by decide, uw_X8, tyX8_ok, nmX8, rfl, Or.inl (tblG_of (i := 757) rfl rfl), fun h => absurd h (by decide), fun _ => ⟨rfl, rfl, rfl, Or.inr ⟨_, rfl⟩, tblG_of (i := 757) rfl rfl⟩⟩
set_option maxRecDepth 100000 in
theorem fk_BrookStonesModel_i_53 : fOK "BrookStonesModel" true (53, 7, 24, 12) := ⟨RX8, TX8, 37, tyX8, "BrookStones", rfl, by decide, uw_X8, tyX8_ok, nmX8, rfl, Or.inl (tblG_of (i := 759) rfl rfl), fun h => absurd h (by decide), fun _ => ⟨rfl, rfl, rfl, Or.inr ⟨_, rfl⟩, tblG_of (i := 759) rfl rfl⟩⟩
set_option maxRecDepth 100000 in
theorem fk_BrookStonesModel_i_56 : fOK "BrookStonesModel" true (56, 7, 25, 12) := ⟨RX8, TX8, 37, tyX8, "BrookStones", rfl, by decide, uw_X8, tyX8_ok, nmX8, rfl, Or.inl (tblG_of (i := 760) rfl rfl), fun h => absurd h (by decide), fun _ => ⟨rfl, rfl, rfl, Or.inr ⟨_, rfl⟩, tblG_of (i := 760) rfl rfl⟩⟩
set_option maxRecDepth 100000 in
theorem fk_BrookStonesModel_i_59 : fOK "BrookStonesModel" true (59, 7, 27, 12) := ⟨RX8, TX8, 37, tyX8, "BrookStones", rfl, by decide, uw_X8, tyX8_ok, nmX8, rfl, Or.inl (tblG_of (i := 762) rfl rfl), fun h => absurd h (by decide), fun _ => ⟨rfl, rfl, rfl, Or.inr ⟨_, rfl⟩, tblG_of (i := 762) rfl rfl⟩⟩
set_option maxRecDepth 100000 in
theorem fk_BrookStonesModel_i_62 : fOK "BrookStonesModel" true (62, 7, 28, 12) := ⟨RX8, TX8, 37, tyX8, "BrookStones", rfl, by decide, uw_X8, tyX8_ok, nmX8, rfl, Or.inl (tblG_of (i := 763) rfl rfl), fun h => absurd h (by decide), fun _ => ⟨rfl, rfl, rfl, Or.inr ⟨_, rfl⟩, tblG_of (i := 763) rfl rfl⟩⟩
set_option maxRecDepth 100000 in
theorem fk_BrookStonesModel_i_65 : fOK "BrookStonesModel" true (65, 7, 29, 12) := ⟨RX8, TX8, 37, tyX8, "BrookStones", rfl, by decide, uw_X8, tyX8_ok, nmX8, rfl, Or.inl (tblG_of (i := 764) rfl rfl), fun h => absurd h (by decide), fun _ => ⟨rfl, rfl, rfl, Or.inr ⟨_, rfl⟩, tblG_of (i := 764) rfl rfl⟩⟩
set_option maxRecDepth 100000 in
theorem fk_BrookStonesModel_i_68 : fOK "BrookStonesModel" true (68, 7, 30, 12) := ⟨RX8, TX8, 37, tyX8, "BrookStones", rfl, by decide, uw_X8, tyX8_ok, nmX8, rfl, Or.inl (tblG_of (i := 765) rfl rfl), fun h => absurd h (by decide), fun _ => ⟨rfl, rfl, rfl, Or.inr ⟨_, rfl⟩, tblG_of (i := 765) rfl rfl⟩⟩
set_option maxRecDepth 100000 in
theorem fk_BrookStonesModel_i_71 : fOK "BrookStonesModel" true (71, 7, 31, 1) := ⟨RX8, TX8, 37, tyX8, "BrookStones", rfl, by decide, uw_X8, tyX8_ok, nmX8, rfl, Or.inl (tblG_of (i := 766) rfl rfl), fun _ => ⟨rfl, rfl⟩, fun h => absurd h (by decide)⟩
set_option maxRecDepth 100000 in
theorem fk_BrookStonesModel_i_75 : fOK "BrookStonesModel" true (75, 7, 32, 12) := ⟨RX8, TX8, 37, tyX8, "BrookStones", rfl, by decide, uw_X8, tyX8_ok, nmX8, rfl, Or.inl (tblG_of (i := 767) rfl rfl), fun h => absurd h (by decide), fun _ => ⟨rfl, rfl, rfl, Or.inr ⟨_, rfl⟩, tblG_of (i := 767) rfl rfl⟩⟩
set_option maxRecDepth 100000 in
theorem fk_BrookStonesModel_i_78 : fOK "BrookStonesModel" true (78, 7, 33, 12) := ⟨RX8, TX8, 37, tyX8, "BrookStones", rfl, by decide, uw_X8, tyX8_ok, nmX8, rfl, Or.inl (tblG_of (i := 768) rfl rfl), fun h => absurd h (by decide), fun _ => ⟨rfl, rfl, rfl, Or.inr ⟨_, rfl⟩, tblG_of (i := 768) rfl rfl⟩⟩
set_option maxRecDepth 100000 in
theorem fk_BrookStonesModel_i_81 : fOK "BrookStonesModel" true (81, 7, 36, 12) := ⟨RX8, TX8, 37, tyX8, "BrookStones", rfl, by decide, uw_X8, tyX8_ok, nmX8, rfl, Or.inl (tblG_of (i := 771) rfl rfl), fun h => absurd h (by decide), fun _ => ⟨rfl, rfl, rfl, Or.inr ⟨_, rfl⟩, tblG_of (i := 771) rfl rfl⟩⟩
set_option maxRecDepth 100000 in
theorem fk_BrookStonesModel_i_84 : fOK "BrookStonesModel" true (84, 7, 0, 1) := ⟨RX8, TX8, 37, tyX8, "BrookStones", rfl, by decide, uw_X8, tyX8_ok, nmX8, rfl, Or.inl (tblG_of (i := 735) rfl rfl), fun _ => ⟨rfl, rfl⟩, fun h => absurd h (by decide)⟩
set_option maxRecDepth 100000 in
theorem fk_BrookStonesModel_i_93 : fOK "BrookStonesModel" true (93, 7, 5, 1) := ⟨RX8, TX8, 37, tyX8, "BrookStones", rfl, by decide, uw_X8, tyX8_ok, nmX8, rfl, Or.inl (tblG_of (i := 740) rfl rfl), fun _ => ⟨rfl, rfl⟩, fun h => absurd h (by decide)⟩
set_option maxRecDepth 100000 in
theorem fk_BrookStonesModel_i_96 : fOK "BrookStonesModel" true (96, 7, 12, 1) := ⟨RX8, TX8, 37, tyX8, "BrookStones", rfl, by decide, uw_X8, tyX8_ok, nmX8, rfl, Or.inl (tblG_of (i := 747) rfl rfl), fun _ => ⟨rfl, rfl⟩, fun h => absurd h (by decide)⟩
set_option maxRecDepth 100000 in
theorem fk_BrookStonesModel_i_117 : fOK "BrookStonesModel" true (117, 7, 13, 1) := ⟨RX8, TX8, 37, tyX8, "BrookStones", rfl, by decide, uw_X8, tyX8_ok, nmX8, rfl, Or.inl (tblG_of (i := 748) rfl rfl), fun _ => ⟨rfl, rfl⟩, fun h => absurd h (by decide)⟩
set_option maxRecDepth 100000 in
theorem fk_BrookStonesModel_i_120 : fOK "BrookStonesModel" true (120, 7, 14, 1) := ⟨RX8, TX8, 37, tyX8, "BrookStones", rfl, by decide, uw_X8, tyX8_ok, nmX8, rfl, Or.inl (tblG_of (i := 749) rfl rfl), fun _ => ⟨rfl, rfl⟩, fun h => absurd h (by decide)⟩
set_option maxRecDepth 100000 in
theorem fk_BrookStonesModel_i_123 : fOK "BrookStonesModel" true (123, 7, 6, 1) := ⟨RX8, TX8, 37, tyX8, "BrookStones", rfl, by decide, uw_X8, tyX8_ok, nmX8, rfl, Or.inl (tblG_of (i := 741) rfl rfl), fun _ => ⟨rfl, rfl⟩, fun h => absurd h (by decide)⟩
set_option maxRecDepth 100000 in
theorem fk_BrookStonesModel_i_126 : fOK "BrookStonesModel" true (126, 7, 7, 1) := ⟨RX8, TX8, 37, tyX8, "BrookStones", rfl, by decide, uw_X8, tyX8_ok, nmX8, rfl, Or.inl (tblG_of (i := 742) rfl rfl), fun _ => ⟨rfl, rfl⟩, fun h => absurd h (by decide)⟩
set_option maxRecDepth 100000 in
theorem fk_BrookStonesModel_i_129 : fOK "BrookStonesModel" true (129, 7, 17, 1) := ⟨RX8, TX8, 37, tyX8, "BrookStones", rfl, by decide, uw_X8, tyX8_ok, nmX8, rfl, Or.inl (tblG_of (i := 752) rfl rfl), fun _ => ⟨rfl, rfl⟩, fun h => absurd h (by decide)⟩
set_option maxRecDepth 100000 in
theorem fk_BrookStonesModel_i_132 : fOK "BrookStonesModel" true (132, 7, 23, 1) := ⟨RX8, TX8, 37, tyX8, "BrookStones", rfl, by decide, uw_X8, tyX8_ok, nmX8, rfl, Or.inl (tblG_of (i := 758) rfl rfl), fun _ => ⟨rfl, rfl⟩, fun h => absurd h (by decide)⟩
set_option maxRecDepth 100000 in
theorem fk_BrookStonesModel_i_161 : fOK "BrookStonesModel" true (161, 7, 26, 1) := ⟨RX8, TX8, 37, tyX8, "BrookStones", rfl, by decide, uw_X8, tyX8_ok, nmX8, rfl, Or.inl (tblG_of (i := 761) rfl rfl), fun _ => ⟨rfl, rfl⟩, fun h => absurd h (by decide)⟩
set_option maxRecDepth 100000 in
theorem fk_BrookStonesModel_i_213 : fOK "BrookStonesModel" true (213, 7, 34, 1) := ⟨RX8, TX8, 37, tyX8, "BrookStones", rfl, by decide, uw_X8, tyX8_ok, nmX8, rfl, Or.inl (tblG_of (i := 769) rfl rfl), fun _ => ⟨rfl, rfl⟩, fun h => absurd h (by decide)⟩
set_option maxRecDepth 100000 in
theorem fk_BrookStonesModel_i_216 : fOK "BrookStonesModel" true (216, 7, 35, 1) := ⟨RX8, TX8, 37, tyX8, "BrookStones", rfl, by decide, uw_X8, tyX8_ok, nmX8, rfl, Or.inl (tblG_of (i := 770) rfl rfl), fun _ => ⟨rfl, rfl⟩, fun h => absurd h (by decide)⟩
set_option maxRecDepth 100000 in
theorem fk_BrookStonesModel_i_250 : fOK "BrookStonesModel" true (250, 7, 1, 1) := ⟨RX8, TX8, 37, tyX8, "BrookStones", rfl, by decide, uw_X8, tyX8_ok, nmX8, rfl, Or.inl (tblG_of (i := 736) rfl rfl), fun _ => ⟨rfl, rfl⟩, fun h => absurd h (by decide)⟩
def fl_BrookStonesModel_i : List (Nat × Nat × Nat × Nat) := [(9, 7, 2, 12), (13, 7, 3, 12), (16, 7, 4, 12), (19, 7, 8, 12), (22, 7, 9, 12), (25, 7, 10, 12), (29, 7, 11, 12), (32, 7, 15, 12), (35, 7, 16, 12), (38, 7, 18, 12), (41, 7, 19, 12), (44, 7, 20, 12), (47, 7, 21, 12), (50, 7, 22, 12), (53, 7, 24, 12), (56, 7, 25, 12), (59, 7, 27, 12), (62, 7, 28, 12), (65, 7, 29, 12), (68, 7, 30, 12), (71, 7, 31, 1), (75, 7, 32, 12), (78, 7, 33, 12), (81, 7, 36, 12), (84, 7, 0, 1), (93, 7, 5, 1), (96, 7, 12, 1), (117, 7, 13, 1), (120, 7, 14, 1), (123, 7, 6, 1), (126, 7, 7, 1), (129, 7, 17, 1), (132, 7, 23, 1), (161, 7, 26, 1), (213, 7, 34, 1), (216, 7, 35, 1), (250, 7, 1, 1)]
set_option maxRecDepth 100000 in
theorem fl_BrookStonesModel_i_ok : ∀ q ∈ fl_BrookStonesModel_i, fOK "BrookStonesModel" true q := List.forall_mem_cons.mpr ⟨fk_BrookStonesModel_i_9, List.forall_mem_cons.mpr ⟨fk_BrookStonesModel_i_13, List.forall_mem_cons.mpr ⟨fk_BrookStonesModel_i_16, List.forall_mem_cons.mpr ⟨fk_BrookStonesModel_i_19, List.forall_mem_cons.mpr ⟨fk_BrookStonesModel_i_22, List.forall_mem_cons.mpr ⟨fk_BrookStonesModel_i_25, List.forall_mem_cons.mpr ⟨fk_BrookStonesModel_i_29, List.forall_mem_cons.mpr ⟨fk_BrookStonesModel_i_32, List.forall_mem_cons.mpr ⟨fk_BrookStonesModel_i_35, List.forall_mem_cons.mpr ⟨fk_BrookStonesModel_i_38, List.forall_mem_cons.mpr ⟨fk_BrookStonesModel_i_41, List.forall_mem_cons.mpr ⟨fk_BrookStonesModel_i_44, List.forall_mem_cons.mpr ⟨fk_BrookStonesModel_i_47, List.forall_mem_cons.mpr ⟨fk_BrookStonesModel_i_50, List.forall_mem_cons.mpr ⟨fk_BrookStonesModel_i_53, List.forall_mem_cons.mpr ⟨fk_BrookStonesModel_i_56, List.forall_mem_cons.mpr ⟨fk_BrookStonesModel_i_59, List.forall_mem_cons.mpr ⟨fk_BrookStonesModel_i_62, List.forall_mem_cons.mpr ⟨fk_BrookStonesModel_i_65, List.forall_mem_cons.mpr ⟨fk_BrookStonesModel_i_68, List.forall_mem_cons.mpr ⟨fk_BrookStonesModel_i_71, List.forall_mem_cons.mpr ⟨fk_BrookStonesModel_i_75, List.forall_mem_cons.mpr ⟨fk_BrookStonesModel_i_78, List.forall_mem_cons.mpr ⟨fk_BrookStonesModel_i_81, List.forall_mem_cons.mpr ⟨fk_BrookStonesModel_i_84, List.forall_mem_cons.mpr ⟨fk_BrookStonesModel_i_93, List.forall_mem_cons.mpr ⟨fk_BrookStonesModel_i_96, List.forall_mem_cons.mpr ⟨fk_BrookStonesModel_i_117, List.forall_mem_cons.mpr ⟨fk_BrookStonesModel_i_120, List.forall_mem_cons.mpr ⟨fk_BrookStonesModel_i_123, List.forall_mem_cons.mpr ⟨fk_BrookStonesModel_i_126, List.forall_mem_cons.mpr ⟨fk_BrookStonesModel_i_129, List.forall_mem_cons.mpr ⟨fk_BrookStonesModel_i_132, List.forall_mem_cons.mpr ⟨fk_BrookStonesModel_i_161, List.forall_mem_cons.mpr ⟨fk_BrookStonesModel_i_213, List.forall_mem_cons.mpr ⟨fk_BrookStonesModel_i_216, List.forall_mem_cons.mpr ⟨fk_BrookStonesModel_i_250, fun _ h => absurd h List.not_mem_nil⟩⟩⟩⟩⟩⟩⟩⟩⟩⟩⟩⟩⟩⟩⟩⟩⟩⟩⟩⟩⟩⟩⟩⟩⟩⟩⟩⟩⟩⟩⟩⟩⟩⟩⟩⟩⟩
set_option maxRecDepth 100000 in
theorem nk_BrookStones_9 : nOK "BrookStones" (9, 0, [.null, .null, .null, .null, .null, .null, .null, .null, .int 0, .int 0, .int 0, .int 0, .int 0, .int 0, .int 0]) := ⟨RX0, TX0, 15, tyX0, rfl, uw_X0, tyX0_ok, tblG_of (i := 22) rfl rfl, tblG_of (i := 23) rfl rfl, tblG_of (i := 2) rfl rfl, rfl, by decide +kernel, by decide +kernel⟩
set_option maxRecDepth 100000 in
theorem nk_BrookStones_18 : nOK "BrookStones" (18, 4, [.null, .null, .null]) := ⟨RX4, TX4, 3, tyX4, rfl, uw_X4, tyX4_ok, tblG_of (i := 107) rfl rfl, tblG_of (i := 108) rfl rfl, tblG_of (i := 4) rfl rfl, rfl, by decide +kernel, by decide +kernel⟩
set_option maxRecDepth 100000 in
theorem nk_BrookStones_25 : nOK "BrookStones" (25, 5, [.null, .null, .int 0, .int 0, .int 0, .int 0]) := ⟨RX6, TX6, 6, tyX6, rfl, uw_X6, tyX6_ok, tblG_of (i := 126) rfl rfl, tblG_of (i := 127) rfl rfl, tblG_of (i := 5) rfl rfl, rfl, by decide +kernel, by decide +kernel⟩
set_option maxRecDepth 100000 in
theorem nk_BrookStones_32 : nOK "BrookStones" (32, 1, [.null, .null, .int 0]) := ⟨RX1, TX1, 3, tyX1, rfl, uw_X1, tyX1_ok, tblG_of (i := 152) rfl rfl, tblG_of (i := 153) rfl rfl, tblG_of (i := 6) rfl rfl, rfl, by decide +kernel, by decide +kernel⟩
set_option maxRecDepth 100000 in
theorem nk_BrookStones_39 : nOK "BrookStones" (39, 3, [.null, .null, .null, .null, .null, .null, .int 0, .int 0, .int 0, .int 0, .int 0]) := ⟨RX3, TX3, 11, tyX3, rfl, uw_X3, tyX3_ok, tblG_of (i := 172) rfl rfl, tblG_of (i := 173) rfl rfl, tblG_of (i := 7) rfl rfl, rfl, by decide +kernel, by decide +kernel⟩
set_option maxRecDepth 100000 in
theorem nk_BrookStones_46 : nOK "BrookStones" (46, 2, [.null, .int 0]) := ⟨RX2, TX2, 2, tyX2, rfl, uw_X2, tyX2_ok, tblG_of (i := 217) rfl rfl, tblG_of (i := 218) rfl rfl, tblG_of (i := 8) rfl rfl, rfl, by decide +kernel, by decide +kernel⟩
def nl_BrookStones : List (Nat × Nat × List Value) := [(9, 0, [.null, .null, .null, .null, .null, .null, .null, .null, .int 0, .int 0, .int 0, .int 0, .int 0, .int 0, .int 0]), (18, 4, [.null, .null, .null]), (25, 5, [.null, .null, .int 0, .int 0, .int 0, .int 0]), (32, 1, [.null, .null, .int 0]), (39, 3, [.null, .null, .null, .null, .null, .null, .int 0, .int 0, .int 0, .int 0, .int 0]), (46, 2, [.null, .int 0])]
set_option maxRecDepth 100000 in
theorem nl_BrookStones_ok : ∀ q ∈ nl_BrookStones, nOK "BrookStones" q := List.forall_mem_cons.mpr ⟨nk_BrookStones_9, List.forall_mem_cons.mpr ⟨nk_BrookStones_18, List.forall_mem_cons.mpr ⟨nk_BrookStones_25, List.forall_mem_cons.mpr ⟨nk_BrookStones_32, List.forall_mem_cons.mpr ⟨nk_BrookStones_39, List.forall_mem_cons.mpr ⟨nk_BrookStones_46, fun _ h => absurd h List.not_mem_nil⟩⟩⟩⟩⟩⟩
def k2_BrookStones : List (Nat × Int64) := [(246, -9223372036854775808)]
set_option maxRecDepth 100000 in
theorem k2_BrookStones_ok : ∀ q ∈ k2_BrookStones, Jvm.Cond.constantLong "BrookStones" q.1 q.2 ∈ tblG := List.forall_mem_cons.mpr ⟨tblG_of (i := 629) rfl rfl, fun _ h => absurd h List.not_mem_nil⟩
set_option maxRecDepth 100000 in
theorem nk_BrookStones_Planner_9 : nOK "BrookStones$Planner" (9, 1, [.null, .null, .int 0]) := ⟨RX1, TX1, 3, tyX1, rfl, uw_X1, tyX1_ok, tblG_of (i := 178) rfl rfl, tblG_of (i := 153) rfl rfl, tblG_of (i := 6) rfl rfl, rfl, by decide +kernel, by decide +kernel⟩
def nl_BrookStones_Planner : List (Nat × Nat × List Value) := [(9, 1, [.null, .null, .int 0])]
set_option maxRecDepth 100000 in
theorem nl_BrookStones_Planner_ok : ∀ q ∈ nl_BrookStones_Planner, nOK "BrookStones$Planner" q := List.forall_mem_cons.mpr ⟨nk_BrookStones_Planner_9, fun _ h => absurd h List.not_mem_nil⟩
def kl_BrookStones_Planner : List (Nat × Int32) := [(44, 1000000)]
set_option maxRecDepth 100000 in
theorem kl_BrookStones_Planner_ok : ∀ q ∈ kl_BrookStones_Planner, Jvm.Cond.constant "BrookStones$Planner" q.1 q.2 ∈ tblG := List.forall_mem_cons.mpr ⟨tblG_of (i := 534) rfl rfl, fun _ h => absurd h List.not_mem_nil⟩
set_option maxRecDepth 100000 in
theorem nk_BrookStonesLaw_7 : nOK "BrookStonesLaw" (7, 6, [.null, .null, .null, .null, .null, .null, .int 0, .int 0]) := ⟨RX7, TX7, 8, tyX7, rfl, uw_X7, tyX7_ok, tblG_of (i := 14) rfl rfl, tblG_of (i := 15) rfl rfl, tblG_of (i := 1) rfl rfl, rfl, by decide +kernel, by decide +kernel⟩
set_option maxRecDepth 100000 in
theorem nk_BrookStonesLaw_10 : nOK "BrookStonesLaw" (10, 7, [.int 0, .int 0, .null, .null, .null, .int 0, .int 0, .int 0, .null, .null, .null, .null, .int 0, .int 0, .int 0, .null, .null, .int 0, .null, .null, .null, .null, .null, .int 0, .null, .null, .int 0, .null, .null, .null, .null, .int 0, .null, .null, .int 0, .int 0, .null]) := ⟨RX8, TX8, 37, tyX8, rfl, uw_X8, tyX8_ok, tblG_of (i := 729) rfl rfl, tblG_of (i := 730) rfl rfl, tblG_of (i := 9) rfl rfl, rfl, by decide +kernel, by decide +kernel⟩
def nl_BrookStonesLaw : List (Nat × Nat × List Value) := [(7, 6, [.null, .null, .null, .null, .null, .null, .int 0, .int 0]), (10, 7, [.int 0, .int 0, .null, .null, .null, .int 0, .int 0, .int 0, .null, .null, .null, .null, .int 0, .int 0, .int 0, .null, .null, .int 0, .null, .null, .null, .null, .null, .int 0, .null, .null, .int 0, .null, .null, .null, .null, .int 0, .null, .null, .int 0, .int 0, .null])]
set_option maxRecDepth 100000 in
theorem nl_BrookStonesLaw_ok : ∀ q ∈ nl_BrookStonesLaw, nOK "BrookStonesLaw" q := List.forall_mem_cons.mpr ⟨nk_BrookStonesLaw_7, List.forall_mem_cons.mpr ⟨nk_BrookStonesLaw_10, fun _ h => absurd h List.not_mem_nil⟩⟩
def kl_BrookStonesModel : List (Nat × Int32) := [(170, 1000000)]
set_option maxRecDepth 100000 in
theorem kl_BrookStonesModel_ok : ∀ q ∈ kl_BrookStonesModel, Jvm.Cond.constant "BrookStonesModel" q.1 q.2 ∈ tblG := List.forall_mem_cons.mpr ⟨tblG_of (i := 961) rfl rfl, fun _ h => absurd h List.not_mem_nil⟩
def k2_BrookStonesModel : List (Nat × Int64) := [(87, -9223372036854775808)]
set_option maxRecDepth 100000 in
theorem k2_BrookStonesModel_ok : ∀ q ∈ k2_BrookStonesModel, Jvm.Cond.constantLong "BrookStonesModel" q.1 q.2 ∈ tblG := List.forall_mem_cons.mpr ⟨tblG_of (i := 1087) rfl rfl, fun _ h => absurd h List.not_mem_nil⟩
def kl_java_lang_Integer : List (Nat × Int32) := [(265, 1431655765), (266, 858993459), (267, 252645135)]
set_option maxRecDepth 100000 in
theorem kl_java_lang_Integer_ok : ∀ q ∈ kl_java_lang_Integer, Jvm.Cond.constant "java/lang/Integer" q.1 q.2 ∈ tblG := List.forall_mem_cons.mpr ⟨tblG_of (i := 519) rfl rfl, List.forall_mem_cons.mpr ⟨tblG_of (i := 520) rfl rfl, List.forall_mem_cons.mpr ⟨tblG_of (i := 521) rfl rfl, fun _ h => absurd h List.not_mem_nil⟩⟩⟩
end
section
/-! ===== helpers for the methods' own functions ===== -/
def xi (ls : XL) (i : Nat) : Option Int32 := match xL ls i with
  | some (.int x) => some x
  | _ => none
def xj (ls : XL) (i : Nat) : Option Int64 := match xL ls i with
  | some (.long x) => some x
  | _ => none
def xr (ls : XL) (i : Nat) : Option Nat := match xL ls i with
  | some (.ref x) => some x
  | _ => none
theorem xi_of {ls : XL} {i : Nat} {x : Int32} (h : xi ls i = some x) : xL ls i = some (.int x) := by
  unfold xi at h
  split at h
  next y hy => cases h; exact hy
  next => cases h
theorem xj_of {ls : XL} {i : Nat} {x : Int64} (h : xj ls i = some x) : xL ls i = some (.long x) := by
  unfold xj at h
  split at h
  next y hy => cases h; exact hy
  next => cases h
theorem xr_of {ls : XL} {i : Nat} {x : Nat} (h : xr ls i = some x) : xL ls i = some (.ref x) := by
  unfold xr at h
  split at h
  next y hy => cases h; exact hy
  next => cases h
theorem b_none {α : Type} {x : Option α} {k : α → Option XO} (h : ∀ v, k v = none) : x.bind k = none := by
  cases x with
  | none => rfl
  | some v => exact h v
theorem c_none {c : Bool} {a b : Option XO} (ha : a = none) (hb : b = none) : (bif c then a else b) = none := by
  cases c <;> assumption
theorem c_some {pc k : Nat} {a b : Option XO} {o : XO} (h : (bif pc == k then a else b) = some o) : (pc = k ∧ a = some o) ∨ b = some o := by
  cases hc : pc == k with
  | true => rw [hc] at h; exact Or.inl ⟨eq_of_beq hc, h⟩
  | false => rw [hc] at h; exact Or.inr h
theorem nil_all {α : Type} {p : α → Prop} : ∀ q ∈ ([] : List α), p q := fun _ h => absurd h List.not_mem_nil
theorem cons_all {α : Type} {p : α → Prop} {a : α} {l : List α} (h : p a) (k : ∀ q ∈ l, p q) : ∀ q ∈ a :: l, p q := List.forall_mem_cons.mpr ⟨h, k⟩
end
section
def T_X0_isCell : List (Nat × Instr) := [(0, .iload_n 1), (1, .ifCond .lt 15), (4, .iload_n 1), (5, .aload_n 0), (6, .getfield 58), (9, .if_icmp .ge 7), (12, .iconst 1), (13, .goto 4), (16, .iconst 0), (17, .ireturn)]
def op_X0_isCell (fu : Nat) : Nat → Kont → XL → List Value → XW → Instr → Option XO := opK 2 (rzOf (some .boolean)) fl_BrookStones_Brook [] [] [] [] [] []
def M_X0_isCell (fu : Nat) (a0 : Nat) (a1 : Int32) (w : XW) : Option XO :=
  (if a1 < 0 then
    retZ (0 : Int32) w
  else
    (gI w a0 0 8).bind fun x1 =>
    (if a1 < x1 then
      retZ (1 : Int32) w
    else
      retZ (0 : Int32) w))
def U_X0_isCell (fu : Nat) : Orc := fun as w => match as with
  | [.ref a0, .int a1] => if isO w a0 0 = true then M_X0_isCell fu a0 a1 w else none
  | _ => none
def K_X0_isCell (fu : Nat) (n : Nat) : Kont := fun pc ls st w => none
set_option maxRecDepth 100000 in
set_option maxHeartbeats 4000000 in
theorem E_X0_isCell (fu : Nat) (a0 : Nat) (a1 : Int32) (w : XW) : M_X0_isCell fu a0 a1 w = ev T_X0_isCell (op_X0_isCell fu) [] (K_X0_isCell fu fu) 12 0 (lv_args 0 [.ref a0, .int a1]) [] w := by
  rfl
theorem D_X0_isCell (fu : Nat) : DS T_X0_isCell (op_X0_isCell fu) [] 12 (K_X0_isCell fu) := by
  refine ⟨fun pc ls st w => rfl, fun n pc ls st w o h => ?_⟩
  cases h
theorem H_X0_isCell (fu : Nat) : ∀ as w o, U_X0_isCell fu as w = some o → ∃ a r, as = .ref a :: r ∧ r.length = 1 ∧ isO w a 0 = true := by
  intro as w o h
  unfold U_X0_isCell at h
  split at h
  next =>
    split at h
    next hh => exact ⟨_, _, rfl, rfl, hh⟩
    next => cases h
  next => cases h
set_option maxRecDepth 100000 in
set_option maxHeartbeats 4000000 in
theorem S_X0_isCell (fu : Nat) {l : Launch} {D : va_G} {cA : Nat → ClassId} {base b : Nat} : CS l D cA base b 1 y_X0_isCell prog_2_method_4_code 2 (some .boolean) (U_X0_isCell fu) ∧ OM (U_X0_isCell fu) := by
  refine CS_of (d := 0) (y := y_X0_isCell) (cc := prog_2_method_4_code) (nL := 2) (ret := (some .boolean)) (F := U_X0_isCell fu) (fl := fl_BrookStones_Brook) (nl := []) (kl := []) (k2 := []) (mv := []) (ms := []) (mi := []) (ini := false) hI_w hZ_w fl_BrookStones_Brook_ok nil_all nil_all nil_all
    (nil_all)
    (nil_all)
    (nil_all)
    (T := T_X0_isCell) (by decide +kernel) (cut := []) (N := 12) (D_X0_isCell fu) (by decide +kernel) (fun h => absurd h (by decide)) (fun as w o h => ?_)
  unfold U_X0_isCell at h
  split at h
  next =>
    split at h
    next => exact ⟨Nat.le_of_ble_eq_true rfl, fu, (E_X0_isCell fu _ _ w).symm.trans h⟩
    next => cases h
  next => cases h
def T_X0_cellOf : List (Nat × Instr) := [(0, .iconst 0), (1, .istore_n 2), (2, .iload_n 2), (3, .aload_n 0), (4, .getfield 58), (7, .if_icmp .ge 21), (10, .aload_n 0), (11, .getfield 18), (14, .iload_n 2), (15, .iaload), (16, .iload_n 1), (17, .if_icmp .ne 5), (20, .iload_n 2), (21, .ireturn), (22, .iinc 2 1), (25, .goto (-23)), (28, .bipush (-9)), (30, .ireturn)]
def op_X0_cellOf (fu : Nat) : Nat → Kont → XL → List Value → XW → Instr → Option XO := opK 3 (rzOf (some .int)) fl_BrookStones_Brook [] [] [] [] [] []
def F_X0_cellOf (fu : Nat) : Nat → (Nat → Int32 → Int32 → XW → Option XO)
  | 0 => fun _ _ _ _ => none
  | n + 1 => (fun a0 a1 a2 w =>
    (gI w a0 0 8).bind fun x1 =>
    (if a2 < x1 then
      (gR w a0 0 2).bind fun r2 =>
      (aI w r2 a2).bind fun x3 =>
      (if x3 = a1 then
        some (some (.int a2), w)
      else
        (F_X0_cellOf fu n) a0 a1 (a2 + (1 : Int32)) w)
    else
      some (some (.int (-9 : Int32)), w)))
def M_X0_cellOf (fu : Nat) (a0 : Nat) (a1 : Int32) (w : XW) : Option XO :=
  (F_X0_cellOf fu fu) a0 a1 (0 : Int32) w
def U_X0_cellOf (fu : Nat) : Orc := fun as w => match as with
  | [.ref a0, .int a1] => if isO w a0 0 = true then M_X0_cellOf fu a0 a1 w else none
  | _ => none
def K_X0_cellOf (fu : Nat) (n : Nat) : Kont := fun pc ls st w => bif pc == 2 then ((xr ls 0).bind fun a0 => (xi ls 1).bind fun a1 => (xi ls 2).bind fun a2 => match st with | [] => (F_X0_cellOf fu n) a0 a1 a2 w | _ => none) else none
set_option maxRecDepth 100000 in
set_option maxHeartbeats 4000000 in
theorem E_X0_cellOf_2 (fu : Nat) (n : Nat) (a0 : Nat) (a1 : Int32) (a2 : Int32) (w : XW) : (F_X0_cellOf fu (n + 1)) a0 a1 a2 w = ev T_X0_cellOf (op_X0_cellOf fu) [2] (K_X0_cellOf fu n) 20 2 [(0, .ref a0), (1, .int a1), (2, .int a2)] [] w := by
  rfl
set_option maxRecDepth 100000 in
set_option maxHeartbeats 4000000 in
theorem E_X0_cellOf (fu : Nat) (a0 : Nat) (a1 : Int32) (w : XW) : M_X0_cellOf fu a0 a1 w = ev T_X0_cellOf (op_X0_cellOf fu) [2] (K_X0_cellOf fu fu) 20 0 (lv_args 0 [.ref a0, .int a1]) [] w := by
  rfl
theorem D_X0_cellOf (fu : Nat) : DS T_X0_cellOf (op_X0_cellOf fu) [2] 20 (K_X0_cellOf fu) := by
  refine ⟨fun pc ls st w => c_none (b_none fun _ => b_none fun _ => b_none fun _ => (by split <;> rfl)) (rfl), fun n pc ls st w o h => ?_⟩
  rcases c_some h with ⟨rfl, h⟩ | h
  · obtain ⟨a0, h0, h⟩ := some_of h; obtain ⟨a1, h1, h⟩ := some_of h; obtain ⟨a2, h2, h⟩ := some_of h;
    split at h
    next =>
      exact ⟨[(0, .ref a0), (1, .int a1), (2, .int a2)], cons_all (xr_of h0) (cons_all (xi_of h1) (cons_all (xi_of h2) (nil_all))), (E_X0_cellOf_2 fu n a0 a1 a2 w).symm.trans h⟩
    next => cases h
  · cases h
theorem H_X0_cellOf (fu : Nat) : ∀ as w o, U_X0_cellOf fu as w = some o → ∃ a r, as = .ref a :: r ∧ r.length = 1 ∧ isO w a 0 = true := by
  intro as w o h
  unfold U_X0_cellOf at h
  split at h
  next =>
    split at h
    next hh => exact ⟨_, _, rfl, rfl, hh⟩
    next => cases h
  next => cases h
set_option maxRecDepth 100000 in
set_option maxHeartbeats 4000000 in
theorem S_X0_cellOf (fu : Nat) {l : Launch} {D : va_G} {cA : Nat → ClassId} {base b : Nat} : CS l D cA base b 1 y_X0_cellOf prog_2_method_14_code 3 (some .int) (U_X0_cellOf fu) ∧ OM (U_X0_cellOf fu) := by
  refine CS_of (d := 0) (y := y_X0_cellOf) (cc := prog_2_method_14_code) (nL := 3) (ret := (some .int)) (F := U_X0_cellOf fu) (fl := fl_BrookStones_Brook) (nl := []) (kl := []) (k2 := []) (mv := []) (ms := []) (mi := []) (ini := false) hI_w hZ_w fl_BrookStones_Brook_ok nil_all nil_all nil_all
    (nil_all)
    (nil_all)
    (nil_all)
    (T := T_X0_cellOf) (by decide +kernel) (cut := [2]) (N := 20) (D_X0_cellOf fu) (by decide +kernel) (fun h => absurd h (by decide)) (fun as w o h => ?_)
  unfold U_X0_cellOf at h
  split at h
  next =>
    split at h
    next => exact ⟨Nat.le_of_ble_eq_true rfl, fu, (E_X0_cellOf fu _ _ w).symm.trans h⟩
    next => cases h
  next => cases h
def T_X7_has : List (Nat × Instr) := [(0, .iload_n 0), (1, .iload_n 1), (2, .ishr), (3, .iconst 1), (4, .iand), (5, .ifCond .eq 7), (8, .iconst 1), (9, .goto 4), (12, .iconst 0), (13, .ireturn)]
def op_X7_has (fu : Nat) : Nat → Kont → XL → List Value → XW → Instr → Option XO := opK 2 (rzOf (some .boolean)) fl_BrookStones nl_BrookStones [] k2_BrookStones [] [] []
def M_X7_has (fu : Nat) (a0 : Int32) (a1 : Int32) (w : XW) : Option XO :=
  (if ((a0 >>> (a1 &&& 31)) &&& (1 : Int32)) = 0 then
    retZ (0 : Int32) w
  else
    retZ (1 : Int32) w)
def U_X7_has (fu : Nat) : Orc := fun as w => match as with
  | [.int a0, .int a1] => M_X7_has fu a0 a1 w
  | _ => none
def K_X7_has (fu : Nat) (n : Nat) : Kont := fun pc ls st w => none
set_option maxRecDepth 100000 in
set_option maxHeartbeats 4000000 in
theorem E_X7_has (fu : Nat) (a0 : Int32) (a1 : Int32) (w : XW) : M_X7_has fu a0 a1 w = ev T_X7_has (op_X7_has fu) [] (K_X7_has fu fu) 12 0 (lv_args 0 [.int a0, .int a1]) [] w := by
  rfl
theorem D_X7_has (fu : Nat) : DS T_X7_has (op_X7_has fu) [] 12 (K_X7_has fu) := by
  refine ⟨fun pc ls st w => rfl, fun n pc ls st w o h => ?_⟩
  cases h
set_option maxRecDepth 100000 in
set_option maxHeartbeats 4000000 in
theorem S_X7_has (fu : Nat) {l : Launch} {D : va_G} {cA : Nat → ClassId} {base b : Nat} : CS l D cA base b 1 y_X7_has prog_1_method_47_code 2 (some .boolean) (U_X7_has fu) ∧ OM (U_X7_has fu) := by
  refine CS_of (d := 0) (y := y_X7_has) (cc := prog_1_method_47_code) (nL := 2) (ret := (some .boolean)) (F := U_X7_has fu) (fl := fl_BrookStones) (nl := nl_BrookStones) (kl := []) (k2 := k2_BrookStones) (mv := []) (ms := []) (mi := []) (ini := false) hI_w hZ_w fl_BrookStones_ok nl_BrookStones_ok nil_all k2_BrookStones_ok
    (nil_all)
    (nil_all)
    (nil_all)
    (T := T_X7_has) (by decide +kernel) (cut := []) (N := 12) (D_X7_has fu) (by decide +kernel) (fun h => absurd h (by decide)) (fun as w o h => ?_)
  unfold U_X7_has at h
  split at h
  next =>
    exact ⟨Nat.le_of_ble_eq_true rfl, fu, (E_X7_has fu _ _ w).symm.trans h⟩
  next => cases h
end
