-- ===== PART A: goes FIRST, ahead of the names: the tables' words, and 'selects' of the private methods out of them =====
/-- a private method of a class that the tables say can be made, by its rows of tables_1 -/
def lw_okq (q : MethodName × Nat) : Prop := (q.1.cls ≠ "java/lang/invoke/MethodHandle" ∧ q.1.cls ≠ "java/lang/invoke/VarHandle") ∧ Cond.instantiable q.1.cls q.2 ∈ tables_1 ∧ Cond.privateMethod q.1 ∈ tables_1 ∧ Cond.instanceMethod q.1 ∈ tables_1
theorem lw_p0 : lw_okq (⟨"StrongParts$Graph", "empty", "()V"⟩, 5) := ⟨⟨by decide +kernel, by decide +kernel⟩, List.mem_of_getElem? (i := 19) (by decide +kernel), List.mem_of_getElem? (i := 111) (by decide +kernel), List.mem_of_getElem? (i := 112) (by decide +kernel)⟩
theorem lw_p1 : lw_okq (⟨"StrongParts", "arePair", "(II)Z"⟩, 4) := ⟨⟨by decide +kernel, by decide +kernel⟩, List.mem_of_getElem? (i := 11) (by decide +kernel), List.mem_of_getElem? (i := 126) (by decide +kernel), List.mem_of_getElem? (i := 127) (by decide +kernel)⟩
theorem lw_p2 : lw_okq (⟨"StrongParts$Graph", "isNode", "(I)Z"⟩, 5) := ⟨⟨by decide +kernel, by decide +kernel⟩, List.mem_of_getElem? (i := 19) (by decide +kernel), List.mem_of_getElem? (i := 130) (by decide +kernel), List.mem_of_getElem? (i := 131) (by decide +kernel)⟩
theorem lw_p3 : lw_okq (⟨"StrongParts$Graph", "isArc", "(II)Z"⟩, 5) := ⟨⟨by decide +kernel, by decide +kernel⟩, List.mem_of_getElem? (i := 19) (by decide +kernel), List.mem_of_getElem? (i := 134) (by decide +kernel), List.mem_of_getElem? (i := 135) (by decide +kernel)⟩
theorem lw_p4 : lw_okq (⟨"StrongParts$Graph", "join", "(II)V"⟩, 5) := ⟨⟨by decide +kernel, by decide +kernel⟩, List.mem_of_getElem? (i := 19) (by decide +kernel), List.mem_of_getElem? (i := 147) (by decide +kernel), List.mem_of_getElem? (i := 148) (by decide +kernel)⟩
theorem lw_p5 : lw_okq (⟨"StrongParts$Graph", "renewNear", "(I)V"⟩, 5) := ⟨⟨by decide +kernel, by decide +kernel⟩, List.mem_of_getElem? (i := 19) (by decide +kernel), List.mem_of_getElem? (i := 155) (by decide +kernel), List.mem_of_getElem? (i := 156) (by decide +kernel)⟩
theorem lw_p6 : lw_okq (⟨"StrongParts$Graph", "sever", "(II)V"⟩, 5) := ⟨⟨by decide +kernel, by decide +kernel⟩, List.mem_of_getElem? (i := 19) (by decide +kernel), List.mem_of_getElem? (i := 163) (by decide +kernel), List.mem_of_getElem? (i := 164) (by decide +kernel)⟩
theorem lw_p7 : lw_okq (⟨"StrongParts$Groups", "takeKnots", "(LStrongParts$Graph;)V"⟩, 2) := ⟨⟨by decide +kernel, by decide +kernel⟩, List.mem_of_getElem? (i := 49) (by decide +kernel), List.mem_of_getElem? (i := 171) (by decide +kernel), List.mem_of_getElem? (i := 172) (by decide +kernel)⟩
theorem lw_p8 : lw_okq (⟨"StrongParts$Graph", "reachedFrom", "(I)I"⟩, 5) := ⟨⟨by decide +kernel, by decide +kernel⟩, List.mem_of_getElem? (i := 19) (by decide +kernel), List.mem_of_getElem? (i := 175) (by decide +kernel), List.mem_of_getElem? (i := 176) (by decide +kernel)⟩
theorem lw_p9 : lw_okq (⟨"StrongParts$Graph", "all", "()I"⟩, 5) := ⟨⟨by decide +kernel, by decide +kernel⟩, List.mem_of_getElem? (i := 19) (by decide +kernel), List.mem_of_getElem? (i := 179) (by decide +kernel), List.mem_of_getElem? (i := 180) (by decide +kernel)⟩
theorem lw_p10 : lw_okq (⟨"StrongParts$Graph", "reaching", "(I)I"⟩, 5) := ⟨⟨by decide +kernel, by decide +kernel⟩, List.mem_of_getElem? (i := 19) (by decide +kernel), List.mem_of_getElem? (i := 189) (by decide +kernel), List.mem_of_getElem? (i := 190) (by decide +kernel)⟩
theorem lw_p11 : lw_okq (⟨"StrongParts$Groups", "addIfFirst", "(II)V"⟩, 2) := ⟨⟨by decide +kernel, by decide +kernel⟩, List.mem_of_getElem? (i := 49) (by decide +kernel), List.mem_of_getElem? (i := 193) (by decide +kernel), List.mem_of_getElem? (i := 194) (by decide +kernel)⟩
theorem lw_p12 : lw_okq (⟨"StrongParts$Groups", "numberOf", "(I)I"⟩, 2) := ⟨⟨by decide +kernel, by decide +kernel⟩, List.mem_of_getElem? (i := 49) (by decide +kernel), List.mem_of_getElem? (i := 206) (by decide +kernel), List.mem_of_getElem? (i := 207) (by decide +kernel)⟩
theorem lw_p13 : lw_okq (⟨"StrongParts", "orderKnots", "()V"⟩, 4) := ⟨⟨by decide +kernel, by decide +kernel⟩, List.mem_of_getElem? (i := 11) (by decide +kernel), List.mem_of_getElem? (i := 221) (by decide +kernel), List.mem_of_getElem? (i := 222) (by decide +kernel)⟩
theorem lw_p14 : lw_okq (⟨"StrongParts$KnotOrder", "take", "(LStrongParts$Graph;LStrongParts$Groups;)V"⟩, 3) := ⟨⟨by decide +kernel, by decide +kernel⟩, List.mem_of_getElem? (i := 66) (by decide +kernel), List.mem_of_getElem? (i := 225) (by decide +kernel), List.mem_of_getElem? (i := 226) (by decide +kernel)⟩
theorem lw_p15 : lw_okq (⟨"StrongParts$KnotOrder", "aheadOf", "(ILStrongParts$Graph;LStrongParts$Groups;)I"⟩, 3) := ⟨⟨by decide +kernel, by decide +kernel⟩, List.mem_of_getElem? (i := 66) (by decide +kernel), List.mem_of_getElem? (i := 232) (by decide +kernel), List.mem_of_getElem? (i := 233) (by decide +kernel)⟩
def lw_privs_1 : List (MethodName × Nat) := [(⟨"StrongParts$Graph", "empty", "()V"⟩, 5), (⟨"StrongParts", "arePair", "(II)Z"⟩, 4), (⟨"StrongParts$Graph", "isNode", "(I)Z"⟩, 5), (⟨"StrongParts$Graph", "isArc", "(II)Z"⟩, 5), (⟨"StrongParts$Graph", "join", "(II)V"⟩, 5), (⟨"StrongParts$Graph", "renewNear", "(I)V"⟩, 5), (⟨"StrongParts$Graph", "sever", "(II)V"⟩, 5), (⟨"StrongParts$Groups", "takeKnots", "(LStrongParts$Graph;)V"⟩, 2), (⟨"StrongParts$Graph", "reachedFrom", "(I)I"⟩, 5), (⟨"StrongParts$Graph", "all", "()I"⟩, 5), (⟨"StrongParts$Graph", "reaching", "(I)I"⟩, 5), (⟨"StrongParts$Groups", "addIfFirst", "(II)V"⟩, 2), (⟨"StrongParts$Groups", "numberOf", "(I)I"⟩, 2), (⟨"StrongParts", "orderKnots", "()V"⟩, 4), (⟨"StrongParts$KnotOrder", "take", "(LStrongParts$Graph;LStrongParts$Groups;)V"⟩, 3), (⟨"StrongParts$KnotOrder", "aheadOf", "(ILStrongParts$Graph;LStrongParts$Groups;)I"⟩, 3)]
theorem lw_r1 : ∀ q ∈ lw_privs_1, lw_okq q := List.forall_mem_cons.mpr ⟨lw_p0, List.forall_mem_cons.mpr ⟨lw_p1, List.forall_mem_cons.mpr ⟨lw_p2, List.forall_mem_cons.mpr ⟨lw_p3, List.forall_mem_cons.mpr ⟨lw_p4, List.forall_mem_cons.mpr ⟨lw_p5, List.forall_mem_cons.mpr ⟨lw_p6, List.forall_mem_cons.mpr ⟨lw_p7, List.forall_mem_cons.mpr ⟨lw_p8, List.forall_mem_cons.mpr ⟨lw_p9, List.forall_mem_cons.mpr ⟨lw_p10, List.forall_mem_cons.mpr ⟨lw_p11, List.forall_mem_cons.mpr ⟨lw_p12, List.forall_mem_cons.mpr ⟨lw_p13, List.forall_mem_cons.mpr ⟨lw_p14, List.forall_mem_cons.mpr ⟨lw_p15, fun _ h => absurd h List.not_mem_nil⟩⟩⟩⟩⟩⟩⟩⟩⟩⟩⟩⟩⟩⟩⟩⟩
theorem lw_p16 : lw_okq (⟨"StrongParts$KnotOrder", "placeOf", "(I)I"⟩, 3) := ⟨⟨by decide +kernel, by decide +kernel⟩, List.mem_of_getElem? (i := 66) (by decide +kernel), List.mem_of_getElem? (i := 240) (by decide +kernel), List.mem_of_getElem? (i := 241) (by decide +kernel)⟩
theorem lw_p17 : lw_okq (⟨"StrongParts$KnotOrder", "ready", "(I)I"⟩, 3) := ⟨⟨by decide +kernel, by decide +kernel⟩, List.mem_of_getElem? (i := 66) (by decide +kernel), List.mem_of_getElem? (i := 244) (by decide +kernel), List.mem_of_getElem? (i := 245) (by decide +kernel)⟩
theorem lw_p18 : lw_okq (⟨"StrongParts$KnotOrder", "countAll", "()J"⟩, 3) := ⟨⟨by decide +kernel, by decide +kernel⟩, List.mem_of_getElem? (i := 66) (by decide +kernel), List.mem_of_getElem? (i := 254) (by decide +kernel), List.mem_of_getElem? (i := 255) (by decide +kernel)⟩
theorem lw_p19 : lw_okq (⟨"StrongParts$KnotOrder", "all", "()I"⟩, 3) := ⟨⟨by decide +kernel, by decide +kernel⟩, List.mem_of_getElem? (i := 66) (by decide +kernel), List.mem_of_getElem? (i := 258) (by decide +kernel), List.mem_of_getElem? (i := 259) (by decide +kernel)⟩
theorem lw_p20 : lw_okq (⟨"StrongParts$KnotOrder", "handOn", "(IJ)V"⟩, 3) := ⟨⟨by decide +kernel, by decide +kernel⟩, List.mem_of_getElem? (i := 66) (by decide +kernel), List.mem_of_getElem? (i := 265) (by decide +kernel), List.mem_of_getElem? (i := 266) (by decide +kernel)⟩
theorem lw_p21 : lw_okq (⟨"StrongParts$KnotOrder", "longestChain", "()I"⟩, 3) := ⟨⟨by decide +kernel, by decide +kernel⟩, List.mem_of_getElem? (i := 66) (by decide +kernel), List.mem_of_getElem? (i := 273) (by decide +kernel), List.mem_of_getElem? (i := 274) (by decide +kernel)⟩
theorem lw_p22 : lw_okq (⟨"StrongParts$Layers", "take", "([II)V"⟩, 1) := ⟨⟨by decide +kernel, by decide +kernel⟩, List.mem_of_getElem? (i := 84) (by decide +kernel), List.mem_of_getElem? (i := 281) (by decide +kernel), List.mem_of_getElem? (i := 282) (by decide +kernel)⟩
theorem lw_p23 : lw_okq (⟨"StrongParts$Layers", "firstWith", "(I)I"⟩, 1) := ⟨⟨by decide +kernel, by decide +kernel⟩, List.mem_of_getElem? (i := 84) (by decide +kernel), List.mem_of_getElem? (i := 287) (by decide +kernel), List.mem_of_getElem? (i := 288) (by decide +kernel)⟩
theorem lw_p24 : lw_okq (⟨"StrongParts$Layers", "follow", "([IIII)I"⟩, 1) := ⟨⟨by decide +kernel, by decide +kernel⟩, List.mem_of_getElem? (i := 84) (by decide +kernel), List.mem_of_getElem? (i := 295) (by decide +kernel), List.mem_of_getElem? (i := 296) (by decide +kernel)⟩
theorem lw_p25 : lw_okq (⟨"StrongParts$Groups", "takeParts", "(LStrongParts$Graph;)V"⟩, 2) := ⟨⟨by decide +kernel, by decide +kernel⟩, List.mem_of_getElem? (i := 49) (by decide +kernel), List.mem_of_getElem? (i := 315) (by decide +kernel), List.mem_of_getElem? (i := 316) (by decide +kernel)⟩
theorem lw_p26 : lw_okq (⟨"StrongParts$Graph", "partAround", "(I)I"⟩, 5) := ⟨⟨by decide +kernel, by decide +kernel⟩, List.mem_of_getElem? (i := 19) (by decide +kernel), List.mem_of_getElem? (i := 319) (by decide +kernel), List.mem_of_getElem? (i := 320) (by decide +kernel)⟩
theorem lw_p27 : lw_okq (⟨"StrongParts$Graph", "sideOf", "(I)I"⟩, 5) := ⟨⟨by decide +kernel, by decide +kernel⟩, List.mem_of_getElem? (i := 19) (by decide +kernel), List.mem_of_getElem? (i := 331) (by decide +kernel), List.mem_of_getElem? (i := 332) (by decide +kernel)⟩
theorem lw_p28 : lw_okq (⟨"StrongParts", "shortestOdd", "()I"⟩, 4) := ⟨⟨by decide +kernel, by decide +kernel⟩, List.mem_of_getElem? (i := 11) (by decide +kernel), List.mem_of_getElem? (i := 342) (by decide +kernel), List.mem_of_getElem? (i := 343) (by decide +kernel)⟩
theorem lw_p29 : lw_okq (⟨"StrongParts$Layers", "firstOddWith", "(I)I"⟩, 1) := ⟨⟨by decide +kernel, by decide +kernel⟩, List.mem_of_getElem? (i := 84) (by decide +kernel), List.mem_of_getElem? (i := 346) (by decide +kernel), List.mem_of_getElem? (i := 347) (by decide +kernel)⟩
theorem lw_p30 : lw_okq (⟨"StrongParts$KnotOrder", "missingArcs", "()I"⟩, 3) := ⟨⟨by decide +kernel, by decide +kernel⟩, List.mem_of_getElem? (i := 66) (by decide +kernel), List.mem_of_getElem? (i := 358) (by decide +kernel), List.mem_of_getElem? (i := 359) (by decide +kernel)⟩
theorem lw_p31 : lw_okq (⟨"StrongParts$Graph", "gatesBetween", "(II)I"⟩, 5) := ⟨⟨by decide +kernel, by decide +kernel⟩, List.mem_of_getElem? (i := 19) (by decide +kernel), List.mem_of_getElem? (i := 384) (by decide +kernel), List.mem_of_getElem? (i := 385) (by decide +kernel)⟩
def lw_privs_2 : List (MethodName × Nat) := [(⟨"StrongParts$KnotOrder", "placeOf", "(I)I"⟩, 3), (⟨"StrongParts$KnotOrder", "ready", "(I)I"⟩, 3), (⟨"StrongParts$KnotOrder", "countAll", "()J"⟩, 3), (⟨"StrongParts$KnotOrder", "all", "()I"⟩, 3), (⟨"StrongParts$KnotOrder", "handOn", "(IJ)V"⟩, 3), (⟨"StrongParts$KnotOrder", "longestChain", "()I"⟩, 3), (⟨"StrongParts$Layers", "take", "([II)V"⟩, 1), (⟨"StrongParts$Layers", "firstWith", "(I)I"⟩, 1), (⟨"StrongParts$Layers", "follow", "([IIII)I"⟩, 1), (⟨"StrongParts$Groups", "takeParts", "(LStrongParts$Graph;)V"⟩, 2), (⟨"StrongParts$Graph", "partAround", "(I)I"⟩, 5), (⟨"StrongParts$Graph", "sideOf", "(I)I"⟩, 5), (⟨"StrongParts", "shortestOdd", "()I"⟩, 4), (⟨"StrongParts$Layers", "firstOddWith", "(I)I"⟩, 1), (⟨"StrongParts$KnotOrder", "missingArcs", "()I"⟩, 3), (⟨"StrongParts$Graph", "gatesBetween", "(II)I"⟩, 5)]
theorem lw_r2 : ∀ q ∈ lw_privs_2, lw_okq q := List.forall_mem_cons.mpr ⟨lw_p16, List.forall_mem_cons.mpr ⟨lw_p17, List.forall_mem_cons.mpr ⟨lw_p18, List.forall_mem_cons.mpr ⟨lw_p19, List.forall_mem_cons.mpr ⟨lw_p20, List.forall_mem_cons.mpr ⟨lw_p21, List.forall_mem_cons.mpr ⟨lw_p22, List.forall_mem_cons.mpr ⟨lw_p23, List.forall_mem_cons.mpr ⟨lw_p24, List.forall_mem_cons.mpr ⟨lw_p25, List.forall_mem_cons.mpr ⟨lw_p26, List.forall_mem_cons.mpr ⟨lw_p27, List.forall_mem_cons.mpr ⟨lw_p28, List.forall_mem_cons.mpr ⟨lw_p29, List.forall_mem_cons.mpr ⟨lw_p30, List.forall_mem_cons.mpr ⟨lw_p31, fun _ h => absurd h List.not_mem_nil⟩⟩⟩⟩⟩⟩⟩⟩⟩⟩⟩⟩⟩⟩⟩⟩
theorem lw_p32 : lw_okq (⟨"StrongParts", "lastOnWay", "(III)I"⟩, 4) := ⟨⟨by decide +kernel, by decide +kernel⟩, List.mem_of_getElem? (i := 11) (by decide +kernel), List.mem_of_getElem? (i := 393) (by decide +kernel), List.mem_of_getElem? (i := 394) (by decide +kernel)⟩
theorem lw_p33 : lw_okq (⟨"StrongParts$Graph", "isNeeded", "(II)Z"⟩, 5) := ⟨⟨by decide +kernel, by decide +kernel⟩, List.mem_of_getElem? (i := 19) (by decide +kernel), List.mem_of_getElem? (i := 401) (by decide +kernel), List.mem_of_getElem? (i := 402) (by decide +kernel)⟩
theorem lw_p34 : lw_okq (⟨"StrongParts$Graph", "comesBack", "(II)Z"⟩, 5) := ⟨⟨by decide +kernel, by decide +kernel⟩, List.mem_of_getElem? (i := 19) (by decide +kernel), List.mem_of_getElem? (i := 413) (by decide +kernel), List.mem_of_getElem? (i := 414) (by decide +kernel)⟩
theorem lw_p35 : lw_okq (⟨"StrongParts$Graph", "countNeeded", "()I"⟩, 5) := ⟨⟨by decide +kernel, by decide +kernel⟩, List.mem_of_getElem? (i := 19) (by decide +kernel), List.mem_of_getElem? (i := 422) (by decide +kernel), List.mem_of_getElem? (i := 423) (by decide +kernel)⟩
theorem lw_p36 : lw_okq (⟨"StrongPartsModel", "isNode", "(I)Z"⟩, 14) := ⟨⟨by decide +kernel, by decide +kernel⟩, List.mem_of_getElem? (i := 428) (by decide +kernel), List.mem_of_getElem? (i := 490) (by decide +kernel), List.mem_of_getElem? (i := 491) (by decide +kernel)⟩
theorem lw_p37 : lw_okq (⟨"StrongPartsModel", "goes", "(II)Z"⟩, 14) := ⟨⟨by decide +kernel, by decide +kernel⟩, List.mem_of_getElem? (i := 428) (by decide +kernel), List.mem_of_getElem? (i := 497) (by decide +kernel), List.mem_of_getElem? (i := 498) (by decide +kernel)⟩
theorem lw_p38 : lw_okq (⟨"StrongPartsModel", "arcs", "()I"⟩, 14) := ⟨⟨by decide +kernel, by decide +kernel⟩, List.mem_of_getElem? (i := 428) (by decide +kernel), List.mem_of_getElem? (i := 501) (by decide +kernel), List.mem_of_getElem? (i := 502) (by decide +kernel)⟩
theorem lw_p39 : lw_okq (⟨"StrongPartsModel", "tie", "()V"⟩, 14) := ⟨⟨by decide +kernel, by decide +kernel⟩, List.mem_of_getElem? (i := 428) (by decide +kernel), List.mem_of_getElem? (i := 513) (by decide +kernel), List.mem_of_getElem? (i := 514) (by decide +kernel)⟩
theorem lw_p40 : lw_okq (⟨"StrongPartsModel", "learn", "(I)V"⟩, 14) := ⟨⟨by decide +kernel, by decide +kernel⟩, List.mem_of_getElem? (i := 428) (by decide +kernel), List.mem_of_getElem? (i := 517) (by decide +kernel), List.mem_of_getElem? (i := 518) (by decide +kernel)⟩
theorem lw_p41 : lw_okq (⟨"StrongPartsModel", "isReached", "(II)Z"⟩, 14) := ⟨⟨by decide +kernel, by decide +kernel⟩, List.mem_of_getElem? (i := 428) (by decide +kernel), List.mem_of_getElem? (i := 521) (by decide +kernel), List.mem_of_getElem? (i := 522) (by decide +kernel)⟩
theorem lw_p42 : lw_okq (⟨"StrongPartsModel", "line", "()V"⟩, 14) := ⟨⟨by decide +kernel, by decide +kernel⟩, List.mem_of_getElem? (i := 428) (by decide +kernel), List.mem_of_getElem? (i := 537) (by decide +kernel), List.mem_of_getElem? (i := 538) (by decide +kernel)⟩
theorem lw_p43 : lw_okq (⟨"StrongPartsModel", "isAhead", "(II)Z"⟩, 14) := ⟨⟨by decide +kernel, by decide +kernel⟩, List.mem_of_getElem? (i := 428) (by decide +kernel), List.mem_of_getElem? (i := 541) (by decide +kernel), List.mem_of_getElem? (i := 542) (by decide +kernel)⟩
theorem lw_p44 : lw_okq (⟨"StrongPartsModel", "measure", "(I)V"⟩, 14) := ⟨⟨by decide +kernel, by decide +kernel⟩, List.mem_of_getElem? (i := 428) (by decide +kernel), List.mem_of_getElem? (i := 557) (by decide +kernel), List.mem_of_getElem? (i := 558) (by decide +kernel)⟩
theorem lw_p45 : lw_okq (⟨"StrongPartsModel", "join", "()V"⟩, 14) := ⟨⟨by decide +kernel, by decide +kernel⟩, List.mem_of_getElem? (i := 428) (by decide +kernel), List.mem_of_getElem? (i := 577) (by decide +kernel), List.mem_of_getElem? (i := 578) (by decide +kernel)⟩
theorem lw_p46 : lw_okq (⟨"StrongPartsModel", "spread", "(I)V"⟩, 14) := ⟨⟨by decide +kernel, by decide +kernel⟩, List.mem_of_getElem? (i := 428) (by decide +kernel), List.mem_of_getElem? (i := 581) (by decide +kernel), List.mem_of_getElem? (i := 582) (by decide +kernel)⟩
theorem lw_p47 : lw_okq (⟨"StrongPartsModel", "touch", "(II)Z"⟩, 14) := ⟨⟨by decide +kernel, by decide +kernel⟩, List.mem_of_getElem? (i := 428) (by decide +kernel), List.mem_of_getElem? (i := 585) (by decide +kernel), List.mem_of_getElem? (i := 586) (by decide +kernel)⟩
def lw_privs_3 : List (MethodName × Nat) := [(⟨"StrongParts", "lastOnWay", "(III)I"⟩, 4), (⟨"StrongParts$Graph", "isNeeded", "(II)Z"⟩, 5), (⟨"StrongParts$Graph", "comesBack", "(II)Z"⟩, 5), (⟨"StrongParts$Graph", "countNeeded", "()I"⟩, 5), (⟨"StrongPartsModel", "isNode", "(I)Z"⟩, 14), (⟨"StrongPartsModel", "goes", "(II)Z"⟩, 14), (⟨"StrongPartsModel", "arcs", "()I"⟩, 14), (⟨"StrongPartsModel", "tie", "()V"⟩, 14), (⟨"StrongPartsModel", "learn", "(I)V"⟩, 14), (⟨"StrongPartsModel", "isReached", "(II)Z"⟩, 14), (⟨"StrongPartsModel", "line", "()V"⟩, 14), (⟨"StrongPartsModel", "isAhead", "(II)Z"⟩, 14), (⟨"StrongPartsModel", "measure", "(I)V"⟩, 14), (⟨"StrongPartsModel", "join", "()V"⟩, 14), (⟨"StrongPartsModel", "spread", "(I)V"⟩, 14), (⟨"StrongPartsModel", "touch", "(II)Z"⟩, 14)]
theorem lw_r3 : ∀ q ∈ lw_privs_3, lw_okq q := List.forall_mem_cons.mpr ⟨lw_p32, List.forall_mem_cons.mpr ⟨lw_p33, List.forall_mem_cons.mpr ⟨lw_p34, List.forall_mem_cons.mpr ⟨lw_p35, List.forall_mem_cons.mpr ⟨lw_p36, List.forall_mem_cons.mpr ⟨lw_p37, List.forall_mem_cons.mpr ⟨lw_p38, List.forall_mem_cons.mpr ⟨lw_p39, List.forall_mem_cons.mpr ⟨lw_p40, List.forall_mem_cons.mpr ⟨lw_p41, List.forall_mem_cons.mpr ⟨lw_p42, List.forall_mem_cons.mpr ⟨lw_p43, List.forall_mem_cons.mpr ⟨lw_p44, List.forall_mem_cons.mpr ⟨lw_p45, List.forall_mem_cons.mpr ⟨lw_p46, List.forall_mem_cons.mpr ⟨lw_p47, fun _ h => absurd h List.not_mem_nil⟩⟩⟩⟩⟩⟩⟩⟩⟩⟩⟩⟩⟩⟩⟩⟩
theorem lw_p48 : lw_okq (⟨"StrongPartsModel", "oddOne", "()I"⟩, 14) := ⟨⟨by decide +kernel, by decide +kernel⟩, List.mem_of_getElem? (i := 428) (by decide +kernel), List.mem_of_getElem? (i := 601) (by decide +kernel), List.mem_of_getElem? (i := 602) (by decide +kernel)⟩
theorem lw_p49 : lw_okq (⟨"StrongPartsModel", "isRing", "(I)Z"⟩, 14) := ⟨⟨by decide +kernel, by decide +kernel⟩, List.mem_of_getElem? (i := 428) (by decide +kernel), List.mem_of_getElem? (i := 605) (by decide +kernel), List.mem_of_getElem? (i := 606) (by decide +kernel)⟩
theorem lw_p50 : lw_okq (⟨"StrongPartsModel", "has", "(II)Z"⟩, 14) := ⟨⟨by decide +kernel, by decide +kernel⟩, List.mem_of_getElem? (i := 428) (by decide +kernel), List.mem_of_getElem? (i := 629) (by decide +kernel), List.mem_of_getElem? (i := 630) (by decide +kernel)⟩
theorem lw_p51 : lw_okq (⟨"StrongPartsModel", "gatesOf", "(II)I"⟩, 14) := ⟨⟨by decide +kernel, by decide +kernel⟩, List.mem_of_getElem? (i := 428) (by decide +kernel), List.mem_of_getElem? (i := 633) (by decide +kernel), List.mem_of_getElem? (i := 634) (by decide +kernel)⟩
theorem lw_p52 : lw_okq (⟨"StrongPartsModel", "isNeeded", "(II)Z"⟩, 14) := ⟨⟨by decide +kernel, by decide +kernel⟩, List.mem_of_getElem? (i := 428) (by decide +kernel), List.mem_of_getElem? (i := 648) (by decide +kernel), List.mem_of_getElem? (i := 649) (by decide +kernel)⟩
theorem lw_p53 : lw_okq (⟨"StrongPartsModel", "isLoose", "(I)Z"⟩, 14) := ⟨⟨by decide +kernel, by decide +kernel⟩, List.mem_of_getElem? (i := 428) (by decide +kernel), List.mem_of_getElem? (i := 656) (by decide +kernel), List.mem_of_getElem? (i := 657) (by decide +kernel)⟩
def lw_privs_4 : List (MethodName × Nat) := [(⟨"StrongPartsModel", "oddOne", "()I"⟩, 14), (⟨"StrongPartsModel", "isRing", "(I)Z"⟩, 14), (⟨"StrongPartsModel", "has", "(II)Z"⟩, 14), (⟨"StrongPartsModel", "gatesOf", "(II)I"⟩, 14), (⟨"StrongPartsModel", "isNeeded", "(II)Z"⟩, 14), (⟨"StrongPartsModel", "isLoose", "(I)Z"⟩, 14)]
theorem lw_r4 : ∀ q ∈ lw_privs_4, lw_okq q := List.forall_mem_cons.mpr ⟨lw_p48, List.forall_mem_cons.mpr ⟨lw_p49, List.forall_mem_cons.mpr ⟨lw_p50, List.forall_mem_cons.mpr ⟨lw_p51, List.forall_mem_cons.mpr ⟨lw_p52, List.forall_mem_cons.mpr ⟨lw_p53, fun _ h => absurd h List.not_mem_nil⟩⟩⟩⟩⟩⟩
def lw_privs : List (MethodName × Nat) := lw_privs_1 ++ (lw_privs_2 ++ (lw_privs_3 ++ (lw_privs_4)))
def lw_tbl : List Cond := k2_sels lw_privs ++ tables_1
theorem lw_privs_ok : ∀ q ∈ lw_privs, lw_okq q := by
  show ∀ q ∈ lw_privs_1 ++ (lw_privs_2 ++ (lw_privs_3 ++ (lw_privs_4))), lw_okq q
  exact List.forall_mem_append.mpr ⟨lw_r1, List.forall_mem_append.mpr ⟨lw_r2, List.forall_mem_append.mpr ⟨lw_r3, lw_r4⟩⟩⟩
/-! the words that every contract of mine takes along: all good words of the tables; and the words of nest mates, which go along as a premise -/
theorem lw_good_ex : ∃ g : List Cond, g = lw_tbl.filter goodWord := ⟨_, rfl⟩
noncomputable def lw_good : List Cond := Classical.choose lw_good_ex
theorem lw_good_iff {w : Cond} : w ∈ lw_good ↔ w ∈ lw_tbl ∧ goodWord w = true := by
  rw [show lw_good = lw_tbl.filter goodWord from Classical.choose_spec lw_good_ex]
  exact List.mem_filter
def isNest : Cond → Bool
  | .methodLinkNest _ _ _ _ => true
  | .fieldLinkNest _ _ _ _ _ _ => true
  | _ => false
theorem lw_nest_ex : ∃ g : List Cond, g = lw_tbl.filter isNest := ⟨_, rfl⟩
noncomputable def lw_nest : List Cond := Classical.choose lw_nest_ex
theorem lw_nest_iff {w : Cond} : w ∈ lw_nest ↔ w ∈ lw_tbl ∧ isNest w = true := by
  rw [show lw_nest = lw_tbl.filter isNest from Classical.choose_spec lw_nest_ex]
  exact List.mem_filter
theorem good_of_places (ws : List Cond) (ps : List Nat) (hp : ws = ps.filterMap (fun i => lw_tbl[i]?)) (h : ws.all goodWord = true) : ∀ w ∈ ws, w ∈ lw_good := by
  intro w hw
  have h1 := List.all_eq_true.mp h w hw
  rw [hp] at hw
  obtain ⟨i, -, hi⟩ := List.mem_filterMap.mp hw
  exact lw_good_iff.mpr ⟨List.mem_of_getElem? hi, h1⟩
def Nst (U : State) : Prop := ∀ w ∈ lw_nest, va_Nw w U
theorem isNest_tables {w : Cond} (h : isNest w = true) : w.onTables = true := by
  cases w <;> first | rfl | cases h
theorem Nst.same {u U : State} (h : u.vm = U.vm) (hN : Nst u) : Nst U := fun w hw => va_Nw.same (isNest_tables (lw_nest_iff.mp hw).2) h (hN w hw)
theorem Nst.warm {s U : State} (hW : s.WarmedH U.vm) (hN : Nst s) : Nst U := by
  intro w hw
  have h := hN w hw
  have hn := (lw_nest_iff.mp hw).2
  cases w <;> first | exact va_Nw.warmM hW h | exact va_Nw.warmF hW h | cases hn
theorem Nst.start {args : Array Value} {s : State} (h : ∀ w ∈ lw_tbl, w.before args s = true) : Nst s := fun w hw => va_Nw.of (isNest_tables (lw_nest_iff.mp hw).2) (h w (lw_nest_iff.mp hw).1)
noncomputable abbrev ww (y : MethodName) (cc : ByteArray) (maxL : Nat) (ret : Option FieldType) : List Cond := Cond.code y cc maxL ret :: lw_good
theorem ww_hts {y : MethodName} {cc : ByteArray} {maxL : Nat} {ret : Option FieldType} {args : Array Value} {s : State} (h : ∀ w ∈ ww y cc maxL ret, w.before args s = true) : ∀ w ∈ lw_good, w.before args s = true := fun w hw => h w (List.mem_cons_of_mem _ hw)
theorem g_one {w : Cond} (h : w ∈ lw_good) : w ∈ lw_good ∧ ((w.onTables && w.keeps) = true ∨ ∃ ty, w = .arrayClass ty) := ⟨h, good_of_word (lw_good_iff.mp h).2⟩
theorem g_in {y : MethodName} {cc : ByteArray} {maxL : Nat} {ret : Option FieldType} (h : Cond.code y cc maxL ret ∈ lw_good) : GoodIn lw_good (ww y cc maxL ret) := by
  intro w hw
  rcases List.mem_cons.mp hw with rfl | hw
  · exact g_one h
  · exact g_one hw
theorem gV {own C : String} {idx : Nat} {y : MethodName} {ws : List Cond} (hg : GoodIn lw_good ws) (h1 : Cond.methodLink own idx y ∈ lw_good) (h2 : Cond.instanceMethod y ∈ lw_good) (h3 : Cond.selects C y y ∈ lw_good) (h4 : Cond.initialized C ∈ lw_good) : GoodIn lw_good (wsV own idx C y ws) := by
  intro w hw
  rcases List.mem_append.mp hw with hw | hw
  · simp only [List.mem_cons, List.not_mem_nil, or_false] at hw
    rcases hw with rfl | rfl | rfl | rfl
    · exact g_one h1
    · exact g_one h2
    · exact g_one h3
    · exact g_one h4
  · exact hg w hw
theorem gS {own : String} {idx : Nat} {y : MethodName} {ws : List Cond} (hg : GoodIn lw_good ws) (h1 : Cond.methodLink own idx y ∈ lw_good) (h2 : Cond.static y ∈ lw_good) (h4 : Cond.initialized y.cls ∈ lw_good) : GoodIn lw_good (va_wsS own idx y ws) := by
  intro w hw
  rcases List.mem_append.mp hw with hw | hw
  · simp only [List.mem_cons, List.not_mem_nil, or_false] at hw
    rcases hw with rfl | rfl | rfl
    · exact g_one h1
    · exact g_one h2
    · exact g_one h4
  · exact hg w hw
def T_0 : u_T := fun k => match k with
  | 0 => ("StrongParts$Graph", "out", "[I", true)
  | 1 => ("StrongParts$Graph", "into", "[I", true)
  | 2 => ("StrongParts$Graph", "near", "[I", true)
  | 3 => ("StrongParts$Graph", "nodes", "I", false)
  | _ => ("StrongParts$Graph", "arcs", "I", false)
def t_0 : Nat → FieldType := fun k => match k with
  | 0 => .array .int
  | 1 => .array .int
  | 2 => .array .int
  | 3 => .int
  | _ => .int
theorem n_0 : ∀ a, a < 5 → ∀ b, b < 5 → a ≠ b → (T_0 a).2.1 ≠ (T_0 b).2.1 := by decide +kernel
theorem t_0_ok : ∀ k, k < 5 → parseFieldDescriptor (T_0 k).2.2.1 = some (t_0 k) := by decide +kernel
theorem dv_0 : ∀ j, j < 5 → defaultValue (t_0 j) = vp_V [.null, .null, .null, .int 0, .int 0] j := by
  intro j hj
  rcases (show j = 0 ∨ j = 1 ∨ j = 2 ∨ j = 3 ∨ j = 4 by omega) with rfl | rfl | rfl | rfl | rfl <;> rfl
theorem in_0 : ∀ w ∈ u_ws "StrongParts$Graph" T_0 5, w ∈ lw_good := good_of_places _ [90, 92, 94, 96, 98] (by decide +kernel) (by decide +kernel)
def T_1 : u_T := fun k => match k with
  | 0 => ("StrongParts$Groups", "sets", "[I", true)
  | _ => ("StrongParts$Groups", "size", "I", false)
def t_1 : Nat → FieldType := fun k => match k with
  | 0 => .array .int
  | _ => .int
theorem n_1 : ∀ a, a < 2 → ∀ b, b < 2 → a ≠ b → (T_1 a).2.1 ≠ (T_1 b).2.1 := by decide +kernel
theorem t_1_ok : ∀ k, k < 2 → parseFieldDescriptor (T_1 k).2.2.1 = some (t_1 k) := by decide +kernel
theorem dv_1 : ∀ j, j < 2 → defaultValue (t_1 j) = vp_V [.null, .int 0] j := by
  intro j hj
  rcases (show j = 0 ∨ j = 1 by omega) with rfl | rfl <;> rfl
theorem in_1 : ∀ w ∈ u_ws "StrongParts$Groups" T_1 2, w ∈ lw_good := good_of_places _ [114, 116] (by decide +kernel) (by decide +kernel)
def T_2 : u_T := fun k => match k with
  | 0 => ("StrongParts$KnotOrder", "before", "[I", true)
  | 1 => ("StrongParts$KnotOrder", "size", "I", false)
  | _ => ("StrongParts$KnotOrder", "counts", "[J", false)
def t_2 : Nat → FieldType := fun k => match k with
  | 0 => .array .int
  | 1 => .int
  | _ => .array .long
theorem n_2 : ∀ a, a < 3 → ∀ b, b < 3 → a ≠ b → (T_2 a).2.1 ≠ (T_2 b).2.1 := by decide +kernel
theorem t_2_ok : ∀ k, k < 3 → parseFieldDescriptor (T_2 k).2.2.1 = some (t_2 k) := by decide +kernel
theorem dv_2 : ∀ j, j < 3 → defaultValue (t_2 j) = vp_V [.null, .int 0, .null] j := by
  intro j hj
  rcases (show j = 0 ∨ j = 1 ∨ j = 2 by omega) with rfl | rfl | rfl <;> rfl
theorem in_2 : ∀ w ∈ u_ws "StrongParts$KnotOrder" T_2 3, w ∈ lw_good := good_of_places _ [129, 131, 133] (by decide +kernel) (by decide +kernel)
def T_3 : u_T := fun k => match k with
  | _ => ("StrongParts$Layers", "sets", "[I", true)
def t_3 : Nat → FieldType := fun k => match k with
  | _ => .array .int
theorem n_3 : ∀ a, a < 1 → ∀ b, b < 1 → a ≠ b → (T_3 a).2.1 ≠ (T_3 b).2.1 := by decide +kernel
theorem t_3_ok : ∀ k, k < 1 → parseFieldDescriptor (T_3 k).2.2.1 = some (t_3 k) := by decide +kernel
theorem dv_3 : ∀ j, j < 1 → defaultValue (t_3 j) = vp_V [.null] j := by
  intro j hj
  rcases (show j = 0 by omega) with rfl <;> rfl
theorem in_3 : ∀ w ∈ u_ws "StrongParts$Layers" T_3 1, w ∈ lw_good := good_of_places _ [144] (by decide +kernel) (by decide +kernel)
def T_4 : u_T := fun k => match k with
  | 0 => ("StrongParts", "graph", "LStrongParts$Graph;", true)
  | 1 => ("StrongParts", "groups", "LStrongParts$Groups;", true)
  | 2 => ("StrongParts", "knotOrder", "LStrongParts$KnotOrder;", true)
  | _ => ("StrongParts", "layers", "LStrongParts$Layers;", true)
def t_4 : Nat → FieldType := fun k => match k with
  | 0 => .object "StrongParts$Graph"
  | 1 => .object "StrongParts$Groups"
  | 2 => .object "StrongParts$KnotOrder"
  | _ => .object "StrongParts$Layers"
theorem n_4 : ∀ a, a < 4 → ∀ b, b < 4 → a ≠ b → (T_4 a).2.1 ≠ (T_4 b).2.1 := by decide +kernel
theorem t_4_ok : ∀ k, k < 4 → parseFieldDescriptor (T_4 k).2.2.1 = some (t_4 k) := by decide +kernel
theorem dv_4 : ∀ j, j < 4 → defaultValue (t_4 j) = vp_V [.null, .null, .null, .null] j := by
  intro j hj
  rcases (show j = 0 ∨ j = 1 ∨ j = 2 ∨ j = 3 by omega) with rfl | rfl | rfl | rfl <;> rfl
theorem in_4 : ∀ w ∈ u_ws "StrongParts" T_4 4, w ∈ lw_good := good_of_places _ [151, 153, 155, 157] (by decide +kernel) (by decide +kernel)
def T_5 : u_T := fun k => match k with
  | 0 => ("StrongPartsModel", "nodes", "I", false)
  | 1 => ("StrongPartsModel", "isArc", "[Z", true)
  | 2 => ("StrongPartsModel", "reaches", "[Z", true)
  | 3 => ("StrongPartsModel", "knotOf", "[I", true)
  | 4 => ("StrongPartsModel", "knots", "I", false)
  | 5 => ("StrongPartsModel", "aheadOf", "[I", true)
  | 6 => ("StrongPartsModel", "rows", "[J", true)
  | 7 => ("StrongPartsModel", "deep", "[I", true)
  | 8 => ("StrongPartsModel", "left", "[I", true)
  | 9 => ("StrongPartsModel", "partOf", "[I", true)
  | 10 => ("StrongPartsModel", "sideOf", "[I", true)
  | 11 => ("StrongPartsModel", "isOdd", "[Z", true)
  | 12 => ("StrongPartsModel", "parts", "I", false)
  | _ => ("StrongPartsModel", "row", "[I", true)
def t_5 : Nat → FieldType := fun k => match k with
  | 0 => .int
  | 1 => .array .boolean
  | 2 => .array .boolean
  | 3 => .array .int
  | 4 => .int
  | 5 => .array .int
  | 6 => .array .long
  | 7 => .array .int
  | 8 => .array .int
  | 9 => .array .int
  | 10 => .array .int
  | 11 => .array .boolean
  | 12 => .int
  | _ => .array .int
theorem n_5 : ∀ a, a < 14 → ∀ b, b < 14 → a ≠ b → (T_5 a).2.1 ≠ (T_5 b).2.1 := by decide +kernel
theorem t_5_ok : ∀ k, k < 14 → parseFieldDescriptor (T_5 k).2.2.1 = some (t_5 k) := by decide +kernel
theorem dv_5 : ∀ j, j < 14 → defaultValue (t_5 j) = vp_V [.int 0, .null, .null, .null, .int 0, .null, .null, .null, .null, .null, .null, .null, .int 0, .null] j := by
  intro j hj
  rcases (show j = 0 ∨ j = 1 ∨ j = 2 ∨ j = 3 ∨ j = 4 ∨ j = 5 ∨ j = 6 ∨ j = 7 ∨ j = 8 ∨ j = 9 ∨ j = 10 ∨ j = 11 ∨ j = 12 ∨ j = 13 by omega) with rfl | rfl | rfl | rfl | rfl | rfl | rfl | rfl | rfl | rfl | rfl | rfl | rfl | rfl <;> rfl
theorem in_5 : ∀ w ∈ u_ws "StrongPartsModel" T_5 14, w ∈ lw_good := good_of_places _ [501, 503, 505, 507, 509, 511, 513, 515, 517, 519, 521, 523, 525, 527] (by decide +kernel) (by decide +kernel)
abbrev classes : List vw_C := [("StrongParts$Graph", T_0, 5), ("StrongParts$Groups", T_1, 2), ("StrongParts$KnotOrder", T_2, 3), ("StrongParts$Layers", T_3, 1), ("StrongParts", T_4, 4), ("StrongPartsModel", T_5, 14)]
/-! a contract's start and end, the same for all -/
def cPre (D : va_G) (ws : va_W) (tys : List (ClassId × FieldType)) (sz : Nat) (U : State) : Prop := U.heap.size = sz ∧ va_P D classes ws U.heap ∧ va_K D classes tys U ∧ va_D (fun _ => True) ws ∧ Nst U
def cEnd (D : va_G) (ws : va_W) (tys : List (ClassId × FieldType)) (A : Nat → Prop) (_ : Unit) (t : State) : Prop := va_P D classes ws t.heap ∧ va_K D classes tys t ∧ va_D A ws
theorem cPre_blind {av : List Value} {D : va_G} {ws : va_W} {tys : List (ClassId × FieldType)} {sz : Nat} : FrameBlind (va_Pc av (cPre D ws tys sz)) := by
  intro a U g mk q
  obtain ⟨q0, q1, qP, qK, qD, qN⟩ := q
  exact ⟨q0, q1, qP, va_K.moved (u := U) (U := U.calling g mk a) (Vm.Alike.refl U.vm) qK, qD, Nst.same (u := U) (U := U.calling g mk a) (show U.vm = (U.calling g mk a).vm from rfl) qN⟩
theorem cPre_pre {av : List Value} {s : State} {H : Heap} {A : Nat → Prop} {D : va_G} {ws : va_W} {tys : List (ClassId × FieldType)} (hP : va_P D classes ws H) (hK : va_K D classes tys s) (hD : va_D A ws) (hN : Nst s) : ∀ U : State, U.heap = H → s.WarmedH U.vm → va_Pc av (cPre D ws tys H.size) av.toArray U :=
  fun U hU hW => ⟨rfl, by rw [hU], by rw [hU]; exact hP, va_K.moved hW.alike hK, hD.weaken (fun _ _ _ _ => trivial), hN.warm hW⟩
theorem cEnd_mk {s t : State} {H : Heap} {A : Nat → Prop} {D : va_G} {ws : va_W} {tys : List (ClassId × FieldType)} (hP : va_P D classes ws H) (hK : va_K D classes tys s) (hD : va_D A ws) (ht : t.heap = H) (hW : s.WarmedH t.vm) : cEnd D ws tys A () t := ⟨by rw [ht]; exact hP, va_K.moved hW.alike hK, hD⟩
theorem out_m1 (p : Int32) : p < 0 ∨ (-1) < p := by
  by_cases h : p < 0
  · exact Or.inl h
  · exact Or.inr (Int32.lt_of_lt_of_le (by decide) (Int32.not_lt.mp h))
theorem out_m2 (p : Int32) : p < 0 ∨ (-2) < p := by
  by_cases h : p < 0
  · exact Or.inl h
  · exact Or.inr (Int32.lt_of_lt_of_le (by decide) (Int32.not_lt.mp h))
theorem sw_out (p : Int32) (h : p < 0 ∨ 2 < p) : p.toInt < 0 ∨ 2 < p.toInt := by
  rcases h with h | h
  · exact Or.inl (by simpa using Int32.lt_iff_toInt_lt.mp h)
  · exact Or.inr (by simpa using Int32.lt_iff_toInt_lt.mp h)
