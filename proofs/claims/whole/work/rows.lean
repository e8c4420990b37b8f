section
-- ===== PART A: goes FIRST, ahead of the names: the tables' words, and 'selects' of the private methods out of them =====
/-- a private method of a class that the tables say can be made, by its rows of tables_1 -/
def lw_okq (q : MethodName × Nat) : Prop := (q.1.cls ≠ "java/lang/invoke/MethodHandle" ∧ q.1.cls ≠ "java/lang/invoke/VarHandle") ∧ Cond.instantiable q.1.cls q.2 ∈ tables_1 ∧ Cond.privateMethod q.1 ∈ tables_1 ∧ Cond.instanceMethod q.1 ∈ tables_1
theorem lw_p0 : lw_okq (⟨"DeltaRuns", "refuse", "(I)I"⟩, 9) := ⟨⟨by decide +kernel, by decide +kernel⟩, List.mem_of_getElem? (i := 16) (by decide +kernel), List.mem_of_getElem? (i := 221) (by decide +kernel), List.mem_of_getElem? (i := 222) (by decide +kernel)⟩
theorem lw_p1 : lw_okq (⟨"DeltaRuns", "forgetRuns", "()V"⟩, 9) := ⟨⟨by decide +kernel, by decide +kernel⟩, List.mem_of_getElem? (i := 16) (by decide +kernel), List.mem_of_getElem? (i := 226) (by decide +kernel), List.mem_of_getElem? (i := 227) (by decide +kernel)⟩
theorem lw_p2 : lw_okq (⟨"DeltaRuns", "accept", "(I)I"⟩, 9) := ⟨⟨by decide +kernel, by decide +kernel⟩, List.mem_of_getElem? (i := 16) (by decide +kernel), List.mem_of_getElem? (i := 230) (by decide +kernel), List.mem_of_getElem? (i := 231) (by decide +kernel)⟩
theorem lw_p3 : lw_okq (⟨"DeltaRuns$Reader", "step", "()V"⟩, 5) := ⟨⟨by decide +kernel, by decide +kernel⟩, List.mem_of_getElem? (i := 274) (by decide +kernel), List.mem_of_getElem? (i := 300) (by decide +kernel), List.mem_of_getElem? (i := 301) (by decide +kernel)⟩
theorem lw_p4 : lw_okq (⟨"DeltaRuns$Reader", "atEnd", "()Z"⟩, 5) := ⟨⟨by decide +kernel, by decide +kernel⟩, List.mem_of_getElem? (i := 274) (by decide +kernel), List.mem_of_getElem? (i := 304) (by decide +kernel), List.mem_of_getElem? (i := 305) (by decide +kernel)⟩
theorem lw_p5 : lw_okq (⟨"DeltaRuns$Reader", "readAct", "(I)Z"⟩, 5) := ⟨⟨by decide +kernel, by decide +kernel⟩, List.mem_of_getElem? (i := 274) (by decide +kernel), List.mem_of_getElem? (i := 314) (by decide +kernel), List.mem_of_getElem? (i := 315) (by decide +kernel)⟩
theorem lw_p6 : lw_okq (⟨"DeltaRuns$Reader", "takes", "(Ljava/lang/String;)Z"⟩, 5) := ⟨⟨by decide +kernel, by decide +kernel⟩, List.mem_of_getElem? (i := 274) (by decide +kernel), List.mem_of_getElem? (i := 319) (by decide +kernel), List.mem_of_getElem? (i := 320) (by decide +kernel)⟩
theorem lw_p7 : lw_okq (⟨"DeltaRuns$Reader", "takesNumber", "(II)Z"⟩, 5) := ⟨⟨by decide +kernel, by decide +kernel⟩, List.mem_of_getElem? (i := 274) (by decide +kernel), List.mem_of_getElem? (i := 371) (by decide +kernel), List.mem_of_getElem? (i := 372) (by decide +kernel)⟩
theorem lw_p8 : lw_okq (⟨"DeltaRuns$Reader", "takeKind", "()I"⟩, 5) := ⟨⟨by decide +kernel, by decide +kernel⟩, List.mem_of_getElem? (i := 274) (by decide +kernel), List.mem_of_getElem? (i := 379) (by decide +kernel), List.mem_of_getElem? (i := 380) (by decide +kernel)⟩
theorem lw_p9 : lw_okq (⟨"DeltaRuns", "runTo", "(II)LDeltaRuns$Years;"⟩, 9) := ⟨⟨by decide +kernel, by decide +kernel⟩, List.mem_of_getElem? (i := 16) (by decide +kernel), List.mem_of_getElem? (i := 398) (by decide +kernel), List.mem_of_getElem? (i := 399) (by decide +kernel)⟩
theorem lw_p10 : lw_okq (⟨"DeltaRuns", "startedYears", "(I)LDeltaRuns$Years;"⟩, 9) := ⟨⟨by decide +kernel, by decide +kernel⟩, List.mem_of_getElem? (i := 16) (by decide +kernel), List.mem_of_getElem? (i := 402) (by decide +kernel), List.mem_of_getElem? (i := 403) (by decide +kernel)⟩
theorem lw_p11 : lw_okq (⟨"DeltaRuns", "takeUp", "(LDeltaRuns$Years;I)V"⟩, 9) := ⟨⟨by decide +kernel, by decide +kernel⟩, List.mem_of_getElem? (i := 16) (by decide +kernel), List.mem_of_getElem? (i := 424) (by decide +kernel), List.mem_of_getElem? (i := 425) (by decide +kernel)⟩
theorem lw_p12 : lw_okq (⟨"DeltaRuns$Water", "dryUp", "()V"⟩, 11) := ⟨⟨by decide +kernel, by decide +kernel⟩, List.mem_of_getElem? (i := 106) (by decide +kernel), List.mem_of_getElem? (i := 454) (by decide +kernel), List.mem_of_getElem? (i := 455) (by decide +kernel)⟩
theorem lw_p13 : lw_okq (⟨"DeltaRuns$Water", "pour", "(II)V"⟩, 11) := ⟨⟨by decide +kernel, by decide +kernel⟩, List.mem_of_getElem? (i := 106) (by decide +kernel), List.mem_of_getElem? (i := 458) (by decide +kernel), List.mem_of_getElem? (i := 459) (by decide +kernel)⟩
theorem lw_p14 : lw_okq (⟨"DeltaRuns$Water", "goesAhead", "(II)Z"⟩, 11) := ⟨⟨by decide +kernel, by decide +kernel⟩, List.mem_of_getElem? (i := 106) (by decide +kernel), List.mem_of_getElem? (i := 462) (by decide +kernel), List.mem_of_getElem? (i := 463) (by decide +kernel)⟩
theorem lw_p15 : lw_okq (⟨"DeltaRuns$Water", "giveOn", "(LDeltaRuns$Land;II)V"⟩, 11) := ⟨⟨by decide +kernel, by decide +kernel⟩, List.mem_of_getElem? (i := 106) (by decide +kernel), List.mem_of_getElem? (i := 466) (by decide +kernel), List.mem_of_getElem? (i := 467) (by decide +kernel)⟩
def lw_privs_1 : List (MethodName × Nat) := [(⟨"DeltaRuns", "refuse", "(I)I"⟩, 9), (⟨"DeltaRuns", "forgetRuns", "()V"⟩, 9), (⟨"DeltaRuns", "accept", "(I)I"⟩, 9), (⟨"DeltaRuns$Reader", "step", "()V"⟩, 5), (⟨"DeltaRuns$Reader", "atEnd", "()Z"⟩, 5), (⟨"DeltaRuns$Reader", "readAct", "(I)Z"⟩, 5), (⟨"DeltaRuns$Reader", "takes", "(Ljava/lang/String;)Z"⟩, 5), (⟨"DeltaRuns$Reader", "takesNumber", "(II)Z"⟩, 5), (⟨"DeltaRuns$Reader", "takeKind", "()I"⟩, 5), (⟨"DeltaRuns", "runTo", "(II)LDeltaRuns$Years;"⟩, 9), (⟨"DeltaRuns", "startedYears", "(I)LDeltaRuns$Years;"⟩, 9), (⟨"DeltaRuns", "takeUp", "(LDeltaRuns$Years;I)V"⟩, 9), (⟨"DeltaRuns$Water", "dryUp", "()V"⟩, 11), (⟨"DeltaRuns$Water", "pour", "(II)V"⟩, 11), (⟨"DeltaRuns$Water", "goesAhead", "(II)Z"⟩, 11), (⟨"DeltaRuns$Water", "giveOn", "(LDeltaRuns$Land;II)V"⟩, 11)]
theorem lw_r1 : ∀ q ∈ lw_privs_1, lw_okq q := List.forall_mem_cons.mpr ⟨lw_p0, List.forall_mem_cons.mpr ⟨lw_p1, List.forall_mem_cons.mpr ⟨lw_p2, List.forall_mem_cons.mpr ⟨lw_p3, List.forall_mem_cons.mpr ⟨lw_p4, List.forall_mem_cons.mpr ⟨lw_p5, List.forall_mem_cons.mpr ⟨lw_p6, List.forall_mem_cons.mpr ⟨lw_p7, List.forall_mem_cons.mpr ⟨lw_p8, List.forall_mem_cons.mpr ⟨lw_p9, List.forall_mem_cons.mpr ⟨lw_p10, List.forall_mem_cons.mpr ⟨lw_p11, List.forall_mem_cons.mpr ⟨lw_p12, List.forall_mem_cons.mpr ⟨lw_p13, List.forall_mem_cons.mpr ⟨lw_p14, List.forall_mem_cons.mpr ⟨lw_p15, fun _ h => absurd h List.not_mem_nil⟩⟩⟩⟩⟩⟩⟩⟩⟩⟩⟩⟩⟩⟩⟩⟩
theorem lw_p16 : lw_okq (⟨"DeltaRuns$Water", "findWays", "(LDeltaRuns$Land;I)V"⟩, 11) := ⟨⟨by decide +kernel, by decide +kernel⟩, List.mem_of_getElem? (i := 106) (by decide +kernel), List.mem_of_getElem? (i := 470) (by decide +kernel), List.mem_of_getElem? (i := 471) (by decide +kernel)⟩
theorem lw_p17 : lw_okq (⟨"DeltaRuns$Water", "shareToLowest", "(I)V"⟩, 11) := ⟨⟨by decide +kernel, by decide +kernel⟩, List.mem_of_getElem? (i := 106) (by decide +kernel), List.mem_of_getElem? (i := 480) (by decide +kernel), List.mem_of_getElem? (i := 481) (by decide +kernel)⟩
theorem lw_p18 : lw_okq (⟨"DeltaRuns$Water", "firstGreatest", "([I)I"⟩, 11) := ⟨⟨by decide +kernel, by decide +kernel⟩, List.mem_of_getElem? (i := 106) (by decide +kernel), List.mem_of_getElem? (i := 484) (by decide +kernel), List.mem_of_getElem? (i := 485) (by decide +kernel)⟩
theorem lw_p19 : lw_okq (⟨"DeltaRuns$Water", "shareEvenly", "(I)V"⟩, 11) := ⟨⟨by decide +kernel, by decide +kernel⟩, List.mem_of_getElem? (i := 106) (by decide +kernel), List.mem_of_getElem? (i := 488) (by decide +kernel), List.mem_of_getElem? (i := 489) (by decide +kernel)⟩
theorem lw_p20 : lw_okq (⟨"DeltaRuns$Water", "shareByDrops", "(I)V"⟩, 11) := ⟨⟨by decide +kernel, by decide +kernel⟩, List.mem_of_getElem? (i := 106) (by decide +kernel), List.mem_of_getElem? (i := 492) (by decide +kernel), List.mem_of_getElem? (i := 493) (by decide +kernel)⟩
theorem lw_p21 : lw_okq (⟨"DeltaRuns", "againstFrom", "(III)I"⟩, 9) := ⟨⟨by decide +kernel, by decide +kernel⟩, List.mem_of_getElem? (i := 16) (by decide +kernel), List.mem_of_getElem? (i := 531) (by decide +kernel), List.mem_of_getElem? (i := 532) (by decide +kernel)⟩
theorem lw_p22 : lw_okq (⟨"DeltaRunsModel", "flat", "()V"⟩, 38) := ⟨⟨by decide +kernel, by decide +kernel⟩, List.mem_of_getElem? (i := 560) (by decide +kernel), List.mem_of_getElem? (i := 566) (by decide +kernel), List.mem_of_getElem? (i := 567) (by decide +kernel)⟩
theorem lw_p23 : lw_okq (⟨"DeltaRunsModel", "told", "(I)I"⟩, 38) := ⟨⟨by decide +kernel, by decide +kernel⟩, List.mem_of_getElem? (i := 560) (by decide +kernel), List.mem_of_getElem? (i := 695) (by decide +kernel), List.mem_of_getElem? (i := 696) (by decide +kernel)⟩
theorem lw_p24 : lw_okq (⟨"DeltaRunsModel", "isCell", "(II)Z"⟩, 38) := ⟨⟨by decide +kernel, by decide +kernel⟩, List.mem_of_getElem? (i := 560) (by decide +kernel), List.mem_of_getElem? (i := 704) (by decide +kernel), List.mem_of_getElem? (i := 705) (by decide +kernel)⟩
theorem lw_p25 : lw_okq (⟨"DeltaRunsModel", "four", "(I)V"⟩, 38) := ⟨⟨by decide +kernel, by decide +kernel⟩, List.mem_of_getElem? (i := 560) (by decide +kernel), List.mem_of_getElem? (i := 721) (by decide +kernel), List.mem_of_getElem? (i := 722) (by decide +kernel)⟩
theorem lw_p26 : lw_okq (⟨"DeltaRunsModel", "next", "()V"⟩, 38) := ⟨⟨by decide +kernel, by decide +kernel⟩, List.mem_of_getElem? (i := 560) (by decide +kernel), List.mem_of_getElem? (i := 733) (by decide +kernel), List.mem_of_getElem? (i := 734) (by decide +kernel)⟩
theorem lw_p27 : lw_okq (⟨"DeltaRunsModel", "readAct", "()V"⟩, 38) := ⟨⟨by decide +kernel, by decide +kernel⟩, List.mem_of_getElem? (i := 560) (by decide +kernel), List.mem_of_getElem? (i := 747) (by decide +kernel), List.mem_of_getElem? (i := 748) (by decide +kernel)⟩
theorem lw_p28 : lw_okq (⟨"DeltaRunsModel", "isWord", "(IIIIII)Z"⟩, 38) := ⟨⟨by decide +kernel, by decide +kernel⟩, List.mem_of_getElem? (i := 560) (by decide +kernel), List.mem_of_getElem? (i := 751) (by decide +kernel), List.mem_of_getElem? (i := 752) (by decide +kernel)⟩
theorem lw_p29 : lw_okq (⟨"DeltaRunsModel", "must", "(Z)V"⟩, 38) := ⟨⟨by decide +kernel, by decide +kernel⟩, List.mem_of_getElem? (i := 560) (by decide +kernel), List.mem_of_getElem? (i := 755) (by decide +kernel), List.mem_of_getElem? (i := 756) (by decide +kernel)⟩
theorem lw_p30 : lw_okq (⟨"DeltaRunsModel", "number", "(JJ)I"⟩, 38) := ⟨⟨by decide +kernel, by decide +kernel⟩, List.mem_of_getElem? (i := 560) (by decide +kernel), List.mem_of_getElem? (i := 760) (by decide +kernel), List.mem_of_getElem? (i := 761) (by decide +kernel)⟩
theorem lw_p31 : lw_okq (⟨"DeltaRunsModel", "run", "(II)V"⟩, 38) := ⟨⟨by decide +kernel, by decide +kernel⟩, List.mem_of_getElem? (i := 560) (by decide +kernel), List.mem_of_getElem? (i := 782) (by decide +kernel), List.mem_of_getElem? (i := 783) (by decide +kernel)⟩
def lw_privs_2 : List (MethodName × Nat) := [(⟨"DeltaRuns$Water", "findWays", "(LDeltaRuns$Land;I)V"⟩, 11), (⟨"DeltaRuns$Water", "shareToLowest", "(I)V"⟩, 11), (⟨"DeltaRuns$Water", "firstGreatest", "([I)I"⟩, 11), (⟨"DeltaRuns$Water", "shareEvenly", "(I)V"⟩, 11), (⟨"DeltaRuns$Water", "shareByDrops", "(I)V"⟩, 11), (⟨"DeltaRuns", "againstFrom", "(III)I"⟩, 9), (⟨"DeltaRunsModel", "flat", "()V"⟩, 38), (⟨"DeltaRunsModel", "told", "(I)I"⟩, 38), (⟨"DeltaRunsModel", "isCell", "(II)Z"⟩, 38), (⟨"DeltaRunsModel", "four", "(I)V"⟩, 38), (⟨"DeltaRunsModel", "next", "()V"⟩, 38), (⟨"DeltaRunsModel", "readAct", "()V"⟩, 38), (⟨"DeltaRunsModel", "isWord", "(IIIIII)Z"⟩, 38), (⟨"DeltaRunsModel", "must", "(Z)V"⟩, 38), (⟨"DeltaRunsModel", "number", "(JJ)I"⟩, 38), (⟨"DeltaRunsModel", "run", "(II)V"⟩, 38)]
theorem lw_r2 : ∀ q ∈ lw_privs_2, lw_okq q := List.forall_mem_cons.mpr ⟨lw_p16, List.forall_mem_cons.mpr ⟨lw_p17, List.forall_mem_cons.mpr ⟨lw_p18, List.forall_mem_cons.mpr ⟨lw_p19, List.forall_mem_cons.mpr ⟨lw_p20, List.forall_mem_cons.mpr ⟨lw_p21, List.forall_mem_cons.mpr ⟨lw_p22, List.forall_mem_cons.mpr ⟨lw_p23, List.forall_mem_cons.mpr ⟨lw_p24, List.forall_mem_cons.mpr ⟨lw_p25, List.forall_mem_cons.mpr ⟨lw_p26, List.forall_mem_cons.mpr ⟨lw_p27, List.forall_mem_cons.mpr ⟨lw_p28, List.forall_mem_cons.mpr ⟨lw_p29, List.forall_mem_cons.mpr ⟨lw_p30, List.forall_mem_cons.mpr ⟨lw_p31, fun _ h => absurd h List.not_mem_nil⟩⟩⟩⟩⟩⟩⟩⟩⟩⟩⟩⟩⟩⟩⟩⟩
theorem lw_p32 : lw_okq (⟨"DeltaRunsModel", "begin", "()V"⟩, 38) := ⟨⟨by decide +kernel, by decide +kernel⟩, List.mem_of_getElem? (i := 560) (by decide +kernel), List.mem_of_getElem? (i := 786) (by decide +kernel), List.mem_of_getElem? (i := 787) (by decide +kernel)⟩
theorem lw_p33 : lw_okq (⟨"DeltaRunsModel", "year", "(II)V"⟩, 38) := ⟨⟨by decide +kernel, by decide +kernel⟩, List.mem_of_getElem? (i := 560) (by decide +kernel), List.mem_of_getElem? (i := 790) (by decide +kernel), List.mem_of_getElem? (i := 791) (by decide +kernel)⟩
theorem lw_p34 : lw_okq (⟨"DeltaRunsModel", "act", "(I)V"⟩, 38) := ⟨⟨by decide +kernel, by decide +kernel⟩, List.mem_of_getElem? (i := 560) (by decide +kernel), List.mem_of_getElem? (i := 794) (by decide +kernel), List.mem_of_getElem? (i := 795) (by decide +kernel)⟩
theorem lw_p35 : lw_okq (⟨"DeltaRunsModel", "putInOrder", "()V"⟩, 38) := ⟨⟨by decide +kernel, by decide +kernel⟩, List.mem_of_getElem? (i := 560) (by decide +kernel), List.mem_of_getElem? (i := 798) (by decide +kernel), List.mem_of_getElem? (i := 799) (by decide +kernel)⟩
theorem lw_p36 : lw_okq (⟨"DeltaRunsModel", "share", "(II)Z"⟩, 38) := ⟨⟨by decide +kernel, by decide +kernel⟩, List.mem_of_getElem? (i := 560) (by decide +kernel), List.mem_of_getElem? (i := 802) (by decide +kernel), List.mem_of_getElem? (i := 803) (by decide +kernel)⟩
theorem lw_p37 : lw_okq (⟨"DeltaRunsModel", "sideOf", "(II)I"⟩, 38) := ⟨⟨by decide +kernel, by decide +kernel⟩, List.mem_of_getElem? (i := 560) (by decide +kernel), List.mem_of_getElem? (i := 806) (by decide +kernel), List.mem_of_getElem? (i := 807) (by decide +kernel)⟩
theorem lw_p38 : lw_okq (⟨"DeltaRunsModel", "restsAhead", "(III)I"⟩, 38) := ⟨⟨by decide +kernel, by decide +kernel⟩, List.mem_of_getElem? (i := 560) (by decide +kernel), List.mem_of_getElem? (i := 810) (by decide +kernel), List.mem_of_getElem? (i := 811) (by decide +kernel)⟩
theorem lw_p39 : lw_okq (⟨"DeltaRunsModel", "compareAll", "(I)V"⟩, 38) := ⟨⟨by decide +kernel, by decide +kernel⟩, List.mem_of_getElem? (i := 560) (by decide +kernel), List.mem_of_getElem? (i := 833) (by decide +kernel), List.mem_of_getElem? (i := 834) (by decide +kernel)⟩
theorem lw_p40 : lw_okq (⟨"DeltaRunsModel", "compare", "(II)V"⟩, 38) := ⟨⟨by decide +kernel, by decide +kernel⟩, List.mem_of_getElem? (i := 560) (by decide +kernel), List.mem_of_getElem? (i := 837) (by decide +kernel), List.mem_of_getElem? (i := 838) (by decide +kernel)⟩
def lw_privs_3 : List (MethodName × Nat) := [(⟨"DeltaRunsModel", "begin", "()V"⟩, 38), (⟨"DeltaRunsModel", "year", "(II)V"⟩, 38), (⟨"DeltaRunsModel", "act", "(I)V"⟩, 38), (⟨"DeltaRunsModel", "putInOrder", "()V"⟩, 38), (⟨"DeltaRunsModel", "share", "(II)Z"⟩, 38), (⟨"DeltaRunsModel", "sideOf", "(II)I"⟩, 38), (⟨"DeltaRunsModel", "restsAhead", "(III)I"⟩, 38), (⟨"DeltaRunsModel", "compareAll", "(I)V"⟩, 38), (⟨"DeltaRunsModel", "compare", "(II)V"⟩, 38)]
theorem lw_r3 : ∀ q ∈ lw_privs_3, lw_okq q := List.forall_mem_cons.mpr ⟨lw_p32, List.forall_mem_cons.mpr ⟨lw_p33, List.forall_mem_cons.mpr ⟨lw_p34, List.forall_mem_cons.mpr ⟨lw_p35, List.forall_mem_cons.mpr ⟨lw_p36, List.forall_mem_cons.mpr ⟨lw_p37, List.forall_mem_cons.mpr ⟨lw_p38, List.forall_mem_cons.mpr ⟨lw_p39, List.forall_mem_cons.mpr ⟨lw_p40, fun _ h => absurd h List.not_mem_nil⟩⟩⟩⟩⟩⟩⟩⟩⟩
def lw_privs : List (MethodName × Nat) := lw_privs_1 ++ (lw_privs_2 ++ (lw_privs_3))
def lw_tbl : List Cond := k2_sels lw_privs ++ tables_1
theorem lw_privs_ok : ∀ q ∈ lw_privs, lw_okq q := by
  show ∀ q ∈ lw_privs_1 ++ (lw_privs_2 ++ (lw_privs_3)), lw_okq q
  exact List.forall_mem_append.mpr ⟨lw_r1, List.forall_mem_append.mpr ⟨lw_r2, lw_r3⟩⟩
end
section
def RX0 : String := "DeltaRuns$Entries"
def TX0 : u_T := fun k => match k with
  | 0 => ("DeltaRuns$Entries", "years", "[I", true)
  | 1 => ("DeltaRuns$Entries", "cells", "[I", true)
  | 2 => ("DeltaRuns$Entries", "heights", "[I", true)
  | 3 => ("DeltaRuns$Entries", "days", "[I", true)
  | _ => ("DeltaRuns$Entries", "total", "I", false)
def tyX0 : Nat → FieldType := fun k => match k with
  | 0 => .array .int
  | 1 => .array .int
  | 2 => .array .int
  | 3 => .array .int
  | _ => .int
abbrev wsX00 : List Cond := u_ws RX0 TX0 5
theorem nmX0 : ∀ a, a < 5 → ∀ b, b < 5 → a ≠ b → (TX0 a).2.1 ≠ (TX0 b).2.1 := by decide +kernel
theorem tyX0_ok : ∀ k, k < 5 → parseFieldDescriptor (TX0 k).2.2.1 = some (tyX0 k) := by decide +kernel
abbrev cX0_init : ByteArray := prog_2_method_1_code
def yX0_init : MethodName := ⟨RX0, "<init>", "()V"⟩
abbrev cX0_add : ByteArray := prog_2_method_2_code
def yX0_add : MethodName := ⟨RX0, "add", "(IIII)V"⟩
def RX1 : String := "DeltaRuns$Land"
def TX1 : u_T := fun k => match k with
  | 0 => ("DeltaRuns$Land", "heights", "[I", true)
  | 1 => ("DeltaRuns$Land", "width", "I", false)
  | 2 => ("DeltaRuns$Land", "depth", "I", false)
  | 3 => ("DeltaRuns$Land", "springCell", "I", false)
  | 4 => ("DeltaRuns$Land", "springFlow", "I", false)
  | _ => ("DeltaRuns$Land", "lakeLevel", "I", false)
def tyX1 : Nat → FieldType := fun k => match k with
  | 0 => .array .int
  | 1 => .int
  | 2 => .int
  | 3 => .int
  | 4 => .int
  | _ => .int
abbrev wsX10 : List Cond := u_ws RX1 TX1 6
theorem nmX1 : ∀ a, a < 6 → ∀ b, b < 6 → a ≠ b → (TX1 a).2.1 ≠ (TX1 b).2.1 := by decide +kernel
theorem tyX1_ok : ∀ k, k < 6 → parseFieldDescriptor (TX1 k).2.2.1 = some (tyX1 k) := by decide +kernel
abbrev cX1_init : ByteArray := prog_3_method_1_code
def yX1_init : MethodName := ⟨RX1, "<init>", "()V"⟩
abbrev cX1_layOut : ByteArray := prog_3_method_2_code
def yX1_layOut : MethodName := ⟨RX1, "layOut", "(II)V"⟩
abbrev cX1_has : ByteArray := prog_3_method_3_code
def yX1_has : MethodName := ⟨RX1, "has", "(II)Z"⟩
abbrev cX1_raise : ByteArray := prog_3_method_4_code
def yX1_raise : MethodName := ⟨RX1, "raise", "(IIIII)I"⟩
def RX2 : String := "DeltaRuns$Plan"
def TX2 : u_T := fun k => match k with
  | 0 => ("DeltaRuns$Plan", "years", "[I", true)
  | 1 => ("DeltaRuns$Plan", "kinds", "[I", true)
  | 2 => ("DeltaRuns$Plan", "columns", "[I", true)
  | 3 => ("DeltaRuns$Plan", "rows", "[I", true)
  | 4 => ("DeltaRuns$Plan", "numbers", "[I", true)
  | _ => ("DeltaRuns$Plan", "total", "I", false)
def tyX2 : Nat → FieldType := fun k => match k with
  | 0 => .array .int
  | 1 => .array .int
  | 2 => .array .int
  | 3 => .array .int
  | 4 => .array .int
  | _ => .int
abbrev wsX20 : List Cond := u_ws RX2 TX2 6
theorem nmX2 : ∀ a, a < 6 → ∀ b, b < 6 → a ≠ b → (TX2 a).2.1 ≠ (TX2 b).2.1 := by decide +kernel
theorem tyX2_ok : ∀ k, k < 6 → parseFieldDescriptor (TX2 k).2.2.1 = some (tyX2 k) := by decide +kernel
abbrev cX2_init : ByteArray := prog_4_method_1_code
def yX2_init : MethodName := ⟨RX2, "<init>", "()V"⟩
abbrev cX2_workIn : ByteArray := prog_4_method_2_code
def yX2_workIn : MethodName := ⟨RX2, "workIn", "(ILDeltaRuns$Land;LDeltaRuns$Water;)V"⟩
abbrev cX2_dykesIn : ByteArray := prog_4_method_3_code
def yX2_dykesIn : MethodName := ⟨RX2, "dykesIn", "(ILDeltaRuns$Land;LDeltaRuns$Water;)V"⟩
def RX3 : String := "DeltaRuns$Reader"
def TX3 : u_T := fun k => match k with
  | 0 => ("DeltaRuns$Reader", "text", "LDeltaRuns$Tape;", true)
  | 1 => ("DeltaRuns$Reader", "acts", "LDeltaRuns$Plan;", true)
  | 2 => ("DeltaRuns$Reader", "start", "I", false)
  | 3 => ("DeltaRuns$Reader", "stop", "I", false)
  | _ => ("DeltaRuns$Reader", "number", "I", false)
def tyX3 : Nat → FieldType := fun k => match k with
  | 0 => .object "DeltaRuns$Tape"
  | 1 => .object "DeltaRuns$Plan"
  | 2 => .int
  | 3 => .int
  | _ => .int
abbrev wsX30 : List Cond := u_ws RX3 TX3 5
theorem nmX3 : ∀ a, a < 5 → ∀ b, b < 5 → a ≠ b → (TX3 a).2.1 ≠ (TX3 b).2.1 := by decide +kernel
theorem tyX3_ok : ∀ k, k < 5 → parseFieldDescriptor (TX3 k).2.2.1 = some (tyX3 k) := by decide +kernel
abbrev cX3_init : ByteArray := prog_5_method_1_code
def yX3_init : MethodName := ⟨RX3, "<init>", "(LDeltaRuns$Tape;LDeltaRuns$Plan;)V"⟩
abbrev cX3_readPlan : ByteArray := prog_5_method_2_code
def yX3_readPlan : MethodName := ⟨RX3, "readPlan", "()I"⟩
abbrev cX3_readAct : ByteArray := prog_5_method_3_code
def yX3_readAct : MethodName := ⟨RX3, "readAct", "(I)Z"⟩
abbrev cX3_takeKind : ByteArray := prog_5_method_4_code
def yX3_takeKind : MethodName := ⟨RX3, "takeKind", "()I"⟩
abbrev cX3_takes : ByteArray := prog_5_method_5_code
def yX3_takes : MethodName := ⟨RX3, "takes", "(Ljava/lang/String;)Z"⟩
abbrev cX3_takesNumber : ByteArray := prog_5_method_6_code
def yX3_takesNumber : MethodName := ⟨RX3, "takesNumber", "(II)Z"⟩
abbrev cX3_atEnd : ByteArray := prog_5_method_7_code
def yX3_atEnd : MethodName := ⟨RX3, "atEnd", "()Z"⟩
abbrev cX3_step : ByteArray := prog_5_method_8_code
def yX3_step : MethodName := ⟨RX3, "step", "()V"⟩
abbrev cX3_isLetter : ByteArray := prog_5_method_9_code
def yX3_isLetter : MethodName := ⟨RX3, "isLetter", "(I)Z"⟩
abbrev cX3_isDigit : ByteArray := prog_5_method_10_code
def yX3_isDigit : MethodName := ⟨RX3, "isDigit", "(I)Z"⟩
def RX4 : String := "DeltaRuns$Tape"
def TX4 : u_T := fun k => match k with
  | 0 => ("DeltaRuns$Tape", "bytes", "[B", true)
  | _ => ("DeltaRuns$Tape", "length", "I", false)
def tyX4 : Nat → FieldType := fun k => match k with
  | 0 => .array .byte
  | _ => .int
abbrev wsX40 : List Cond := u_ws RX4 TX4 2
theorem nmX4 : ∀ a, a < 2 → ∀ b, b < 2 → a ≠ b → (TX4 a).2.1 ≠ (TX4 b).2.1 := by decide +kernel
theorem tyX4_ok : ∀ k, k < 2 → parseFieldDescriptor (TX4 k).2.2.1 = some (tyX4 k) := by decide +kernel
abbrev cX4_init : ByteArray := prog_6_method_1_code
def yX4_init : MethodName := ⟨RX4, "<init>", "()V"⟩
abbrev cX4_addFour : ByteArray := prog_6_method_2_code
def yX4_addFour : MethodName := ⟨RX4, "addFour", "(I)V"⟩
def RX5 : String := "DeltaRuns$Water"
def TX5 : u_T := fun k => match k with
  | 0 => ("DeltaRuns$Water", "heights", "[I", true)
  | 1 => ("DeltaRuns$Water", "dykes", "[Z", true)
  | 2 => ("DeltaRuns$Water", "came", "[I", true)
  | 3 => ("DeltaRuns$Water", "pits", "[Z", true)
  | 4 => ("DeltaRuns$Water", "wet", "[I", true)
  | 5 => ("DeltaRuns$Water", "wetTotal", "I", false)
  | 6 => ("DeltaRuns$Water", "ways", "[I", true)
  | 7 => ("DeltaRuns$Water", "drops", "[I", true)
  | 8 => ("DeltaRuns$Water", "shares", "[I", true)
  | 9 => ("DeltaRuns$Water", "rests", "[I", true)
  | _ => ("DeltaRuns$Water", "waysTotal", "I", false)
def tyX5 : Nat → FieldType := fun k => match k with
  | 0 => .array .int
  | 1 => .array .boolean
  | 2 => .array .int
  | 3 => .array .boolean
  | 4 => .array .int
  | 5 => .int
  | 6 => .array .int
  | 7 => .array .int
  | 8 => .array .int
  | 9 => .array .int
  | _ => .int
abbrev wsX50 : List Cond := u_ws RX5 TX5 11
theorem nmX5 : ∀ a, a < 11 → ∀ b, b < 11 → a ≠ b → (TX5 a).2.1 ≠ (TX5 b).2.1 := by decide +kernel
theorem tyX5_ok : ∀ k, k < 11 → parseFieldDescriptor (TX5 k).2.2.1 = some (tyX5 k) := by decide +kernel
abbrev cX5_init : ByteArray := prog_7_method_1_code
def yX5_init : MethodName := ⟨RX5, "<init>", "()V"⟩
abbrev cX5_run : ByteArray := prog_7_method_2_code
def yX5_run : MethodName := ⟨RX5, "run", "(LDeltaRuns$Land;I)V"⟩
abbrev cX5_dryUp : ByteArray := prog_7_method_3_code
def yX5_dryUp : MethodName := ⟨RX5, "dryUp", "()V"⟩
abbrev cX5_settle : ByteArray := prog_7_method_4_code
def yX5_settle : MethodName := ⟨RX5, "settle", "(III)V"⟩
abbrev cX5_giveOn : ByteArray := prog_7_method_5_code
def yX5_giveOn : MethodName := ⟨RX5, "giveOn", "(LDeltaRuns$Land;II)V"⟩
abbrev cX5_findWays : ByteArray := prog_7_method_6_code
def yX5_findWays : MethodName := ⟨RX5, "findWays", "(LDeltaRuns$Land;I)V"⟩
abbrev cX5_shareToLowest : ByteArray := prog_7_method_7_code
def yX5_shareToLowest : MethodName := ⟨RX5, "shareToLowest", "(I)V"⟩
abbrev cX5_shareEvenly : ByteArray := prog_7_method_8_code
def yX5_shareEvenly : MethodName := ⟨RX5, "shareEvenly", "(I)V"⟩
abbrev cX5_shareByDrops : ByteArray := prog_7_method_9_code
def yX5_shareByDrops : MethodName := ⟨RX5, "shareByDrops", "(I)V"⟩
abbrev cX5_firstGreatest : ByteArray := prog_7_method_10_code
def yX5_firstGreatest : MethodName := ⟨RX5, "firstGreatest", "([I)I"⟩
abbrev cX5_pour : ByteArray := prog_7_method_11_code
def yX5_pour : MethodName := ⟨RX5, "pour", "(II)V"⟩
abbrev cX5_goesAhead : ByteArray := prog_7_method_12_code
def yX5_goesAhead : MethodName := ⟨RX5, "goesAhead", "(II)Z"⟩
def RX6 : String := "DeltaRuns$Years"
def TX6 : u_T := fun k => match k with
  | 0 => ("DeltaRuns$Years", "packed", "[J", true)
  | _ => ("DeltaRuns$Years", "latest", "I", false)
def tyX6 : Nat → FieldType := fun k => match k with
  | 0 => .array .long
  | _ => .int
abbrev wsX60 : List Cond := u_ws RX6 TX6 2
theorem nmX6 : ∀ a, a < 2 → ∀ b, b < 2 → a ≠ b → (TX6 a).2.1 ≠ (TX6 b).2.1 := by decide +kernel
theorem tyX6_ok : ∀ k, k < 2 → parseFieldDescriptor (TX6 k).2.2.1 = some (tyX6 k) := by decide +kernel
abbrev cX6_init : ByteArray := prog_8_method_1_code
def yX6_init : MethodName := ⟨RX6, "<init>", "()V"⟩
abbrev cX6_keep : ByteArray := prog_8_method_2_code
def yX6_keep : MethodName := ⟨RX6, "keep", "(I[I)V"⟩
abbrev cX6_heightOf : ByteArray := prog_8_method_3_code
def yX6_heightOf : MethodName := ⟨RX6, "heightOf", "(II)I"⟩
def RX7 : String := "DeltaRuns"
def TX7 : u_T := fun k => match k with
  | 0 => ("DeltaRuns", "land", "LDeltaRuns$Land;", true)
  | 1 => ("DeltaRuns", "tape", "LDeltaRuns$Tape;", true)
  | 2 => ("DeltaRuns", "entries", "LDeltaRuns$Entries;", true)
  | 3 => ("DeltaRuns", "water", "LDeltaRuns$Water;", true)
  | 4 => ("DeltaRuns", "yearsOfRules", "[LDeltaRuns$Years;", true)
  | 5 => ("DeltaRuns", "plan", "LDeltaRuns$Plan;", false)
  | 6 => ("DeltaRuns", "draft", "LDeltaRuns$Plan;", false)
  | 7 => ("DeltaRuns", "faultPlace", "I", false)
  | _ => ("DeltaRuns", "refusal", "I", false)
def tyX7 : Nat → FieldType := fun k => match k with
  | 0 => .object "DeltaRuns$Land"
  | 1 => .object "DeltaRuns$Tape"
  | 2 => .object "DeltaRuns$Entries"
  | 3 => .object "DeltaRuns$Water"
  | 4 => .array (.object "DeltaRuns$Years")
  | 5 => .object "DeltaRuns$Plan"
  | 6 => .object "DeltaRuns$Plan"
  | 7 => .int
  | _ => .int
abbrev wsX70 : List Cond := u_ws RX7 TX7 9
theorem nmX7 : ∀ a, a < 9 → ∀ b, b < 9 → a ≠ b → (TX7 a).2.1 ≠ (TX7 b).2.1 := by decide +kernel
theorem tyX7_ok : ∀ k, k < 9 → parseFieldDescriptor (TX7 k).2.2.1 = some (tyX7 k) := by decide +kernel
abbrev cX7_init : ByteArray := prog_1_method_1_code
def yX7_init : MethodName := ⟨RX7, "<init>", "()V"⟩
abbrev cX7_size : ByteArray := prog_1_method_2_code
def yX7_size : MethodName := ⟨RX7, "size", "(II)I"⟩
abbrev cX7_land : ByteArray := prog_1_method_3_code
def yX7_land : MethodName := ⟨RX7, "land", "(IIIII)I"⟩
abbrev cX7_level : ByteArray := prog_1_method_4_code
def yX7_level : MethodName := ⟨RX7, "level", "(I)I"⟩
abbrev cX7_spring : ByteArray := prog_1_method_5_code
def yX7_spring : MethodName := ⟨RX7, "spring", "(III)I"⟩
abbrev cX7_feed : ByteArray := prog_1_method_6_code
def yX7_feed : MethodName := ⟨RX7, "feed", "(IIIII)I"⟩
abbrev cX7_end : ByteArray := prog_1_method_7_code
def yX7_end : MethodName := ⟨RX7, "end", "(I)I"⟩
abbrev cX7_plan : ByteArray := prog_1_method_8_code
def yX7_plan : MethodName := ⟨RX7, "plan", "()I"⟩
abbrev cX7_fault : ByteArray := prog_1_method_9_code
def yX7_fault : MethodName := ⟨RX7, "fault", "()I"⟩
abbrev cX7_height : ByteArray := prog_1_method_10_code
def yX7_height : MethodName := ⟨RX7, "height", "(IIII)I"⟩
abbrev cX7_flow : ByteArray := prog_1_method_11_code
def yX7_flow : MethodName := ⟨RX7, "flow", "(IIII)I"⟩
abbrev cX7_lake : ByteArray := prog_1_method_12_code
def yX7_lake : MethodName := ⟨RX7, "lake", "(II)I"⟩
abbrev cX7_map : ByteArray := prog_1_method_13_code
def yX7_map : MethodName := ⟨RX7, "map", "(IIIII)I"⟩
abbrev cX7_stays : ByteArray := prog_1_method_14_code
def yX7_stays : MethodName := ⟨RX7, "stays", "(II)I"⟩
abbrev cX7_foretold : ByteArray := prog_1_method_15_code
def yX7_foretold : MethodName := ⟨RX7, "foretold", "(IIIII)I"⟩
abbrev cX7_wasted : ByteArray := prog_1_method_16_code
def yX7_wasted : MethodName := ⟨RX7, "wasted", "(I)I"⟩
abbrev cX7_against : ByteArray := prog_1_method_17_code
def yX7_against : MethodName := ⟨RX7, "against", "(II)I"⟩
abbrev cX7_count : ByteArray := prog_1_method_18_code
def yX7_count : MethodName := ⟨RX7, "count", "(I)I"⟩
abbrev cX7_status : ByteArray := prog_1_method_19_code
def yX7_status : MethodName := ⟨RX7, "status", "()I"⟩
abbrev cX7_refuse : ByteArray := prog_1_method_20_code
def yX7_refuse : MethodName := ⟨RX7, "refuse", "(I)I"⟩
abbrev cX7_accept : ByteArray := prog_1_method_21_code
def yX7_accept : MethodName := ⟨RX7, "accept", "(I)I"⟩
abbrev cX7_forgetRuns : ByteArray := prog_1_method_22_code
def yX7_forgetRuns : MethodName := ⟨RX7, "forgetRuns", "()V"⟩
abbrev cX7_runTo : ByteArray := prog_1_method_23_code
def yX7_runTo : MethodName := ⟨RX7, "runTo", "(II)LDeltaRuns$Years;"⟩
abbrev cX7_startedYears : ByteArray := prog_1_method_24_code
def yX7_startedYears : MethodName := ⟨RX7, "startedYears", "(I)LDeltaRuns$Years;"⟩
abbrev cX7_takeUp : ByteArray := prog_1_method_25_code
def yX7_takeUp : MethodName := ⟨RX7, "takeUp", "(LDeltaRuns$Years;I)V"⟩
abbrev cX7_againstFrom : ByteArray := prog_1_method_26_code
def yX7_againstFrom : MethodName := ⟨RX7, "againstFrom", "(III)I"⟩
abbrev cX7_trend : ByteArray := prog_1_method_27_code
def yX7_trend : MethodName := ⟨RX7, "trend", "(III)I"⟩
abbrev cX7_within : ByteArray := prog_1_method_28_code
def yX7_within : MethodName := ⟨RX7, "within", "(III)Z"⟩
abbrev cX7_isDay : ByteArray := prog_1_method_29_code
def yX7_isDay : MethodName := ⟨RX7, "isDay", "(I)Z"⟩
abbrev cX7_cellAt : ByteArray := prog_1_method_30_code
def yX7_cellAt : MethodName := ⟨RX7, "cellAt", "(II)I"⟩
abbrev cX7_sortOf : ByteArray := prog_1_method_31_code
def yX7_sortOf : MethodName := ⟨RX7, "sortOf", "(I)I"⟩
abbrev cX7_rateOf : ByteArray := prog_1_method_32_code
def yX7_rateOf : MethodName := ⟨RX7, "rateOf", "(I)I"⟩
abbrev cX7_wearOf : ByteArray := prog_1_method_33_code
def yX7_wearOf : MethodName := ⟨RX7, "wearOf", "(I)I"⟩
def RX8 : String := "DeltaRunsModel"
def TX8 : u_T := fun k => match k with
  | 0 => ("DeltaRunsModel", "thrown", "I", false)
  | 1 => ("DeltaRunsModel", "status", "I", false)
  | 2 => ("DeltaRunsModel", "wide", "I", false)
  | 3 => ("DeltaRunsModel", "high", "I", false)
  | 4 => ("DeltaRunsModel", "level", "I", false)
  | 5 => ("DeltaRunsModel", "spring", "I", false)
  | 6 => ("DeltaRunsModel", "comes", "I", false)
  | 7 => ("DeltaRunsModel", "land", "[I", true)
  | 8 => ("DeltaRunsModel", "acts", "I", false)
  | 9 => ("DeltaRunsModel", "aSort", "[I", true)
  | 10 => ("DeltaRunsModel", "aYear", "[I", true)
  | 11 => ("DeltaRunsModel", "aX", "[I", true)
  | 12 => ("DeltaRunsModel", "aY", "[I", true)
  | 13 => ("DeltaRunsModel", "aBy", "[I", true)
  | 14 => ("DeltaRunsModel", "nMany", "I", false)
  | 15 => ("DeltaRunsModel", "nAct", "[I", true)
  | 16 => ("DeltaRunsModel", "tape", "[I", true)
  | 17 => ("DeltaRunsModel", "taped", "I", false)
  | 18 => ("DeltaRunsModel", "from", "I", false)
  | 19 => ("DeltaRunsModel", "to", "I", false)
  | 20 => ("DeltaRunsModel", "sort", "I", false)
  | 21 => ("DeltaRunsModel", "worth", "J", false)
  | 22 => ("DeltaRunsModel", "fault", "I", false)
  | 23 => ("DeltaRunsModel", "bad", "Z", false)
  | 24 => ("DeltaRunsModel", "heights", "[I", true)
  | 25 => ("DeltaRunsModel", "isDyked", "[Z", true)
  | 26 => ("DeltaRunsModel", "got", "[I", true)
  | 27 => ("DeltaRunsModel", "isPit", "[Z", true)
  | 28 => ("DeltaRunsModel", "order", "[I", true)
  | 29 => ("DeltaRunsModel", "sides", "[I", true)
  | 30 => ("DeltaRunsModel", "gives", "[I", true)
  | 31 => ("DeltaRunsModel", "entries", "I", false)
  | 32 => ("DeltaRunsModel", "eYear", "[I", true)
  | 33 => ("DeltaRunsModel", "eCell", "[I", true)
  | 34 => ("DeltaRunsModel", "eHeight", "[I", true)
  | 35 => ("DeltaRunsModel", "eKnown", "[I", true)
  | 36 => ("DeltaRunsModel", "breaks", "[I", true)
  | _ => ("DeltaRunsModel", "firstBroken", "[I", true)
def tyX8 : Nat → FieldType := fun k => match k with
  | 0 => .int
  | 1 => .int
  | 2 => .int
  | 3 => .int
  | 4 => .int
  | 5 => .int
  | 6 => .int
  | 7 => .array .int
  | 8 => .int
  | 9 => .array .int
  | 10 => .array .int
  | 11 => .array .int
  | 12 => .array .int
  | 13 => .array .int
  | 14 => .int
  | 15 => .array .int
  | 16 => .array .int
  | 17 => .int
  | 18 => .int
  | 19 => .int
  | 20 => .int
  | 21 => .long
  | 22 => .int
  | 23 => .boolean
  | 24 => .array .int
  | 25 => .array .boolean
  | 26 => .array .int
  | 27 => .array .boolean
  | 28 => .array .int
  | 29 => .array .int
  | 30 => .array .int
  | 31 => .int
  | 32 => .array .int
  | 33 => .array .int
  | 34 => .array .int
  | 35 => .array .int
  | 36 => .array .int
  | _ => .array .int
abbrev wsX80 : List Cond := u_ws RX8 TX8 38
theorem nmX8 : ∀ a, a < 38 → ∀ b, b < 38 → a ≠ b → (TX8 a).2.1 ≠ (TX8 b).2.1 := by decide +kernel
theorem tyX8_ok : ∀ k, k < 38 → parseFieldDescriptor (TX8 k).2.2.1 = some (tyX8 k) := by decide +kernel
abbrev cX8_init : ByteArray := prog_10_method_1_code
def yX8_init : MethodName := ⟨RX8, "<init>", "()V"⟩
abbrev cX8_in : ByteArray := prog_10_method_3_code
def yX8_in : MethodName := ⟨RX8, "in", "(JJJ)Z"⟩
abbrev cX8_told : ByteArray := prog_10_method_4_code
def yX8_told : MethodName := ⟨RX8, "told", "(I)I"⟩
abbrev cX8_flat : ByteArray := prog_10_method_5_code
def yX8_flat : MethodName := ⟨RX8, "flat", "()V"⟩
abbrev cX8_isCell : ByteArray := prog_10_method_6_code
def yX8_isCell : MethodName := ⟨RX8, "isCell", "(II)Z"⟩
abbrev cX8_size : ByteArray := prog_10_method_7_code
def yX8_size : MethodName := ⟨RX8, "size", "(II)I"⟩
abbrev cX8_land : ByteArray := prog_10_method_8_code
def yX8_land : MethodName := ⟨RX8, "land", "(IIIII)I"⟩
abbrev cX8_level : ByteArray := prog_10_method_9_code
def yX8_level : MethodName := ⟨RX8, "level", "(I)I"⟩
abbrev cX8_spring : ByteArray := prog_10_method_10_code
def yX8_spring : MethodName := ⟨RX8, "spring", "(III)I"⟩
abbrev cX8_four : ByteArray := prog_10_method_11_code
def yX8_four : MethodName := ⟨RX8, "four", "(I)V"⟩
abbrev cX8_feed : ByteArray := prog_10_method_12_code
def yX8_feed : MethodName := ⟨RX8, "feed", "(IIIII)I"⟩
abbrev cX8_end : ByteArray := prog_10_method_13_code
def yX8_end : MethodName := ⟨RX8, "end", "(I)I"⟩
abbrev cX8_isSmall : ByteArray := prog_10_method_14_code
def yX8_isSmall : MethodName := ⟨RX8, "isSmall", "(I)Z"⟩
abbrev cX8_isDigit : ByteArray := prog_10_method_15_code
def yX8_isDigit : MethodName := ⟨RX8, "isDigit", "(I)Z"⟩
abbrev cX8_next : ByteArray := prog_10_method_16_code
def yX8_next : MethodName := ⟨RX8, "next", "()V"⟩
abbrev cX8_isWord : ByteArray := prog_10_method_17_code
def yX8_isWord : MethodName := ⟨RX8, "isWord", "(IIIIII)Z"⟩
abbrev cX8_must : ByteArray := prog_10_method_18_code
def yX8_must : MethodName := ⟨RX8, "must", "(Z)V"⟩
abbrev cX8_number : ByteArray := prog_10_method_19_code
def yX8_number : MethodName := ⟨RX8, "number", "(JJ)I"⟩
abbrev cX8_readAct : ByteArray := prog_10_method_20_code
def yX8_readAct : MethodName := ⟨RX8, "readAct", "()V"⟩
abbrev cX8_plan : ByteArray := prog_10_method_21_code
def yX8_plan : MethodName := ⟨RX8, "plan", "()I"⟩
abbrev cX8_fault : ByteArray := prog_10_method_22_code
def yX8_fault : MethodName := ⟨RX8, "fault", "()I"⟩
abbrev cX8_begin : ByteArray := prog_10_method_23_code
def yX8_begin : MethodName := ⟨RX8, "begin", "()V"⟩
abbrev cX8_act : ByteArray := prog_10_method_24_code
def yX8_act : MethodName := ⟨RX8, "act", "(I)V"⟩
abbrev cX8_sideOf : ByteArray := prog_10_method_25_code
def yX8_sideOf : MethodName := ⟨RX8, "sideOf", "(II)I"⟩
abbrev cX8_putInOrder : ByteArray := prog_10_method_26_code
def yX8_putInOrder : MethodName := ⟨RX8, "putInOrder", "()V"⟩
abbrev cX8_share : ByteArray := prog_10_method_27_code
def yX8_share : MethodName := ⟨RX8, "share", "(II)Z"⟩
abbrev cX8_restsAhead : ByteArray := prog_10_method_28_code
def yX8_restsAhead : MethodName := ⟨RX8, "restsAhead", "(III)I"⟩
abbrev cX8_year : ByteArray := prog_10_method_29_code
def yX8_year : MethodName := ⟨RX8, "year", "(II)V"⟩
abbrev cX8_run : ByteArray := prog_10_method_30_code
def yX8_run : MethodName := ⟨RX8, "run", "(II)V"⟩
abbrev cX8_isRule : ByteArray := prog_10_method_31_code
def yX8_isRule : MethodName := ⟨RX8, "isRule", "(I)Z"⟩
abbrev cX8_isYear : ByteArray := prog_10_method_32_code
def yX8_isYear : MethodName := ⟨RX8, "isYear", "(I)Z"⟩
abbrev cX8_height : ByteArray := prog_10_method_33_code
def yX8_height : MethodName := ⟨RX8, "height", "(IIII)I"⟩
abbrev cX8_flow : ByteArray := prog_10_method_34_code
def yX8_flow : MethodName := ⟨RX8, "flow", "(IIII)I"⟩
abbrev cX8_lake : ByteArray := prog_10_method_35_code
def yX8_lake : MethodName := ⟨RX8, "lake", "(II)I"⟩
abbrev cX8_map : ByteArray := prog_10_method_36_code
def yX8_map : MethodName := ⟨RX8, "map", "(IIIII)I"⟩
abbrev cX8_compare : ByteArray := prog_10_method_37_code
def yX8_compare : MethodName := ⟨RX8, "compare", "(II)V"⟩
abbrev cX8_compareAll : ByteArray := prog_10_method_38_code
def yX8_compareAll : MethodName := ⟨RX8, "compareAll", "(I)V"⟩
abbrev cX8_isKnown : ByteArray := prog_10_method_39_code
def yX8_isKnown : MethodName := ⟨RX8, "isKnown", "(I)Z"⟩
abbrev cX8_stays : ByteArray := prog_10_method_40_code
def yX8_stays : MethodName := ⟨RX8, "stays", "(II)I"⟩
abbrev cX8_foretold : ByteArray := prog_10_method_41_code
def yX8_foretold : MethodName := ⟨RX8, "foretold", "(IIIII)I"⟩
abbrev cX8_wasted : ByteArray := prog_10_method_42_code
def yX8_wasted : MethodName := ⟨RX8, "wasted", "(I)I"⟩
abbrev cX8_against : ByteArray := prog_10_method_43_code
def yX8_against : MethodName := ⟨RX8, "against", "(II)I"⟩
abbrev cX8_count : ByteArray := prog_10_method_44_code
def yX8_count : MethodName := ⟨RX8, "count", "(I)I"⟩
abbrev cX8_status : ByteArray := prog_10_method_45_code
def yX8_status : MethodName := ⟨RX8, "status", "()I"⟩
def RJ9 : String := "java/lang/Math"
abbrev cJ9_max_7cf53 : ByteArray := prog_11_method_65_code
def yJ9_max_7cf53 : MethodName := ⟨RJ9, "max", "(II)I"⟩
abbrev cJ9_min_7cf53 : ByteArray := prog_11_method_69_code
def yJ9_min_7cf53 : MethodName := ⟨RJ9, "min", "(II)I"⟩
def RJ0 : String := "java/lang/String"
abbrev cJ0_length_8abf5 : ByteArray := prog_12_method_54_code
def yJ0_length_8abf5 : MethodName := ⟨RJ0, "length", "()I"⟩
abbrev cJ0_charAt_5068e : ByteArray := prog_12_method_56_code
def yJ0_charAt_5068e : MethodName := ⟨RJ0, "charAt", "(I)C"⟩
abbrev cJ0_coder_7d493 : ByteArray := prog_12_method_152_code
def yJ0_coder_7d493 : MethodName := ⟨RJ0, "coder", "()B"⟩
abbrev cJ0_isLatin1_aae02 : ByteArray := prog_12_method_154_code
def yJ0_isLatin1_aae02 : MethodName := ⟨RJ0, "isLatin1", "()Z"⟩
abbrev cJ0_checkIndex_df160 : ByteArray := prog_12_method_155_code
def yJ0_checkIndex_df160 : MethodName := ⟨RJ0, "checkIndex", "(II)V"⟩
def RJ1 : String := "java/lang/StringLatin1"
abbrev cJ1_charAt_3b067 : ByteArray := prog_13_method_2_code
def yJ1_charAt_3b067 : MethodName := ⟨RJ1, "charAt", "([BI)C"⟩
def RJ2 : String := "java/lang/StringUTF16"
abbrev cJ2_getChar_3b067 : ByteArray := prog_14_method_5_code
def yJ2_getChar_3b067 : MethodName := ⟨RJ2, "getChar", "([BI)C"⟩
abbrev cJ2_length_9d52b : ByteArray := prog_14_method_6_code
def yJ2_length_9d52b : MethodName := ⟨RJ2, "length", "([B)I"⟩
abbrev cJ2_charAt_3b067 : ByteArray := prog_14_method_83_code
def yJ2_charAt_3b067 : MethodName := ⟨RJ2, "charAt", "([BI)C"⟩
abbrev cJ2_checkIndex_2214a : ByteArray := prog_14_method_91_code
def yJ2_checkIndex_2214a : MethodName := ⟨RJ2, "checkIndex", "(I[B)V"⟩
def RJ3 : String := "jdk/internal/util/Preconditions"
abbrev cJ3_checkIndex_8e157 : ByteArray := prog_15_method_11_code
def yJ3_checkIndex_8e157 : MethodName := ⟨RJ3, "checkIndex", "(IILjava/util/function/BiFunction;)I"⟩
def RL : String := "DeltaRunsLaw"
abbrev cL_law : ByteArray := code
def yL_law : MethodName := ⟨RL, "law", "([I)Z"⟩
abbrev vwCl : List vw_C := [(RX0, TX0, 5), (RX1, TX1, 6), (RX2, TX2, 6), (RX3, TX3, 5), (RX4, TX4, 2), (RX5, TX5, 11), (RX6, TX6, 2), (RX7, TX7, 9), (RX8, TX8, 38)]
/-- the words of the tables that stay good at every later state -/
def gT : List Cond := lw_tbl.filter goodWord
theorem gT_mem {w : Cond} (h : w ∈ lw_tbl) (hg : goodWord w = true) : w ∈ gT := List.mem_filter.mpr ⟨h, hg⟩
theorem gT_sub {w : Cond} (h : w ∈ gT) : w ∈ lw_tbl := (List.mem_filter.mp h).1
theorem gT_good {ws : List Cond} (h : ∀ w ∈ ws, w ∈ gT) : GoodIn gT ws := fun w hw => ⟨h w hw, good_of_word (List.mem_filter.mp (h w hw)).2⟩
theorem gm_0 {i : Nat} {q : MethodName × Nat} (h : lw_privs[i]? = some q) : Cond.selects q.1.cls q.1 q.1 ∈ gT :=
  gT_mem (List.mem_append_left _ (List.mem_map.mpr ⟨q, List.mem_of_getElem? h, rfl⟩)) rfl
theorem gm_1 {i : Nat} {w : Cond} (h : tables_1_1[i]? = some w) (hg : goodWord w = true) : w ∈ gT := gT_mem (List.mem_append_right _ (List.mem_append_left _ (List.mem_of_getElem? h))) hg
theorem gm_2 {i : Nat} {w : Cond} (h : tables_1_2[i]? = some w) (hg : goodWord w = true) : w ∈ gT := gT_mem (List.mem_append_right _ (List.mem_append_right _ (List.mem_append_left _ (List.mem_of_getElem? h)))) hg
theorem gm_3 {i : Nat} {w : Cond} (h : tables_1_3[i]? = some w) (hg : goodWord w = true) : w ∈ gT := gT_mem (List.mem_append_right _ (List.mem_append_right _ (List.mem_append_right _ (List.mem_append_left _ (List.mem_of_getElem? h))))) hg
theorem gm_4 {i : Nat} {w : Cond} (h : tables_1_4[i]? = some w) (hg : goodWord w = true) : w ∈ gT := gT_mem (List.mem_append_right _ (List.mem_append_right _ (List.mem_append_right _ (List.mem_append_right _ (List.mem_of_getElem? h))))) hg
end
section
theorem gw_1_0 : Cond.initialized RL ∈ gT := gm_1 (i := 0) rfl rfl
theorem gw_1_1 : Cond.initialized RX7 ∈ gT := gm_1 (i := 1) rfl rfl
theorem gw_1_2 : Cond.initialized RX1 ∈ gT := gm_1 (i := 2) rfl rfl
theorem gw_1_3 : Cond.initialized RX4 ∈ gT := gm_1 (i := 3) rfl rfl
theorem gw_1_4 : Cond.initialized RX0 ∈ gT := gm_1 (i := 4) rfl rfl
theorem gw_1_5 : Cond.initialized RX5 ∈ gT := gm_1 (i := 5) rfl rfl
theorem gw_1_6 : Cond.initialized RX2 ∈ gT := gm_1 (i := 6) rfl rfl
theorem gw_1_7 : Cond.initialized RX8 ∈ gT := gm_1 (i := 7) rfl rfl
theorem gw_1_8 : Cond.initialized RX3 ∈ gT := gm_1 (i := 8) rfl rfl
theorem gw_1_9 : Cond.initialized RJ0 ∈ gT := gm_1 (i := 9) rfl rfl
theorem gw_1_10 : Cond.initialized RJ1 ∈ gT := gm_1 (i := 10) rfl rfl
theorem gw_1_11 : Cond.initialized RJ3 ∈ gT := gm_1 (i := 11) rfl rfl
theorem gw_1_12 : Cond.initialized RJ2 ∈ gT := gm_1 (i := 12) rfl rfl
theorem gw_1_13 : Cond.initialized RJ9 ∈ gT := gm_1 (i := 13) rfl rfl
theorem gw_1_14 : Cond.initialized RX6 ∈ gT := gm_1 (i := 14) rfl rfl
theorem gw_1_15 : Cond.classLink RL 7 RX7 ∈ gT := gm_1 (i := 15) rfl rfl
theorem gw_1_16 : Cond.instantiable RX7 9 ∈ gT := gm_1 (i := 16) rfl rfl
theorem gw_1_17 : Cond.methodLink RL 9 yX7_init ∈ gT := gm_1 (i := 17) rfl rfl
theorem gw_1_18 : Cond.instanceMethod yX7_init ∈ gT := gm_1 (i := 18) rfl rfl
theorem gw_1_19 : Cond.code yX7_init cX7_init 1 none ∈ gT := gm_1 (i := 19) rfl rfl
theorem gw_1_20 : Cond.methodLink RX7 1 objectInit ∈ gT := gm_1 (i := 20) rfl rfl
theorem gw_1_21 : Cond.instanceMethod objectInit ∈ gT := gm_1 (i := 21) rfl rfl
theorem gw_1_22 : Cond.code objectInit ⟨#[0xb1]⟩ 1 none ∈ gT := gm_1 (i := 22) rfl rfl
theorem gw_1_23 : Cond.classLink RX7 7 RX1 ∈ gT := gm_1 (i := 23) rfl rfl
theorem gw_1_24 : Cond.instantiable RX1 6 ∈ gT := gm_1 (i := 24) rfl rfl
theorem gw_1_25 : Cond.methodLink RX7 9 yX1_init ∈ gT := gm_1 (i := 25) rfl rfl
theorem gw_1_26 : Cond.instanceMethod yX1_init ∈ gT := gm_1 (i := 26) rfl rfl
theorem gw_1_27 : Cond.code yX1_init cX1_init 1 none ∈ gT := gm_1 (i := 27) rfl rfl
theorem gw_1_28 : Cond.methodLink RX1 3 objectInit ∈ gT := gm_1 (i := 28) rfl rfl
theorem gw_1_29 : Cond.methodLink RX1 22 yX1_layOut ∈ gT := gm_1 (i := 29) rfl rfl
theorem gw_1_30 : Cond.instanceMethod yX1_layOut ∈ gT := gm_1 (i := 30) rfl rfl
theorem gw_1_31 : Cond.selects RX1 yX1_layOut yX1_layOut ∈ gT := gm_1 (i := 31) rfl rfl
theorem gw_1_32 : Cond.code yX1_layOut cX1_layOut 4 none ∈ gT := gm_1 (i := 32) rfl rfl
theorem gw_1_33 : Cond.fieldLink RX1 9 "DeltaRuns$Land" "heights" "[I" ∈ gT := gm_1 (i := 33) rfl rfl
theorem gw_1_34 : Cond.fieldLink RX7 171 "DeltaRuns$Land" "heights" "[I" ∈ gT := gm_1 (i := 34) rfl rfl
theorem gw_1_35 : Cond.fieldLink RX1 26 "DeltaRuns$Land" "width" "I" ∈ gT := gm_1 (i := 35) rfl rfl
theorem gw_1_36 : Cond.fieldLink RX7 148 "DeltaRuns$Land" "width" "I" ∈ gT := gm_1 (i := 36) rfl rfl
theorem gw_1_37 : Cond.fieldLink RX1 29 "DeltaRuns$Land" "depth" "I" ∈ gT := gm_1 (i := 37) rfl rfl
theorem gw_1_38 : Cond.fieldLink RX7 145 "DeltaRuns$Land" "depth" "I" ∈ gT := gm_1 (i := 38) rfl rfl
theorem gw_1_39 : Cond.fieldLink RX5 43 "DeltaRuns$Land" "springCell" "I" ∈ gT := gm_1 (i := 39) rfl rfl
theorem gw_1_40 : Cond.fieldLink RX1 32 "DeltaRuns$Land" "springCell" "I" ∈ gT := gm_1 (i := 40) rfl rfl
theorem gw_1_41 : Cond.fieldLink RX7 96 "DeltaRuns$Land" "springCell" "I" ∈ gT := gm_1 (i := 41) rfl rfl
theorem gw_1_42 : Cond.fieldLink RX1 15 "DeltaRuns$Land" "springFlow" "I" ∈ gT := gm_1 (i := 42) rfl rfl
theorem gw_1_43 : Cond.fieldLink RX5 49 "DeltaRuns$Land" "springFlow" "I" ∈ gT := gm_1 (i := 43) rfl rfl
theorem gw_1_44 : Cond.fieldLink RX7 99 "DeltaRuns$Land" "springFlow" "I" ∈ gT := gm_1 (i := 44) rfl rfl
theorem gw_1_45 : Cond.fieldLink RX1 19 "DeltaRuns$Land" "lakeLevel" "I" ∈ gT := gm_1 (i := 45) rfl rfl
theorem gw_1_46 : Cond.fieldLink RX7 89 "DeltaRuns$Land" "lakeLevel" "I" ∈ gT := gm_1 (i := 46) rfl rfl
theorem gw_1_47 : Cond.laysFinal RX1 "DeltaRuns$Land" "heights" "[I" ∈ gT := gm_1 (i := 47) rfl rfl
theorem gw_1_49 : Cond.lays RX1 "DeltaRuns$Land" "width" "I" ∈ gT := gm_1 (i := 49) rfl rfl
theorem gw_1_51 : Cond.lays RX1 "DeltaRuns$Land" "depth" "I" ∈ gT := gm_1 (i := 51) rfl rfl
theorem gw_1_53 : Cond.lays RX1 "DeltaRuns$Land" "springCell" "I" ∈ gT := gm_1 (i := 53) rfl rfl
theorem gw_1_55 : Cond.lays RX1 "DeltaRuns$Land" "springFlow" "I" ∈ gT := gm_1 (i := 55) rfl rfl
theorem gw_1_57 : Cond.lays RX1 "DeltaRuns$Land" "lakeLevel" "I" ∈ gT := gm_1 (i := 57) rfl rfl
theorem gw_1_60 : Cond.arrayClass .int ∈ gT := gm_1 (i := 60) rfl rfl
theorem gw_1_61 : Cond.classLink RX7 16 RX4 ∈ gT := gm_1 (i := 61) rfl rfl
theorem gw_1_62 : Cond.instantiable RX4 2 ∈ gT := gm_1 (i := 62) rfl rfl
theorem gw_1_64 : Cond.instanceMethod yX4_init ∈ gT := gm_1 (i := 64) rfl rfl
theorem gw_1_65 : Cond.code yX4_init cX4_init 1 none ∈ gT := gm_1 (i := 65) rfl rfl
theorem gw_1_66 : Cond.methodLink RX4 3 objectInit ∈ gT := gm_1 (i := 66) rfl rfl
theorem gw_1_67 : Cond.fieldLink RX4 9 "DeltaRuns$Tape" "bytes" "[B" ∈ gT := gm_1 (i := 67) rfl rfl
theorem gw_1_68 : Cond.fieldLink RX3 94 "DeltaRuns$Tape" "bytes" "[B" ∈ gT := gm_1 (i := 68) rfl rfl
theorem gw_1_69 : Cond.fieldLink RX4 15 "DeltaRuns$Tape" "length" "I" ∈ gT := gm_1 (i := 69) rfl rfl
theorem gw_1_70 : Cond.fieldLink RX7 102 "DeltaRuns$Tape" "length" "I" ∈ gT := gm_1 (i := 70) rfl rfl
theorem gw_1_71 : Cond.fieldLink RX3 117 "DeltaRuns$Tape" "length" "I" ∈ gT := gm_1 (i := 71) rfl rfl
theorem gw_1_72 : Cond.laysFinal RX4 "DeltaRuns$Tape" "bytes" "[B" ∈ gT := gm_1 (i := 72) rfl rfl
theorem gw_1_74 : Cond.lays RX4 "DeltaRuns$Tape" "length" "I" ∈ gT := gm_1 (i := 74) rfl rfl
theorem gw_1_77 : Cond.arrayClass .byte ∈ gT := gm_1 (i := 77) rfl rfl
theorem gw_1_78 : Cond.classLink RX7 23 RX0 ∈ gT := gm_1 (i := 78) rfl rfl
theorem gw_1_79 : Cond.instantiable RX0 5 ∈ gT := gm_1 (i := 79) rfl rfl
theorem gw_1_81 : Cond.instanceMethod yX0_init ∈ gT := gm_1 (i := 81) rfl rfl
theorem gw_1_82 : Cond.code yX0_init cX0_init 1 none ∈ gT := gm_1 (i := 82) rfl rfl
theorem gw_1_83 : Cond.methodLink RX0 3 objectInit ∈ gT := gm_1 (i := 83) rfl rfl
theorem gw_1_84 : Cond.fieldLink RX0 9 "DeltaRuns$Entries" "years" "[I" ∈ gT := gm_1 (i := 84) rfl rfl
theorem gw_1_85 : Cond.fieldLink RX7 210 "DeltaRuns$Entries" "years" "[I" ∈ gT := gm_1 (i := 85) rfl rfl
theorem gw_1_86 : Cond.fieldLink RX0 15 "DeltaRuns$Entries" "cells" "[I" ∈ gT := gm_1 (i := 86) rfl rfl
theorem gw_1_87 : Cond.fieldLink RX7 213 "DeltaRuns$Entries" "cells" "[I" ∈ gT := gm_1 (i := 87) rfl rfl
theorem gw_1_88 : Cond.fieldLink RX0 18 "DeltaRuns$Entries" "heights" "[I" ∈ gT := gm_1 (i := 88) rfl rfl
theorem gw_1_89 : Cond.fieldLink RX7 216 "DeltaRuns$Entries" "heights" "[I" ∈ gT := gm_1 (i := 89) rfl rfl
theorem gw_1_90 : Cond.fieldLink RX0 21 "DeltaRuns$Entries" "days" "[I" ∈ gT := gm_1 (i := 90) rfl rfl
theorem gw_1_91 : Cond.fieldLink RX7 207 "DeltaRuns$Entries" "days" "[I" ∈ gT := gm_1 (i := 91) rfl rfl
theorem gw_1_92 : Cond.fieldLink RX0 24 "DeltaRuns$Entries" "total" "I" ∈ gT := gm_1 (i := 92) rfl rfl
theorem gw_1_93 : Cond.fieldLink RX7 72 "DeltaRuns$Entries" "total" "I" ∈ gT := gm_1 (i := 93) rfl rfl
theorem gw_1_94 : Cond.laysFinal RX0 "DeltaRuns$Entries" "years" "[I" ∈ gT := gm_1 (i := 94) rfl rfl
theorem gw_1_96 : Cond.laysFinal RX0 "DeltaRuns$Entries" "cells" "[I" ∈ gT := gm_1 (i := 96) rfl rfl
theorem gw_1_98 : Cond.laysFinal RX0 "DeltaRuns$Entries" "heights" "[I" ∈ gT := gm_1 (i := 98) rfl rfl
theorem gw_1_100 : Cond.laysFinal RX0 "DeltaRuns$Entries" "days" "[I" ∈ gT := gm_1 (i := 100) rfl rfl
theorem gw_1_102 : Cond.lays RX0 "DeltaRuns$Entries" "total" "I" ∈ gT := gm_1 (i := 102) rfl rfl
theorem gw_1_105 : Cond.classLink RX7 30 RX5 ∈ gT := gm_1 (i := 105) rfl rfl
theorem gw_1_106 : Cond.instantiable RX5 11 ∈ gT := gm_1 (i := 106) rfl rfl
theorem gw_1_108 : Cond.instanceMethod yX5_init ∈ gT := gm_1 (i := 108) rfl rfl
theorem gw_1_109 : Cond.code yX5_init cX5_init 1 none ∈ gT := gm_1 (i := 109) rfl rfl
theorem gw_1_110 : Cond.methodLink RX5 3 objectInit ∈ gT := gm_1 (i := 110) rfl rfl
theorem gw_1_111 : Cond.fieldLink RX5 9 "DeltaRuns$Water" "heights" "[I" ∈ gT := gm_1 (i := 111) rfl rfl
theorem gw_1_112 : Cond.fieldLink RX2 45 "DeltaRuns$Water" "heights" "[I" ∈ gT := gm_1 (i := 112) rfl rfl
theorem gw_1_113 : Cond.fieldLink RX7 194 "DeltaRuns$Water" "heights" "[I" ∈ gT := gm_1 (i := 113) rfl rfl
theorem gw_1_114 : Cond.fieldLink RX5 15 "DeltaRuns$Water" "dykes" "[Z" ∈ gT := gm_1 (i := 114) rfl rfl
theorem gw_1_115 : Cond.fieldLink RX2 58 "DeltaRuns$Water" "dykes" "[Z" ∈ gT := gm_1 (i := 115) rfl rfl
theorem gw_1_116 : Cond.fieldLink RX7 200 "DeltaRuns$Water" "dykes" "[Z" ∈ gT := gm_1 (i := 116) rfl rfl
theorem gw_1_117 : Cond.fieldLink RX5 19 "DeltaRuns$Water" "came" "[I" ∈ gT := gm_1 (i := 117) rfl rfl
theorem gw_1_118 : Cond.fieldLink RX7 141 "DeltaRuns$Water" "came" "[I" ∈ gT := gm_1 (i := 118) rfl rfl
theorem gw_1_119 : Cond.fieldLink RX5 22 "DeltaRuns$Water" "pits" "[Z" ∈ gT := gm_1 (i := 119) rfl rfl
theorem gw_1_120 : Cond.fieldLink RX5 25 "DeltaRuns$Water" "wet" "[I" ∈ gT := gm_1 (i := 120) rfl rfl
theorem gw_1_121 : Cond.fieldLink RX5 56 "DeltaRuns$Water" "wetTotal" "I" ∈ gT := gm_1 (i := 121) rfl rfl
theorem gw_1_122 : Cond.fieldLink RX5 28 "DeltaRuns$Water" "ways" "[I" ∈ gT := gm_1 (i := 122) rfl rfl
theorem gw_1_123 : Cond.fieldLink RX5 31 "DeltaRuns$Water" "drops" "[I" ∈ gT := gm_1 (i := 123) rfl rfl
theorem gw_1_124 : Cond.fieldLink RX5 34 "DeltaRuns$Water" "shares" "[I" ∈ gT := gm_1 (i := 124) rfl rfl
theorem gw_1_125 : Cond.fieldLink RX5 37 "DeltaRuns$Water" "rests" "[I" ∈ gT := gm_1 (i := 125) rfl rfl
theorem gw_1_126 : Cond.fieldLink RX5 76 "DeltaRuns$Water" "waysTotal" "I" ∈ gT := gm_1 (i := 126) rfl rfl
theorem gw_1_127 : Cond.laysFinal RX5 "DeltaRuns$Water" "heights" "[I" ∈ gT := gm_1 (i := 127) rfl rfl
theorem gw_1_129 : Cond.laysFinal RX5 "DeltaRuns$Water" "dykes" "[Z" ∈ gT := gm_1 (i := 129) rfl rfl
theorem gw_1_131 : Cond.laysFinal RX5 "DeltaRuns$Water" "came" "[I" ∈ gT := gm_1 (i := 131) rfl rfl
theorem gw_1_133 : Cond.laysFinal RX5 "DeltaRuns$Water" "pits" "[Z" ∈ gT := gm_1 (i := 133) rfl rfl
theorem gw_1_135 : Cond.laysFinal RX5 "DeltaRuns$Water" "wet" "[I" ∈ gT := gm_1 (i := 135) rfl rfl
theorem gw_1_137 : Cond.lays RX5 "DeltaRuns$Water" "wetTotal" "I" ∈ gT := gm_1 (i := 137) rfl rfl
theorem gw_1_139 : Cond.laysFinal RX5 "DeltaRuns$Water" "ways" "[I" ∈ gT := gm_1 (i := 139) rfl rfl
theorem gw_1_141 : Cond.laysFinal RX5 "DeltaRuns$Water" "drops" "[I" ∈ gT := gm_1 (i := 141) rfl rfl
theorem gw_1_143 : Cond.laysFinal RX5 "DeltaRuns$Water" "shares" "[I" ∈ gT := gm_1 (i := 143) rfl rfl
theorem gw_1_145 : Cond.laysFinal RX5 "DeltaRuns$Water" "rests" "[I" ∈ gT := gm_1 (i := 145) rfl rfl
theorem gw_1_147 : Cond.lays RX5 "DeltaRuns$Water" "waysTotal" "I" ∈ gT := gm_1 (i := 147) rfl rfl
theorem gw_1_150 : Cond.arrayClass .boolean ∈ gT := gm_1 (i := 150) rfl rfl
theorem gw_1_151 : Cond.classLink RX7 37 RX6 ∈ gT := gm_1 (i := 151) rfl rfl
theorem gw_1_153 : Cond.classLink RX7 43 RX2 ∈ gT := gm_1 (i := 153) rfl rfl
theorem gw_1_154 : Cond.instantiable RX2 6 ∈ gT := gm_1 (i := 154) rfl rfl
theorem gw_1_156 : Cond.instanceMethod yX2_init ∈ gT := gm_1 (i := 156) rfl rfl
theorem gw_1_157 : Cond.code yX2_init cX2_init 1 none ∈ gT := gm_1 (i := 157) rfl rfl
theorem gw_1_158 : Cond.methodLink RX2 3 objectInit ∈ gT := gm_1 (i := 158) rfl rfl
theorem gw_1_159 : Cond.fieldLink RX2 9 "DeltaRuns$Plan" "years" "[I" ∈ gT := gm_1 (i := 159) rfl rfl
theorem gw_1_160 : Cond.fieldLink RX3 51 "DeltaRuns$Plan" "years" "[I" ∈ gT := gm_1 (i := 160) rfl rfl
theorem gw_1_161 : Cond.fieldLink RX2 15 "DeltaRuns$Plan" "kinds" "[I" ∈ gT := gm_1 (i := 161) rfl rfl
theorem gw_1_162 : Cond.fieldLink RX3 62 "DeltaRuns$Plan" "kinds" "[I" ∈ gT := gm_1 (i := 162) rfl rfl
theorem gw_1_163 : Cond.fieldLink RX2 18 "DeltaRuns$Plan" "columns" "[I" ∈ gT := gm_1 (i := 163) rfl rfl
theorem gw_1_164 : Cond.fieldLink RX3 65 "DeltaRuns$Plan" "columns" "[I" ∈ gT := gm_1 (i := 164) rfl rfl
theorem gw_1_165 : Cond.fieldLink RX2 21 "DeltaRuns$Plan" "rows" "[I" ∈ gT := gm_1 (i := 165) rfl rfl
theorem gw_1_166 : Cond.fieldLink RX3 68 "DeltaRuns$Plan" "rows" "[I" ∈ gT := gm_1 (i := 166) rfl rfl
theorem gw_1_167 : Cond.fieldLink RX2 24 "DeltaRuns$Plan" "numbers" "[I" ∈ gT := gm_1 (i := 167) rfl rfl
theorem gw_1_168 : Cond.fieldLink RX3 75 "DeltaRuns$Plan" "numbers" "[I" ∈ gT := gm_1 (i := 168) rfl rfl
theorem gw_1_169 : Cond.fieldLink RX3 19 "DeltaRuns$Plan" "total" "I" ∈ gT := gm_1 (i := 169) rfl rfl
theorem gw_1_170 : Cond.fieldLink RX2 31 "DeltaRuns$Plan" "total" "I" ∈ gT := gm_1 (i := 170) rfl rfl
theorem gw_1_171 : Cond.fieldLink RX7 118 "DeltaRuns$Plan" "total" "I" ∈ gT := gm_1 (i := 171) rfl rfl
theorem gw_1_172 : Cond.laysFinal RX2 "DeltaRuns$Plan" "years" "[I" ∈ gT := gm_1 (i := 172) rfl rfl
theorem gw_1_174 : Cond.laysFinal RX2 "DeltaRuns$Plan" "kinds" "[I" ∈ gT := gm_1 (i := 174) rfl rfl
theorem gw_1_176 : Cond.laysFinal RX2 "DeltaRuns$Plan" "columns" "[I" ∈ gT := gm_1 (i := 176) rfl rfl
theorem gw_1_178 : Cond.laysFinal RX2 "DeltaRuns$Plan" "rows" "[I" ∈ gT := gm_1 (i := 178) rfl rfl
theorem gw_1_180 : Cond.laysFinal RX2 "DeltaRuns$Plan" "numbers" "[I" ∈ gT := gm_1 (i := 180) rfl rfl
theorem gw_1_182 : Cond.lays RX2 "DeltaRuns$Plan" "total" "I" ∈ gT := gm_1 (i := 182) rfl rfl
theorem gw_1_185 : Cond.fieldLink RX7 10 "DeltaRuns" "land" "LDeltaRuns$Land;" ∈ gT := gm_1 (i := 185) rfl rfl
theorem gw_1_186 : Cond.fieldLink RX7 19 "DeltaRuns" "tape" "LDeltaRuns$Tape;" ∈ gT := gm_1 (i := 186) rfl rfl
theorem gw_1_187 : Cond.fieldLink RX7 26 "DeltaRuns" "entries" "LDeltaRuns$Entries;" ∈ gT := gm_1 (i := 187) rfl rfl
theorem gw_1_188 : Cond.fieldLink RX7 33 "DeltaRuns" "water" "LDeltaRuns$Water;" ∈ gT := gm_1 (i := 188) rfl rfl
theorem gw_1_189 : Cond.fieldLink RX7 39 "DeltaRuns" "yearsOfRules" "[LDeltaRuns$Years;" ∈ gT := gm_1 (i := 189) rfl rfl
theorem gw_1_190 : Cond.fieldLink RX7 46 "DeltaRuns" "plan" "LDeltaRuns$Plan;" ∈ gT := gm_1 (i := 190) rfl rfl
theorem gw_1_191 : Cond.fieldLink RX7 50 "DeltaRuns" "draft" "LDeltaRuns$Plan;" ∈ gT := gm_1 (i := 191) rfl rfl
theorem gw_1_192 : Cond.fieldLink RX7 53 "DeltaRuns" "faultPlace" "I" ∈ gT := gm_1 (i := 192) rfl rfl
theorem gw_1_193 : Cond.fieldLink RX7 57 "DeltaRuns" "refusal" "I" ∈ gT := gm_1 (i := 193) rfl rfl
theorem gw_1_194 : Cond.laysFinal RX7 "DeltaRuns" "land" "LDeltaRuns$Land;" ∈ gT := gm_1 (i := 194) rfl rfl
theorem gw_1_196 : Cond.laysFinal RX7 "DeltaRuns" "tape" "LDeltaRuns$Tape;" ∈ gT := gm_1 (i := 196) rfl rfl
theorem gw_1_198 : Cond.laysFinal RX7 "DeltaRuns" "entries" "LDeltaRuns$Entries;" ∈ gT := gm_1 (i := 198) rfl rfl
theorem gw_1_200 : Cond.laysFinal RX7 "DeltaRuns" "water" "LDeltaRuns$Water;" ∈ gT := gm_1 (i := 200) rfl rfl
theorem gw_1_202 : Cond.laysFinal RX7 "DeltaRuns" "yearsOfRules" "[LDeltaRuns$Years;" ∈ gT := gm_1 (i := 202) rfl rfl
theorem gw_1_204 : Cond.lays RX7 "DeltaRuns" "plan" "LDeltaRuns$Plan;" ∈ gT := gm_1 (i := 204) rfl rfl
theorem gw_1_206 : Cond.lays RX7 "DeltaRuns" "draft" "LDeltaRuns$Plan;" ∈ gT := gm_1 (i := 206) rfl rfl
theorem gw_1_208 : Cond.lays RX7 "DeltaRuns" "faultPlace" "I" ∈ gT := gm_1 (i := 208) rfl rfl
theorem gw_1_210 : Cond.lays RX7 "DeltaRuns" "refusal" "I" ∈ gT := gm_1 (i := 210) rfl rfl
theorem gw_1_213 : Cond.methodLink RL 13 yX7_size ∈ gT := gm_1 (i := 213) rfl rfl
theorem gw_1_214 : Cond.instanceMethod yX7_size ∈ gT := gm_1 (i := 214) rfl rfl
theorem gw_1_215 : Cond.selects RX7 yX7_size yX7_size ∈ gT := gm_1 (i := 215) rfl rfl
theorem gw_1_216 : Cond.code yX7_size cX7_size 3 (some .int) ∈ gT := gm_1 (i := 216) rfl rfl
theorem gw_1_217 : Cond.methodLink RX7 60 yX7_within ∈ gT := gm_1 (i := 217) rfl rfl
theorem gw_1_218 : Cond.static yX7_within ∈ gT := gm_1 (i := 218) rfl rfl
theorem gw_1_219 : Cond.code yX7_within cX7_within 3 (some .boolean) ∈ gT := gm_1 (i := 219) rfl rfl
theorem gw_1_220 : Cond.methodLink RX7 64 yX7_refuse ∈ gT := gm_1 (i := 220) rfl rfl
theorem gw_1_222 : Cond.instanceMethod yX7_refuse ∈ gT := gm_1 (i := 222) rfl rfl
theorem gw_1_223 : Cond.code yX7_refuse cX7_refuse 2 (some .int) ∈ gT := gm_1 (i := 223) rfl rfl
theorem gw_1_224 : Cond.methodLink RX7 68 yX1_layOut ∈ gT := gm_1 (i := 224) rfl rfl
theorem gw_1_225 : Cond.methodLink RX7 75 yX7_forgetRuns ∈ gT := gm_1 (i := 225) rfl rfl
theorem gw_1_227 : Cond.instanceMethod yX7_forgetRuns ∈ gT := gm_1 (i := 227) rfl rfl
theorem gw_1_228 : Cond.code yX7_forgetRuns cX7_forgetRuns 2 none ∈ gT := gm_1 (i := 228) rfl rfl
theorem gw_1_229 : Cond.methodLink RX7 78 yX7_accept ∈ gT := gm_1 (i := 229) rfl rfl
theorem gw_1_231 : Cond.instanceMethod yX7_accept ∈ gT := gm_1 (i := 231) rfl rfl
theorem gw_1_232 : Cond.code yX7_accept cX7_accept 2 (some .int) ∈ gT := gm_1 (i := 232) rfl rfl
theorem gw_1_233 : Cond.methodLink RL 18 yX7_land ∈ gT := gm_1 (i := 233) rfl rfl
theorem gw_1_234 : Cond.instanceMethod yX7_land ∈ gT := gm_1 (i := 234) rfl rfl
theorem gw_1_235 : Cond.selects RX7 yX7_land yX7_land ∈ gT := gm_1 (i := 235) rfl rfl
theorem gw_1_236 : Cond.code yX7_land cX7_land 7 (some .int) ∈ gT := gm_1 (i := 236) rfl rfl
theorem gw_1_237 : Cond.methodLink RX7 81 yX1_has ∈ gT := gm_1 (i := 237) rfl rfl
theorem gw_1_238 : Cond.instanceMethod yX1_has ∈ gT := gm_1 (i := 238) rfl rfl
theorem gw_1_239 : Cond.selects RX1 yX1_has yX1_has ∈ gT := gm_1 (i := 239) rfl rfl
theorem gw_2_0 : Cond.code yX1_has cX1_has 3 (some .boolean) ∈ gT := gm_2 (i := 0) rfl rfl
theorem gw_2_1 : Cond.methodLink RX7 85 yX1_raise ∈ gT := gm_2 (i := 1) rfl rfl
theorem gw_2_2 : Cond.instanceMethod yX1_raise ∈ gT := gm_2 (i := 2) rfl rfl
theorem gw_2_3 : Cond.selects RX1 yX1_raise yX1_raise ∈ gT := gm_2 (i := 3) rfl rfl
theorem gw_2_4 : Cond.code yX1_raise cX1_raise 9 (some .int) ∈ gT := gm_2 (i := 4) rfl rfl
theorem gw_2_6 : Cond.static yX7_cellAt ∈ gT := gm_2 (i := 6) rfl rfl
theorem gw_2_7 : Cond.code yX7_cellAt cX7_cellAt 2 (some .int) ∈ gT := gm_2 (i := 7) rfl rfl
theorem gw_2_8 : Cond.methodLink RL 23 yX7_level ∈ gT := gm_2 (i := 8) rfl rfl
theorem gw_2_9 : Cond.instanceMethod yX7_level ∈ gT := gm_2 (i := 9) rfl rfl
theorem gw_2_10 : Cond.selects RX7 yX7_level yX7_level ∈ gT := gm_2 (i := 10) rfl rfl
theorem gw_2_11 : Cond.code yX7_level cX7_level 2 (some .int) ∈ gT := gm_2 (i := 11) rfl rfl
theorem gw_2_12 : Cond.methodLink RL 28 yX7_spring ∈ gT := gm_2 (i := 12) rfl rfl
theorem gw_2_13 : Cond.instanceMethod yX7_spring ∈ gT := gm_2 (i := 13) rfl rfl
theorem gw_2_14 : Cond.selects RX7 yX7_spring yX7_spring ∈ gT := gm_2 (i := 14) rfl rfl
theorem gw_2_15 : Cond.code yX7_spring cX7_spring 4 (some .int) ∈ gT := gm_2 (i := 15) rfl rfl
theorem gw_2_16 : Cond.methodLink RX7 92 yX7_cellAt ∈ gT := gm_2 (i := 16) rfl rfl
theorem gw_2_17 : Cond.methodLink RL 33 yX7_feed ∈ gT := gm_2 (i := 17) rfl rfl
theorem gw_2_18 : Cond.instanceMethod yX7_feed ∈ gT := gm_2 (i := 18) rfl rfl
theorem gw_2_19 : Cond.selects RX7 yX7_feed yX7_feed ∈ gT := gm_2 (i := 19) rfl rfl
theorem gw_2_20 : Cond.code yX7_feed cX7_feed 6 (some .int) ∈ gT := gm_2 (i := 20) rfl rfl
theorem gw_2_21 : Cond.methodLink RX7 105 yX4_addFour ∈ gT := gm_2 (i := 21) rfl rfl
theorem gw_2_22 : Cond.instanceMethod yX4_addFour ∈ gT := gm_2 (i := 22) rfl rfl
theorem gw_2_23 : Cond.selects RX4 yX4_addFour yX4_addFour ∈ gT := gm_2 (i := 23) rfl rfl
theorem gw_2_24 : Cond.code yX4_addFour cX4_addFour 3 none ∈ gT := gm_2 (i := 24) rfl rfl
theorem gw_2_25 : Cond.methodLink RL 37 yX7_end ∈ gT := gm_2 (i := 25) rfl rfl
theorem gw_2_26 : Cond.instanceMethod yX7_end ∈ gT := gm_2 (i := 26) rfl rfl
theorem gw_2_27 : Cond.selects RX7 yX7_end yX7_end ∈ gT := gm_2 (i := 27) rfl rfl
theorem gw_2_28 : Cond.code yX7_end cX7_end 2 (some .int) ∈ gT := gm_2 (i := 28) rfl rfl
theorem gw_2_29 : Cond.methodLink RL 41 yX7_plan ∈ gT := gm_2 (i := 29) rfl rfl
theorem gw_2_30 : Cond.instanceMethod yX7_plan ∈ gT := gm_2 (i := 30) rfl rfl
theorem gw_2_31 : Cond.selects RX7 yX7_plan yX7_plan ∈ gT := gm_2 (i := 31) rfl rfl
theorem gw_2_32 : Cond.code yX7_plan cX7_plan 3 (some .int) ∈ gT := gm_2 (i := 32) rfl rfl
theorem gw_2_33 : Cond.classLink RX7 109 RX3 ∈ gT := gm_2 (i := 33) rfl rfl
theorem gw_2_34 : Cond.instantiable RX3 5 ∈ gT := gm_2 (i := 34) rfl rfl
theorem gw_2_35 : Cond.methodLink RX7 111 yX3_init ∈ gT := gm_2 (i := 35) rfl rfl
theorem gw_2_36 : Cond.instanceMethod yX3_init ∈ gT := gm_2 (i := 36) rfl rfl
theorem gw_2_37 : Cond.code yX3_init cX3_init 3 none ∈ gT := gm_2 (i := 37) rfl rfl
theorem gw_2_38 : Cond.methodLink RX3 3 objectInit ∈ gT := gm_2 (i := 38) rfl rfl
theorem gw_2_39 : Cond.fieldLink RX3 9 "DeltaRuns$Reader" "text" "LDeltaRuns$Tape;" ∈ gT := gm_2 (i := 39) rfl rfl
theorem gw_2_40 : Cond.fieldLink RX3 15 "DeltaRuns$Reader" "acts" "LDeltaRuns$Plan;" ∈ gT := gm_2 (i := 40) rfl rfl
theorem gw_2_41 : Cond.fieldLink RX3 36 "DeltaRuns$Reader" "start" "I" ∈ gT := gm_2 (i := 41) rfl rfl
theorem gw_2_42 : Cond.fieldLink RX3 86 "DeltaRuns$Reader" "stop" "I" ∈ gT := gm_2 (i := 42) rfl rfl
theorem gw_2_43 : Cond.fieldLink RX3 55 "DeltaRuns$Reader" "number" "I" ∈ gT := gm_2 (i := 43) rfl rfl
theorem gw_2_44 : Cond.laysFinal RX3 "DeltaRuns$Reader" "text" "LDeltaRuns$Tape;" ∈ gT := gm_2 (i := 44) rfl rfl
theorem gw_2_46 : Cond.laysFinal RX3 "DeltaRuns$Reader" "acts" "LDeltaRuns$Plan;" ∈ gT := gm_2 (i := 46) rfl rfl
theorem gw_2_48 : Cond.lays RX3 "DeltaRuns$Reader" "start" "I" ∈ gT := gm_2 (i := 48) rfl rfl
theorem gw_2_50 : Cond.lays RX3 "DeltaRuns$Reader" "stop" "I" ∈ gT := gm_2 (i := 50) rfl rfl
theorem gw_2_52 : Cond.lays RX3 "DeltaRuns$Reader" "number" "I" ∈ gT := gm_2 (i := 52) rfl rfl
theorem gw_2_55 : Cond.methodLink RX7 114 yX3_readPlan ∈ gT := gm_2 (i := 55) rfl rfl
theorem gw_2_56 : Cond.instanceMethod yX3_readPlan ∈ gT := gm_2 (i := 56) rfl rfl
theorem gw_2_57 : Cond.selects RX3 yX3_readPlan yX3_readPlan ∈ gT := gm_2 (i := 57) rfl rfl
theorem gw_2_58 : Cond.code yX3_readPlan cX3_readPlan 2 (some .int) ∈ gT := gm_2 (i := 58) rfl rfl
theorem gw_2_59 : Cond.methodLink RX3 25 yX3_step ∈ gT := gm_2 (i := 59) rfl rfl
theorem gw_2_61 : Cond.instanceMethod yX3_step ∈ gT := gm_2 (i := 61) rfl rfl
theorem gw_2_62 : Cond.code yX3_step cX3_step 3 none ∈ gT := gm_2 (i := 62) rfl rfl
theorem gw_2_63 : Cond.methodLink RX3 28 yX3_atEnd ∈ gT := gm_2 (i := 63) rfl rfl
theorem gw_2_65 : Cond.instanceMethod yX3_atEnd ∈ gT := gm_2 (i := 65) rfl rfl
theorem gw_2_66 : Cond.code yX3_atEnd cX3_atEnd 1 (some .boolean) ∈ gT := gm_2 (i := 66) rfl rfl
theorem gw_2_67 : Cond.methodLink RX3 119 yX3_isLetter ∈ gT := gm_2 (i := 67) rfl rfl
theorem gw_2_68 : Cond.static yX3_isLetter ∈ gT := gm_2 (i := 68) rfl rfl
theorem gw_2_69 : Cond.code yX3_isLetter cX3_isLetter 1 (some .boolean) ∈ gT := gm_2 (i := 69) rfl rfl
theorem gw_2_70 : Cond.methodLink RX3 104 yX3_isDigit ∈ gT := gm_2 (i := 70) rfl rfl
theorem gw_2_71 : Cond.static yX3_isDigit ∈ gT := gm_2 (i := 71) rfl rfl
theorem gw_2_72 : Cond.code yX3_isDigit cX3_isDigit 1 (some .boolean) ∈ gT := gm_2 (i := 72) rfl rfl
theorem gw_2_73 : Cond.methodLink RX3 32 yX3_readAct ∈ gT := gm_2 (i := 73) rfl rfl
theorem gw_2_75 : Cond.instanceMethod yX3_readAct ∈ gT := gm_2 (i := 75) rfl rfl
theorem gw_2_76 : Cond.code yX3_readAct cX3_readAct 3 (some .boolean) ∈ gT := gm_2 (i := 76) rfl rfl
theorem gw_2_78 : Cond.methodLink RX3 41 yX3_takes ∈ gT := gm_2 (i := 78) rfl rfl
theorem gw_2_80 : Cond.instanceMethod yX3_takes ∈ gT := gm_2 (i := 80) rfl rfl
theorem gw_2_81 : Cond.code yX3_takes cX3_takes 3 (some .boolean) ∈ gT := gm_2 (i := 81) rfl rfl
theorem gw_2_82 : Cond.methodLink RX3 89 yJ0_length_8abf5 ∈ gT := gm_2 (i := 82) rfl rfl
theorem gw_2_83 : Cond.instanceMethod yJ0_length_8abf5 ∈ gT := gm_2 (i := 83) rfl rfl
theorem gw_2_84 : Cond.selects RJ0 yJ0_length_8abf5 yJ0_length_8abf5 ∈ gT := gm_2 (i := 84) rfl rfl
theorem gw_2_85 : Cond.code yJ0_length_8abf5 cJ0_length_8abf5 1 (some .int) ∈ gT := gm_2 (i := 85) rfl rfl
theorem gw_2_86 : Cond.methodLink RJ0 335 yJ0_coder_7d493 ∈ gT := gm_2 (i := 86) rfl rfl
theorem gw_2_87 : Cond.instanceMethod yJ0_coder_7d493 ∈ gT := gm_2 (i := 87) rfl rfl
theorem gw_2_88 : Cond.selects RJ0 yJ0_coder_7d493 yJ0_coder_7d493 ∈ gT := gm_2 (i := 88) rfl rfl
theorem gw_2_89 : Cond.code yJ0_coder_7d493 cJ0_coder_7d493 1 (some .byte) ∈ gT := gm_2 (i := 89) rfl rfl
theorem gw_2_90 : Cond.fieldLink RJ0 38 "java/lang/String" "COMPACT_STRINGS" "Z" ∈ gT := gm_2 (i := 90) rfl rfl
theorem gw_2_92 : Cond.methodLink RX3 100 yJ0_charAt_5068e ∈ gT := gm_2 (i := 92) rfl rfl
theorem gw_2_93 : Cond.instanceMethod yJ0_charAt_5068e ∈ gT := gm_2 (i := 93) rfl rfl
theorem gw_2_94 : Cond.selects RJ0 yJ0_charAt_5068e yJ0_charAt_5068e ∈ gT := gm_2 (i := 94) rfl rfl
theorem gw_2_95 : Cond.code yJ0_charAt_5068e cJ0_charAt_5068e 2 (some .char) ∈ gT := gm_2 (i := 95) rfl rfl
theorem gw_2_96 : Cond.methodLink RJ0 492 yJ0_isLatin1_aae02 ∈ gT := gm_2 (i := 96) rfl rfl
theorem gw_2_97 : Cond.instanceMethod yJ0_isLatin1_aae02 ∈ gT := gm_2 (i := 97) rfl rfl
theorem gw_2_98 : Cond.selects RJ0 yJ0_isLatin1_aae02 yJ0_isLatin1_aae02 ∈ gT := gm_2 (i := 98) rfl rfl
theorem gw_2_99 : Cond.code yJ0_isLatin1_aae02 cJ0_isLatin1_aae02 1 (some .boolean) ∈ gT := gm_2 (i := 99) rfl rfl
theorem gw_2_100 : Cond.methodLink RJ0 495 yJ1_charAt_3b067 ∈ gT := gm_2 (i := 100) rfl rfl
theorem gw_2_101 : Cond.static yJ1_charAt_3b067 ∈ gT := gm_2 (i := 101) rfl rfl
theorem gw_2_102 : Cond.code yJ1_charAt_3b067 cJ1_charAt_3b067 2 (some .char) ∈ gT := gm_2 (i := 102) rfl rfl
theorem gw_2_103 : Cond.methodLink RJ1 9 yJ0_checkIndex_df160 ∈ gT := gm_2 (i := 103) rfl rfl
theorem gw_2_104 : Cond.static yJ0_checkIndex_df160 ∈ gT := gm_2 (i := 104) rfl rfl
theorem gw_2_105 : Cond.code yJ0_checkIndex_df160 cJ0_checkIndex_df160 2 none ∈ gT := gm_2 (i := 105) rfl rfl
theorem gw_2_106 : Cond.fieldLink RJ0 1053 "jdk/internal/util/Preconditions" "SIOOBE_FORMATTER" "Ljava/util/function/BiFunction;" ∈ gT := gm_2 (i := 106) rfl rfl
theorem gw_2_108 : Cond.methodLink RJ0 1059 yJ3_checkIndex_8e157 ∈ gT := gm_2 (i := 108) rfl rfl
theorem gw_2_109 : Cond.static yJ3_checkIndex_8e157 ∈ gT := gm_2 (i := 109) rfl rfl
theorem gw_2_110 : Cond.code yJ3_checkIndex_8e157 cJ3_checkIndex_8e157 3 (some .int) ∈ gT := gm_2 (i := 110) rfl rfl
theorem gw_2_111 : Cond.methodLink RJ0 498 yJ2_charAt_3b067 ∈ gT := gm_2 (i := 111) rfl rfl
theorem gw_2_112 : Cond.static yJ2_charAt_3b067 ∈ gT := gm_2 (i := 112) rfl rfl
theorem gw_2_113 : Cond.code yJ2_charAt_3b067 cJ2_charAt_3b067 2 (some .char) ∈ gT := gm_2 (i := 113) rfl rfl
theorem gw_2_114 : Cond.methodLink RJ2 67 yJ2_checkIndex_2214a ∈ gT := gm_2 (i := 114) rfl rfl
theorem gw_2_115 : Cond.static yJ2_checkIndex_2214a ∈ gT := gm_2 (i := 115) rfl rfl
theorem gw_2_116 : Cond.code yJ2_checkIndex_2214a cJ2_checkIndex_2214a 2 none ∈ gT := gm_2 (i := 116) rfl rfl
theorem gw_2_117 : Cond.methodLink RJ2 48 yJ2_length_9d52b ∈ gT := gm_2 (i := 117) rfl rfl
theorem gw_2_118 : Cond.static yJ2_length_9d52b ∈ gT := gm_2 (i := 118) rfl rfl
theorem gw_2_119 : Cond.code yJ2_length_9d52b cJ2_length_9d52b 1 (some .int) ∈ gT := gm_2 (i := 119) rfl rfl
theorem gw_2_120 : Cond.methodLink RJ2 414 yJ0_checkIndex_df160 ∈ gT := gm_2 (i := 120) rfl rfl
theorem gw_2_121 : Cond.methodLink RJ2 71 yJ2_getChar_3b067 ∈ gT := gm_2 (i := 121) rfl rfl
theorem gw_2_122 : Cond.static yJ2_getChar_3b067 ∈ gT := gm_2 (i := 122) rfl rfl
theorem gw_2_123 : Cond.code yJ2_getChar_3b067 cJ2_getChar_3b067 2 (some .char) ∈ gT := gm_2 (i := 123) rfl rfl
theorem gw_2_124 : Cond.fieldLink RJ2 44 "java/lang/StringUTF16" "$assertionsDisabled" "Z" ∈ gT := gm_2 (i := 124) rfl rfl
theorem gw_2_126 : Cond.fieldLink RJ2 59 "java/lang/StringUTF16" "HI_BYTE_SHIFT" "I" ∈ gT := gm_2 (i := 126) rfl rfl
theorem gw_2_128 : Cond.fieldLink RJ2 63 "java/lang/StringUTF16" "LO_BYTE_SHIFT" "I" ∈ gT := gm_2 (i := 128) rfl rfl
theorem gw_2_130 : Cond.methodLink RX3 47 yX3_takesNumber ∈ gT := gm_2 (i := 130) rfl rfl
theorem gw_2_132 : Cond.instanceMethod yX3_takesNumber ∈ gT := gm_2 (i := 132) rfl rfl
theorem gw_2_133 : Cond.code yX3_takesNumber cX3_takesNumber 5 (some .boolean) ∈ gT := gm_2 (i := 133) rfl rfl
theorem gw_2_134 : Cond.methodLink RX3 107 yJ9_min_7cf53 ∈ gT := gm_2 (i := 134) rfl rfl
theorem gw_2_135 : Cond.static yJ9_min_7cf53 ∈ gT := gm_2 (i := 135) rfl rfl
theorem gw_2_136 : Cond.code yJ9_min_7cf53 cJ9_min_7cf53 2 (some .int) ∈ gT := gm_2 (i := 136) rfl rfl
theorem gw_2_138 : Cond.methodLink RX3 58 yX3_takeKind ∈ gT := gm_2 (i := 138) rfl rfl
theorem gw_2_140 : Cond.instanceMethod yX3_takeKind ∈ gT := gm_2 (i := 140) rfl rfl
theorem gw_2_141 : Cond.code yX3_takeKind cX3_takeKind 1 (some .int) ∈ gT := gm_2 (i := 141) rfl rfl
theorem gw_2_149 : Cond.methodLink RL 46 yX7_fault ∈ gT := gm_2 (i := 149) rfl rfl
theorem gw_2_150 : Cond.instanceMethod yX7_fault ∈ gT := gm_2 (i := 150) rfl rfl
theorem gw_2_151 : Cond.selects RX7 yX7_fault yX7_fault ∈ gT := gm_2 (i := 151) rfl rfl
theorem gw_2_152 : Cond.code yX7_fault cX7_fault 1 (some .int) ∈ gT := gm_2 (i := 152) rfl rfl
theorem gw_2_153 : Cond.methodLink RL 50 yX7_height ∈ gT := gm_2 (i := 153) rfl rfl
theorem gw_2_154 : Cond.instanceMethod yX7_height ∈ gT := gm_2 (i := 154) rfl rfl
theorem gw_2_155 : Cond.selects RX7 yX7_height yX7_height ∈ gT := gm_2 (i := 155) rfl rfl
theorem gw_2_156 : Cond.code yX7_height cX7_height 5 (some .int) ∈ gT := gm_2 (i := 156) rfl rfl
theorem gw_2_157 : Cond.methodLink RX7 119 yX7_runTo ∈ gT := gm_2 (i := 157) rfl rfl
theorem gw_2_159 : Cond.instanceMethod yX7_runTo ∈ gT := gm_2 (i := 159) rfl rfl
theorem gw_2_160 : Cond.code yX7_runTo cX7_runTo 5 (some (.object "DeltaRuns$Years")) ∈ gT := gm_2 (i := 160) rfl rfl
theorem gw_2_161 : Cond.methodLink RX7 180 yX7_startedYears ∈ gT := gm_2 (i := 161) rfl rfl
theorem gw_2_163 : Cond.instanceMethod yX7_startedYears ∈ gT := gm_2 (i := 163) rfl rfl
theorem gw_2_164 : Cond.code yX7_startedYears cX7_startedYears 3 (some (.object "DeltaRuns$Years")) ∈ gT := gm_2 (i := 164) rfl rfl
theorem gw_2_165 : Cond.instantiable RX6 2 ∈ gT := gm_2 (i := 165) rfl rfl
theorem gw_2_167 : Cond.instanceMethod yX6_init ∈ gT := gm_2 (i := 167) rfl rfl
theorem gw_2_168 : Cond.code yX6_init cX6_init 1 none ∈ gT := gm_2 (i := 168) rfl rfl
theorem gw_2_169 : Cond.methodLink RX6 5 objectInit ∈ gT := gm_2 (i := 169) rfl rfl
theorem gw_2_170 : Cond.fieldLink RX6 11 "DeltaRuns$Years" "packed" "[J" ∈ gT := gm_2 (i := 170) rfl rfl
theorem gw_2_171 : Cond.fieldLink RX6 15 "DeltaRuns$Years" "latest" "I" ∈ gT := gm_2 (i := 171) rfl rfl
theorem gw_2_172 : Cond.fieldLink RX7 177 "DeltaRuns$Years" "latest" "I" ∈ gT := gm_2 (i := 172) rfl rfl
theorem gw_2_173 : Cond.laysFinal RX6 "DeltaRuns$Years" "packed" "[J" ∈ gT := gm_2 (i := 173) rfl rfl
theorem gw_2_175 : Cond.lays RX6 "DeltaRuns$Years" "latest" "I" ∈ gT := gm_2 (i := 175) rfl rfl
theorem gw_2_178 : Cond.arrayClass .long ∈ gT := gm_2 (i := 178) rfl rfl
theorem gw_2_179 : Cond.methodLink RX7 195 yX6_keep ∈ gT := gm_2 (i := 179) rfl rfl
theorem gw_2_180 : Cond.instanceMethod yX6_keep ∈ gT := gm_2 (i := 180) rfl rfl
theorem gw_2_181 : Cond.selects RX6 yX6_keep yX6_keep ∈ gT := gm_2 (i := 181) rfl rfl
theorem gw_2_182 : Cond.code yX6_keep cX6_keep 7 none ∈ gT := gm_2 (i := 182) rfl rfl
theorem gw_2_183 : Cond.methodLink RX7 126 yX7_takeUp ∈ gT := gm_2 (i := 183) rfl rfl
theorem gw_2_185 : Cond.instanceMethod yX7_takeUp ∈ gT := gm_2 (i := 185) rfl rfl
theorem gw_2_186 : Cond.code yX7_takeUp cX7_takeUp 4 none ∈ gT := gm_2 (i := 186) rfl rfl
theorem gw_2_187 : Cond.methodLink RX7 123 yX6_heightOf ∈ gT := gm_2 (i := 187) rfl rfl
theorem gw_2_188 : Cond.instanceMethod yX6_heightOf ∈ gT := gm_2 (i := 188) rfl rfl
theorem gw_2_189 : Cond.selects RX6 yX6_heightOf yX6_heightOf ∈ gT := gm_2 (i := 189) rfl rfl
theorem gw_2_190 : Cond.code yX6_heightOf cX6_heightOf 5 (some .int) ∈ gT := gm_2 (i := 190) rfl rfl
theorem gw_2_191 : Cond.methodLink RX7 204 yX2_dykesIn ∈ gT := gm_2 (i := 191) rfl rfl
theorem gw_2_192 : Cond.instanceMethod yX2_dykesIn ∈ gT := gm_2 (i := 192) rfl rfl
theorem gw_2_193 : Cond.selects RX2 yX2_dykesIn yX2_dykesIn ∈ gT := gm_2 (i := 193) rfl rfl
theorem gw_2_194 : Cond.code yX2_dykesIn cX2_dykesIn 6 none ∈ gT := gm_2 (i := 194) rfl rfl
theorem gw_2_195 : Cond.methodLink RX2 35 yX1_has ∈ gT := gm_2 (i := 195) rfl rfl
theorem gw_2_197 : Cond.methodLink RX7 130 yX2_workIn ∈ gT := gm_2 (i := 197) rfl rfl
theorem gw_2_198 : Cond.instanceMethod yX2_workIn ∈ gT := gm_2 (i := 198) rfl rfl
theorem gw_2_199 : Cond.selects RX2 yX2_workIn yX2_workIn ∈ gT := gm_2 (i := 199) rfl rfl
theorem gw_2_200 : Cond.code yX2_workIn cX2_workIn 7 none ∈ gT := gm_2 (i := 200) rfl rfl
theorem gw_2_201 : Cond.methodLink RX2 27 yX2_dykesIn ∈ gT := gm_2 (i := 201) rfl rfl
theorem gw_2_202 : Cond.methodLink RX2 50 yJ9_max_7cf53 ∈ gT := gm_2 (i := 202) rfl rfl
theorem gw_2_203 : Cond.static yJ9_max_7cf53 ∈ gT := gm_2 (i := 203) rfl rfl
theorem gw_2_204 : Cond.code yJ9_max_7cf53 cJ9_max_7cf53 2 (some .int) ∈ gT := gm_2 (i := 204) rfl rfl
theorem gw_2_205 : Cond.methodLink RX2 55 yJ9_min_7cf53 ∈ gT := gm_2 (i := 205) rfl rfl
theorem gw_2_206 : Cond.methodLink RX7 134 yX7_sortOf ∈ gT := gm_2 (i := 206) rfl rfl
theorem gw_2_207 : Cond.static yX7_sortOf ∈ gT := gm_2 (i := 207) rfl rfl
theorem gw_2_208 : Cond.code yX7_sortOf cX7_sortOf 1 (some .int) ∈ gT := gm_2 (i := 208) rfl rfl
theorem gw_2_209 : Cond.methodLink RX7 137 yX5_run ∈ gT := gm_2 (i := 209) rfl rfl
theorem gw_2_210 : Cond.instanceMethod yX5_run ∈ gT := gm_2 (i := 210) rfl rfl
theorem gw_2_211 : Cond.selects RX5 yX5_run yX5_run ∈ gT := gm_2 (i := 211) rfl rfl
theorem gw_2_212 : Cond.code yX5_run cX5_run 4 none ∈ gT := gm_2 (i := 212) rfl rfl
theorem gw_2_213 : Cond.methodLink RX5 40 yX5_dryUp ∈ gT := gm_2 (i := 213) rfl rfl
theorem gw_2_215 : Cond.instanceMethod yX5_dryUp ∈ gT := gm_2 (i := 215) rfl rfl
theorem gw_2_216 : Cond.code yX5_dryUp cX5_dryUp 2 none ∈ gT := gm_2 (i := 216) rfl rfl
theorem gw_2_217 : Cond.methodLink RX5 52 yX5_pour ∈ gT := gm_2 (i := 217) rfl rfl
theorem gw_2_219 : Cond.instanceMethod yX5_pour ∈ gT := gm_2 (i := 219) rfl rfl
theorem gw_2_220 : Cond.code yX5_pour cX5_pour 4 none ∈ gT := gm_2 (i := 220) rfl rfl
theorem gw_2_221 : Cond.methodLink RX5 106 yX5_goesAhead ∈ gT := gm_2 (i := 221) rfl rfl
theorem gw_2_223 : Cond.instanceMethod yX5_goesAhead ∈ gT := gm_2 (i := 223) rfl rfl
theorem gw_2_224 : Cond.code yX5_goesAhead cX5_goesAhead 3 (some .boolean) ∈ gT := gm_2 (i := 224) rfl rfl
theorem gw_2_225 : Cond.methodLink RX5 59 yX5_giveOn ∈ gT := gm_2 (i := 225) rfl rfl
theorem gw_2_227 : Cond.instanceMethod yX5_giveOn ∈ gT := gm_2 (i := 227) rfl rfl
theorem gw_2_228 : Cond.code yX5_giveOn cX5_giveOn 5 none ∈ gT := gm_2 (i := 228) rfl rfl
theorem gw_2_229 : Cond.methodLink RX5 72 yX5_findWays ∈ gT := gm_2 (i := 229) rfl rfl
theorem gw_2_231 : Cond.instanceMethod yX5_findWays ∈ gT := gm_2 (i := 231) rfl rfl
theorem gw_2_232 : Cond.code yX5_findWays cX5_findWays 7 none ∈ gT := gm_2 (i := 232) rfl rfl
theorem gw_2_237 : Cond.methodLink RX5 95 yX1_has ∈ gT := gm_2 (i := 237) rfl rfl
theorem gw_2_239 : Cond.methodLink RX5 79 yX5_shareToLowest ∈ gT := gm_2 (i := 239) rfl rfl
theorem gw_3_1 : Cond.instanceMethod yX5_shareToLowest ∈ gT := gm_3 (i := 1) rfl rfl
theorem gw_3_2 : Cond.code yX5_shareToLowest cX5_shareToLowest 4 none ∈ gT := gm_3 (i := 2) rfl rfl
theorem gw_3_3 : Cond.methodLink RX5 102 yX5_firstGreatest ∈ gT := gm_3 (i := 3) rfl rfl
theorem gw_3_5 : Cond.instanceMethod yX5_firstGreatest ∈ gT := gm_3 (i := 5) rfl rfl
theorem gw_3_6 : Cond.code yX5_firstGreatest cX5_firstGreatest 4 (some .int) ∈ gT := gm_3 (i := 6) rfl rfl
theorem gw_3_7 : Cond.methodLink RX5 83 yX5_shareEvenly ∈ gT := gm_3 (i := 7) rfl rfl
theorem gw_3_9 : Cond.instanceMethod yX5_shareEvenly ∈ gT := gm_3 (i := 9) rfl rfl
theorem gw_3_10 : Cond.code yX5_shareEvenly cX5_shareEvenly 3 none ∈ gT := gm_3 (i := 10) rfl rfl
theorem gw_3_11 : Cond.methodLink RX5 86 yX5_shareByDrops ∈ gT := gm_3 (i := 11) rfl rfl
theorem gw_3_13 : Cond.instanceMethod yX5_shareByDrops ∈ gT := gm_3 (i := 13) rfl rfl
theorem gw_3_14 : Cond.code yX5_shareByDrops cX5_shareByDrops 6 none ∈ gT := gm_3 (i := 14) rfl rfl
theorem gw_3_15 : Cond.methodLink RX7 184 yX7_rateOf ∈ gT := gm_3 (i := 15) rfl rfl
theorem gw_3_16 : Cond.static yX7_rateOf ∈ gT := gm_3 (i := 16) rfl rfl
theorem gw_3_17 : Cond.code yX7_rateOf cX7_rateOf 1 (some .int) ∈ gT := gm_3 (i := 17) rfl rfl
theorem gw_3_18 : Cond.methodLink RX7 187 yX7_wearOf ∈ gT := gm_3 (i := 18) rfl rfl
theorem gw_3_19 : Cond.static yX7_wearOf ∈ gT := gm_3 (i := 19) rfl rfl
theorem gw_3_20 : Cond.code yX7_wearOf cX7_wearOf 1 (some .int) ∈ gT := gm_3 (i := 20) rfl rfl
theorem gw_3_21 : Cond.methodLink RX7 190 yX5_settle ∈ gT := gm_3 (i := 21) rfl rfl
theorem gw_3_22 : Cond.instanceMethod yX5_settle ∈ gT := gm_3 (i := 22) rfl rfl
theorem gw_3_23 : Cond.selects RX5 yX5_settle yX5_settle ∈ gT := gm_3 (i := 23) rfl rfl
theorem gw_3_24 : Cond.code yX5_settle cX5_settle 7 none ∈ gT := gm_3 (i := 24) rfl rfl
theorem gw_3_25 : Cond.methodLink RX5 63 yJ9_min_7cf53 ∈ gT := gm_3 (i := 25) rfl rfl
theorem gw_3_26 : Cond.methodLink RX5 69 yJ9_max_7cf53 ∈ gT := gm_3 (i := 26) rfl rfl
theorem gw_3_27 : Cond.methodLink RL 55 yX7_flow ∈ gT := gm_3 (i := 27) rfl rfl
theorem gw_3_28 : Cond.instanceMethod yX7_flow ∈ gT := gm_3 (i := 28) rfl rfl
theorem gw_3_29 : Cond.selects RX7 yX7_flow yX7_flow ∈ gT := gm_3 (i := 29) rfl rfl
theorem gw_3_30 : Cond.code yX7_flow cX7_flow 6 (some .int) ∈ gT := gm_3 (i := 30) rfl rfl
theorem gw_3_31 : Cond.methodLink RL 59 yX7_lake ∈ gT := gm_3 (i := 31) rfl rfl
theorem gw_3_32 : Cond.instanceMethod yX7_lake ∈ gT := gm_3 (i := 32) rfl rfl
theorem gw_3_33 : Cond.selects RX7 yX7_lake yX7_lake ∈ gT := gm_3 (i := 33) rfl rfl
theorem gw_3_34 : Cond.code yX7_lake cX7_lake 7 (some .int) ∈ gT := gm_3 (i := 34) rfl rfl
theorem gw_3_35 : Cond.methodLink RL 63 yX7_map ∈ gT := gm_3 (i := 35) rfl rfl
theorem gw_3_36 : Cond.instanceMethod yX7_map ∈ gT := gm_3 (i := 36) rfl rfl
theorem gw_3_37 : Cond.selects RX7 yX7_map yX7_map ∈ gT := gm_3 (i := 37) rfl rfl
theorem gw_3_38 : Cond.code yX7_map cX7_map 6 (some .int) ∈ gT := gm_3 (i := 38) rfl rfl
theorem gw_3_39 : Cond.methodLink RX7 151 yX7_isDay ∈ gT := gm_3 (i := 39) rfl rfl
theorem gw_3_40 : Cond.static yX7_isDay ∈ gT := gm_3 (i := 40) rfl rfl
theorem gw_3_41 : Cond.code yX7_isDay cX7_isDay 1 (some .boolean) ∈ gT := gm_3 (i := 41) rfl rfl
theorem gw_3_42 : Cond.methodLink RX7 155 yX0_add ∈ gT := gm_3 (i := 42) rfl rfl
theorem gw_3_43 : Cond.instanceMethod yX0_add ∈ gT := gm_3 (i := 43) rfl rfl
theorem gw_3_44 : Cond.selects RX0 yX0_add yX0_add ∈ gT := gm_3 (i := 44) rfl rfl
theorem gw_3_45 : Cond.code yX0_add cX0_add 5 none ∈ gT := gm_3 (i := 45) rfl rfl
theorem gw_3_46 : Cond.methodLink RL 67 yX7_stays ∈ gT := gm_3 (i := 46) rfl rfl
theorem gw_3_47 : Cond.instanceMethod yX7_stays ∈ gT := gm_3 (i := 47) rfl rfl
theorem gw_3_48 : Cond.selects RX7 yX7_stays yX7_stays ∈ gT := gm_3 (i := 48) rfl rfl
theorem gw_3_49 : Cond.code yX7_stays cX7_stays 5 (some .int) ∈ gT := gm_3 (i := 49) rfl rfl
theorem gw_3_50 : Cond.methodLink RX7 159 yX7_againstFrom ∈ gT := gm_3 (i := 50) rfl rfl
theorem gw_3_52 : Cond.instanceMethod yX7_againstFrom ∈ gT := gm_3 (i := 52) rfl rfl
theorem gw_3_53 : Cond.code yX7_againstFrom cX7_againstFrom 6 (some .int) ∈ gT := gm_3 (i := 53) rfl rfl
theorem gw_3_54 : Cond.methodLink RL 71 yX7_foretold ∈ gT := gm_3 (i := 54) rfl rfl
theorem gw_3_55 : Cond.instanceMethod yX7_foretold ∈ gT := gm_3 (i := 55) rfl rfl
theorem gw_3_56 : Cond.selects RX7 yX7_foretold yX7_foretold ∈ gT := gm_3 (i := 56) rfl rfl
theorem gw_3_57 : Cond.code yX7_foretold cX7_foretold 11 (some .int) ∈ gT := gm_3 (i := 57) rfl rfl
theorem gw_3_58 : Cond.methodLink RX7 163 yJ9_min_7cf53 ∈ gT := gm_3 (i := 58) rfl rfl
theorem gw_3_59 : Cond.methodLink RX7 168 yJ9_max_7cf53 ∈ gT := gm_3 (i := 59) rfl rfl
theorem gw_3_60 : Cond.methodLink RX7 174 yX7_trend ∈ gT := gm_3 (i := 60) rfl rfl
theorem gw_3_61 : Cond.static yX7_trend ∈ gT := gm_3 (i := 61) rfl rfl
theorem gw_3_62 : Cond.code yX7_trend cX7_trend 3 (some .int) ∈ gT := gm_3 (i := 62) rfl rfl
theorem gw_3_63 : Cond.methodLink RL 75 yX7_wasted ∈ gT := gm_3 (i := 63) rfl rfl
theorem gw_3_64 : Cond.instanceMethod yX7_wasted ∈ gT := gm_3 (i := 64) rfl rfl
theorem gw_3_65 : Cond.selects RX7 yX7_wasted yX7_wasted ∈ gT := gm_3 (i := 65) rfl rfl
theorem gw_3_66 : Cond.code yX7_wasted cX7_wasted 6 (some .int) ∈ gT := gm_3 (i := 66) rfl rfl
theorem gw_3_67 : Cond.methodLink RL 79 yX7_against ∈ gT := gm_3 (i := 67) rfl rfl
theorem gw_3_68 : Cond.instanceMethod yX7_against ∈ gT := gm_3 (i := 68) rfl rfl
theorem gw_3_69 : Cond.selects RX7 yX7_against yX7_against ∈ gT := gm_3 (i := 69) rfl rfl
theorem gw_3_70 : Cond.code yX7_against cX7_against 3 (some .int) ∈ gT := gm_3 (i := 70) rfl rfl
theorem gw_3_71 : Cond.methodLink RL 83 yX7_count ∈ gT := gm_3 (i := 71) rfl rfl
theorem gw_3_72 : Cond.instanceMethod yX7_count ∈ gT := gm_3 (i := 72) rfl rfl
theorem gw_3_73 : Cond.selects RX7 yX7_count yX7_count ∈ gT := gm_3 (i := 73) rfl rfl
theorem gw_3_74 : Cond.code yX7_count cX7_count 2 (some .int) ∈ gT := gm_3 (i := 74) rfl rfl
theorem gw_3_75 : Cond.methodLink RL 87 yX7_status ∈ gT := gm_3 (i := 75) rfl rfl
theorem gw_3_76 : Cond.instanceMethod yX7_status ∈ gT := gm_3 (i := 76) rfl rfl
theorem gw_3_77 : Cond.selects RX7 yX7_status yX7_status ∈ gT := gm_3 (i := 77) rfl rfl
theorem gw_3_78 : Cond.code yX7_status cX7_status 1 (some .int) ∈ gT := gm_3 (i := 78) rfl rfl
theorem gw_3_79 : Cond.classLink RL 10 RX8 ∈ gT := gm_3 (i := 79) rfl rfl
theorem gw_3_80 : Cond.instantiable RX8 38 ∈ gT := gm_3 (i := 80) rfl rfl
theorem gw_3_81 : Cond.methodLink RL 12 yX8_init ∈ gT := gm_3 (i := 81) rfl rfl
theorem gw_3_82 : Cond.instanceMethod yX8_init ∈ gT := gm_3 (i := 82) rfl rfl
theorem gw_3_83 : Cond.code yX8_init cX8_init 1 none ∈ gT := gm_3 (i := 83) rfl rfl
theorem gw_3_84 : Cond.methodLink RX8 1 objectInit ∈ gT := gm_3 (i := 84) rfl rfl
theorem gw_3_85 : Cond.methodLink RX8 90 yX8_flat ∈ gT := gm_3 (i := 85) rfl rfl
theorem gw_3_87 : Cond.instanceMethod yX8_flat ∈ gT := gm_3 (i := 87) rfl rfl
theorem gw_3_88 : Cond.code yX8_flat cX8_flat 2 none ∈ gT := gm_3 (i := 88) rfl rfl
theorem gw_3_89 : Cond.fieldLink RX8 93 "DeltaRunsModel" "thrown" "I" ∈ gT := gm_3 (i := 89) rfl rfl
theorem gw_3_90 : Cond.fieldLink RX8 96 "DeltaRunsModel" "status" "I" ∈ gT := gm_3 (i := 90) rfl rfl
theorem gw_3_91 : Cond.fieldLink RX8 7 "DeltaRunsModel" "wide" "I" ∈ gT := gm_3 (i := 91) rfl rfl
theorem gw_3_92 : Cond.fieldLink RX8 13 "DeltaRunsModel" "high" "I" ∈ gT := gm_3 (i := 92) rfl rfl
theorem gw_3_93 : Cond.fieldLink RX8 16 "DeltaRunsModel" "level" "I" ∈ gT := gm_3 (i := 93) rfl rfl
theorem gw_3_94 : Cond.fieldLink RX8 99 "DeltaRunsModel" "spring" "I" ∈ gT := gm_3 (i := 94) rfl rfl
theorem gw_3_95 : Cond.fieldLink RX8 19 "DeltaRunsModel" "comes" "I" ∈ gT := gm_3 (i := 95) rfl rfl
theorem gw_3_96 : Cond.fieldLink RX8 22 "DeltaRunsModel" "land" "[I" ∈ gT := gm_3 (i := 96) rfl rfl
theorem gw_3_97 : Cond.fieldLink RX8 195 "DeltaRunsModel" "acts" "I" ∈ gT := gm_3 (i := 97) rfl rfl
theorem gw_3_98 : Cond.fieldLink RX8 26 "DeltaRunsModel" "aSort" "[I" ∈ gT := gm_3 (i := 98) rfl rfl
theorem gw_3_99 : Cond.fieldLink RX8 29 "DeltaRunsModel" "aYear" "[I" ∈ gT := gm_3 (i := 99) rfl rfl
theorem gw_3_100 : Cond.fieldLink RX8 32 "DeltaRunsModel" "aX" "[I" ∈ gT := gm_3 (i := 100) rfl rfl
theorem gw_3_101 : Cond.fieldLink RX8 35 "DeltaRunsModel" "aY" "[I" ∈ gT := gm_3 (i := 101) rfl rfl
theorem gw_3_102 : Cond.fieldLink RX8 38 "DeltaRunsModel" "aBy" "[I" ∈ gT := gm_3 (i := 102) rfl rfl
theorem gw_3_103 : Cond.fieldLink RX8 177 "DeltaRunsModel" "nMany" "I" ∈ gT := gm_3 (i := 103) rfl rfl
theorem gw_3_104 : Cond.fieldLink RX8 41 "DeltaRunsModel" "nAct" "[I" ∈ gT := gm_3 (i := 104) rfl rfl
theorem gw_3_105 : Cond.fieldLink RX8 44 "DeltaRunsModel" "tape" "[I" ∈ gT := gm_3 (i := 105) rfl rfl
theorem gw_3_106 : Cond.fieldLink RX8 127 "DeltaRunsModel" "taped" "I" ∈ gT := gm_3 (i := 106) rfl rfl
theorem gw_3_107 : Cond.fieldLink RX8 137 "DeltaRunsModel" "from" "I" ∈ gT := gm_3 (i := 107) rfl rfl
theorem gw_3_108 : Cond.fieldLink RX8 134 "DeltaRunsModel" "to" "I" ∈ gT := gm_3 (i := 108) rfl rfl
theorem gw_3_109 : Cond.fieldLink RX8 151 "DeltaRunsModel" "sort" "I" ∈ gT := gm_3 (i := 109) rfl rfl
theorem gw_3_110 : Cond.fieldLink RX8 140 "DeltaRunsModel" "worth" "J" ∈ gT := gm_3 (i := 110) rfl rfl
theorem gw_3_111 : Cond.fieldLink RX8 47 "DeltaRunsModel" "fault" "I" ∈ gT := gm_3 (i := 111) rfl rfl
theorem gw_3_112 : Cond.fieldLink RX8 162 "DeltaRunsModel" "bad" "Z" ∈ gT := gm_3 (i := 112) rfl rfl
theorem gw_3_113 : Cond.fieldLink RX8 50 "DeltaRunsModel" "heights" "[I" ∈ gT := gm_3 (i := 113) rfl rfl
theorem gw_3_114 : Cond.fieldLink RX8 53 "DeltaRunsModel" "isDyked" "[Z" ∈ gT := gm_3 (i := 114) rfl rfl
theorem gw_3_115 : Cond.fieldLink RX8 57 "DeltaRunsModel" "got" "[I" ∈ gT := gm_3 (i := 115) rfl rfl
theorem gw_3_116 : Cond.fieldLink RX8 60 "DeltaRunsModel" "isPit" "[Z" ∈ gT := gm_3 (i := 116) rfl rfl
theorem gw_3_117 : Cond.fieldLink RX8 63 "DeltaRunsModel" "order" "[I" ∈ gT := gm_3 (i := 117) rfl rfl
theorem gw_3_118 : Cond.fieldLink RX8 66 "DeltaRunsModel" "sides" "[I" ∈ gT := gm_3 (i := 118) rfl rfl
theorem gw_3_119 : Cond.fieldLink RX8 69 "DeltaRunsModel" "gives" "[I" ∈ gT := gm_3 (i := 119) rfl rfl
theorem gw_3_120 : Cond.fieldLink RX8 102 "DeltaRunsModel" "entries" "I" ∈ gT := gm_3 (i := 120) rfl rfl
theorem gw_3_121 : Cond.fieldLink RX8 72 "DeltaRunsModel" "eYear" "[I" ∈ gT := gm_3 (i := 121) rfl rfl
theorem gw_3_122 : Cond.fieldLink RX8 75 "DeltaRunsModel" "eCell" "[I" ∈ gT := gm_3 (i := 122) rfl rfl
theorem gw_3_123 : Cond.fieldLink RX8 78 "DeltaRunsModel" "eHeight" "[I" ∈ gT := gm_3 (i := 123) rfl rfl
theorem gw_3_124 : Cond.fieldLink RX8 81 "DeltaRunsModel" "eKnown" "[I" ∈ gT := gm_3 (i := 124) rfl rfl
theorem gw_3_125 : Cond.fieldLink RX8 84 "DeltaRunsModel" "breaks" "[I" ∈ gT := gm_3 (i := 125) rfl rfl
theorem gw_3_126 : Cond.fieldLink RX8 87 "DeltaRunsModel" "firstBroken" "[I" ∈ gT := gm_3 (i := 126) rfl rfl
theorem gw_3_127 : Cond.lays RX8 "DeltaRunsModel" "thrown" "I" ∈ gT := gm_3 (i := 127) rfl rfl
theorem gw_3_129 : Cond.lays RX8 "DeltaRunsModel" "status" "I" ∈ gT := gm_3 (i := 129) rfl rfl
theorem gw_3_131 : Cond.lays RX8 "DeltaRunsModel" "wide" "I" ∈ gT := gm_3 (i := 131) rfl rfl
theorem gw_3_133 : Cond.lays RX8 "DeltaRunsModel" "high" "I" ∈ gT := gm_3 (i := 133) rfl rfl
theorem gw_3_135 : Cond.lays RX8 "DeltaRunsModel" "level" "I" ∈ gT := gm_3 (i := 135) rfl rfl
theorem gw_3_137 : Cond.lays RX8 "DeltaRunsModel" "spring" "I" ∈ gT := gm_3 (i := 137) rfl rfl
theorem gw_3_139 : Cond.lays RX8 "DeltaRunsModel" "comes" "I" ∈ gT := gm_3 (i := 139) rfl rfl
theorem gw_3_141 : Cond.laysFinal RX8 "DeltaRunsModel" "land" "[I" ∈ gT := gm_3 (i := 141) rfl rfl
theorem gw_3_143 : Cond.lays RX8 "DeltaRunsModel" "acts" "I" ∈ gT := gm_3 (i := 143) rfl rfl
theorem gw_3_145 : Cond.laysFinal RX8 "DeltaRunsModel" "aSort" "[I" ∈ gT := gm_3 (i := 145) rfl rfl
theorem gw_3_147 : Cond.laysFinal RX8 "DeltaRunsModel" "aYear" "[I" ∈ gT := gm_3 (i := 147) rfl rfl
theorem gw_3_149 : Cond.laysFinal RX8 "DeltaRunsModel" "aX" "[I" ∈ gT := gm_3 (i := 149) rfl rfl
theorem gw_3_151 : Cond.laysFinal RX8 "DeltaRunsModel" "aY" "[I" ∈ gT := gm_3 (i := 151) rfl rfl
theorem gw_3_153 : Cond.laysFinal RX8 "DeltaRunsModel" "aBy" "[I" ∈ gT := gm_3 (i := 153) rfl rfl
theorem gw_3_155 : Cond.lays RX8 "DeltaRunsModel" "nMany" "I" ∈ gT := gm_3 (i := 155) rfl rfl
theorem gw_3_157 : Cond.laysFinal RX8 "DeltaRunsModel" "nAct" "[I" ∈ gT := gm_3 (i := 157) rfl rfl
theorem gw_3_159 : Cond.laysFinal RX8 "DeltaRunsModel" "tape" "[I" ∈ gT := gm_3 (i := 159) rfl rfl
theorem gw_3_161 : Cond.lays RX8 "DeltaRunsModel" "taped" "I" ∈ gT := gm_3 (i := 161) rfl rfl
theorem gw_3_163 : Cond.lays RX8 "DeltaRunsModel" "from" "I" ∈ gT := gm_3 (i := 163) rfl rfl
theorem gw_3_165 : Cond.lays RX8 "DeltaRunsModel" "to" "I" ∈ gT := gm_3 (i := 165) rfl rfl
theorem gw_3_167 : Cond.lays RX8 "DeltaRunsModel" "sort" "I" ∈ gT := gm_3 (i := 167) rfl rfl
theorem gw_3_169 : Cond.lays RX8 "DeltaRunsModel" "worth" "J" ∈ gT := gm_3 (i := 169) rfl rfl
theorem gw_3_171 : Cond.lays RX8 "DeltaRunsModel" "fault" "I" ∈ gT := gm_3 (i := 171) rfl rfl
theorem gw_3_173 : Cond.lays RX8 "DeltaRunsModel" "bad" "Z" ∈ gT := gm_3 (i := 173) rfl rfl
theorem gw_3_175 : Cond.laysFinal RX8 "DeltaRunsModel" "heights" "[I" ∈ gT := gm_3 (i := 175) rfl rfl
theorem gw_3_177 : Cond.laysFinal RX8 "DeltaRunsModel" "isDyked" "[Z" ∈ gT := gm_3 (i := 177) rfl rfl
theorem gw_3_179 : Cond.laysFinal RX8 "DeltaRunsModel" "got" "[I" ∈ gT := gm_3 (i := 179) rfl rfl
theorem gw_3_181 : Cond.laysFinal RX8 "DeltaRunsModel" "isPit" "[Z" ∈ gT := gm_3 (i := 181) rfl rfl
theorem gw_3_183 : Cond.laysFinal RX8 "DeltaRunsModel" "order" "[I" ∈ gT := gm_3 (i := 183) rfl rfl
theorem gw_3_185 : Cond.laysFinal RX8 "DeltaRunsModel" "sides" "[I" ∈ gT := gm_3 (i := 185) rfl rfl
theorem gw_3_187 : Cond.laysFinal RX8 "DeltaRunsModel" "gives" "[I" ∈ gT := gm_3 (i := 187) rfl rfl
theorem gw_3_189 : Cond.lays RX8 "DeltaRunsModel" "entries" "I" ∈ gT := gm_3 (i := 189) rfl rfl
theorem gw_3_191 : Cond.laysFinal RX8 "DeltaRunsModel" "eYear" "[I" ∈ gT := gm_3 (i := 191) rfl rfl
theorem gw_3_193 : Cond.laysFinal RX8 "DeltaRunsModel" "eCell" "[I" ∈ gT := gm_3 (i := 193) rfl rfl
theorem gw_3_195 : Cond.laysFinal RX8 "DeltaRunsModel" "eHeight" "[I" ∈ gT := gm_3 (i := 195) rfl rfl
theorem gw_3_197 : Cond.laysFinal RX8 "DeltaRunsModel" "eKnown" "[I" ∈ gT := gm_3 (i := 197) rfl rfl
theorem gw_3_199 : Cond.laysFinal RX8 "DeltaRunsModel" "breaks" "[I" ∈ gT := gm_3 (i := 199) rfl rfl
theorem gw_3_201 : Cond.laysFinal RX8 "DeltaRunsModel" "firstBroken" "[I" ∈ gT := gm_3 (i := 201) rfl rfl
theorem gw_3_204 : Cond.methodLink RL 17 yX8_size ∈ gT := gm_3 (i := 204) rfl rfl
theorem gw_3_205 : Cond.instanceMethod yX8_size ∈ gT := gm_3 (i := 205) rfl rfl
theorem gw_3_206 : Cond.selects RX8 yX8_size yX8_size ∈ gT := gm_3 (i := 206) rfl rfl
theorem gw_3_207 : Cond.code yX8_size cX8_size 3 (some .int) ∈ gT := gm_3 (i := 207) rfl rfl
theorem gw_3_208 : Cond.constantLong RX8 109 (2) ∈ gT := gm_3 (i := 208) rfl rfl
theorem gw_3_209 : Cond.constantLong RX8 111 (12) ∈ gT := gm_3 (i := 209) rfl rfl
theorem gw_3_210 : Cond.methodLink RX8 105 yX8_in ∈ gT := gm_3 (i := 210) rfl rfl
theorem gw_3_211 : Cond.static yX8_in ∈ gT := gm_3 (i := 211) rfl rfl
theorem gw_3_212 : Cond.code yX8_in cX8_in 6 (some .boolean) ∈ gT := gm_3 (i := 212) rfl rfl
theorem gw_3_213 : Cond.constantLong RX8 113 (10) ∈ gT := gm_3 (i := 213) rfl rfl
theorem gw_3_214 : Cond.methodLink RX8 115 yX8_told ∈ gT := gm_3 (i := 214) rfl rfl
theorem gw_3_216 : Cond.instanceMethod yX8_told ∈ gT := gm_3 (i := 216) rfl rfl
theorem gw_3_217 : Cond.code yX8_told cX8_told 2 (some .int) ∈ gT := gm_3 (i := 217) rfl rfl
theorem gw_3_218 : Cond.methodLink RL 22 yX8_land ∈ gT := gm_3 (i := 218) rfl rfl
theorem gw_3_219 : Cond.instanceMethod yX8_land ∈ gT := gm_3 (i := 219) rfl rfl
theorem gw_3_220 : Cond.selects RX8 yX8_land yX8_land ∈ gT := gm_3 (i := 220) rfl rfl
theorem gw_3_221 : Cond.code yX8_land cX8_land 9 (some .int) ∈ gT := gm_3 (i := 221) rfl rfl
theorem gw_3_222 : Cond.constantLong RX8 119 (200) ∈ gT := gm_3 (i := 222) rfl rfl
theorem gw_3_223 : Cond.methodLink RX8 121 yX8_isCell ∈ gT := gm_3 (i := 223) rfl rfl
theorem gw_3_225 : Cond.instanceMethod yX8_isCell ∈ gT := gm_3 (i := 225) rfl rfl
theorem gw_3_226 : Cond.code yX8_isCell cX8_isCell 3 (some .boolean) ∈ gT := gm_3 (i := 226) rfl rfl
theorem gw_3_227 : Cond.methodLink RL 27 yX8_level ∈ gT := gm_3 (i := 227) rfl rfl
theorem gw_3_228 : Cond.instanceMethod yX8_level ∈ gT := gm_3 (i := 228) rfl rfl
theorem gw_3_229 : Cond.selects RX8 yX8_level yX8_level ∈ gT := gm_3 (i := 229) rfl rfl
theorem gw_3_230 : Cond.code yX8_level cX8_level 2 (some .int) ∈ gT := gm_3 (i := 230) rfl rfl
theorem gw_3_231 : Cond.methodLink RL 32 yX8_spring ∈ gT := gm_3 (i := 231) rfl rfl
theorem gw_3_232 : Cond.instanceMethod yX8_spring ∈ gT := gm_3 (i := 232) rfl rfl
theorem gw_3_233 : Cond.selects RX8 yX8_spring yX8_spring ∈ gT := gm_3 (i := 233) rfl rfl
theorem gw_3_234 : Cond.code yX8_spring cX8_spring 4 (some .int) ∈ gT := gm_3 (i := 234) rfl rfl
theorem gw_3_235 : Cond.constantLong RX8 125 (1000) ∈ gT := gm_3 (i := 235) rfl rfl
theorem gw_3_236 : Cond.methodLink RL 36 yX8_feed ∈ gT := gm_3 (i := 236) rfl rfl
theorem gw_3_237 : Cond.instanceMethod yX8_feed ∈ gT := gm_3 (i := 237) rfl rfl
theorem gw_3_238 : Cond.selects RX8 yX8_feed yX8_feed ∈ gT := gm_3 (i := 238) rfl rfl
theorem gw_3_239 : Cond.code yX8_feed cX8_feed 6 (some .int) ∈ gT := gm_3 (i := 239) rfl rfl
theorem gw_4_0 : Cond.methodLink RX8 130 yX8_four ∈ gT := gm_4 (i := 0) rfl rfl
theorem gw_4_2 : Cond.instanceMethod yX8_four ∈ gT := gm_4 (i := 2) rfl rfl
theorem gw_4_3 : Cond.code yX8_four cX8_four 3 none ∈ gT := gm_4 (i := 3) rfl rfl
theorem gw_4_4 : Cond.methodLink RL 40 yX8_end ∈ gT := gm_4 (i := 4) rfl rfl
theorem gw_4_5 : Cond.instanceMethod yX8_end ∈ gT := gm_4 (i := 5) rfl rfl
theorem gw_4_6 : Cond.selects RX8 yX8_end yX8_end ∈ gT := gm_4 (i := 6) rfl rfl
theorem gw_4_7 : Cond.code yX8_end cX8_end 2 (some .int) ∈ gT := gm_4 (i := 7) rfl rfl
theorem gw_4_8 : Cond.methodLink RL 45 yX8_plan ∈ gT := gm_4 (i := 8) rfl rfl
theorem gw_4_9 : Cond.instanceMethod yX8_plan ∈ gT := gm_4 (i := 9) rfl rfl
theorem gw_4_10 : Cond.selects RX8 yX8_plan yX8_plan ∈ gT := gm_4 (i := 10) rfl rfl
theorem gw_4_11 : Cond.code yX8_plan cX8_plan 2 (some .int) ∈ gT := gm_4 (i := 11) rfl rfl
theorem gw_4_12 : Cond.methodLink RX8 166 yX8_next ∈ gT := gm_4 (i := 12) rfl rfl
theorem gw_4_14 : Cond.instanceMethod yX8_next ∈ gT := gm_4 (i := 14) rfl rfl
theorem gw_4_15 : Cond.code yX8_next cX8_next 1 none ∈ gT := gm_4 (i := 15) rfl rfl
theorem gw_4_16 : Cond.methodLink RX8 144 yX8_isSmall ∈ gT := gm_4 (i := 16) rfl rfl
theorem gw_4_17 : Cond.static yX8_isSmall ∈ gT := gm_4 (i := 17) rfl rfl
theorem gw_4_18 : Cond.code yX8_isSmall cX8_isSmall 1 (some .boolean) ∈ gT := gm_4 (i := 18) rfl rfl
theorem gw_4_19 : Cond.methodLink RX8 148 yX8_isDigit ∈ gT := gm_4 (i := 19) rfl rfl
theorem gw_4_20 : Cond.static yX8_isDigit ∈ gT := gm_4 (i := 20) rfl rfl
theorem gw_4_21 : Cond.code yX8_isDigit cX8_isDigit 1 (some .boolean) ∈ gT := gm_4 (i := 21) rfl rfl
theorem gw_4_22 : Cond.constantLong RX8 154 (32) ∈ gT := gm_4 (i := 22) rfl rfl
theorem gw_4_23 : Cond.constantLong RX8 156 (96) ∈ gT := gm_4 (i := 23) rfl rfl
theorem gw_4_24 : Cond.constantLong RX8 158 (-1) ∈ gT := gm_4 (i := 24) rfl rfl
theorem gw_4_25 : Cond.constantLong RX8 160 (48) ∈ gT := gm_4 (i := 25) rfl rfl
theorem gw_4_26 : Cond.methodLink RX8 190 yX8_readAct ∈ gT := gm_4 (i := 26) rfl rfl
theorem gw_4_28 : Cond.instanceMethod yX8_readAct ∈ gT := gm_4 (i := 28) rfl rfl
theorem gw_4_29 : Cond.code yX8_readAct cX8_readAct 6 none ∈ gT := gm_4 (i := 29) rfl rfl
theorem gw_4_30 : Cond.methodLink RX8 173 yX8_isWord ∈ gT := gm_4 (i := 30) rfl rfl
theorem gw_4_32 : Cond.instanceMethod yX8_isWord ∈ gT := gm_4 (i := 32) rfl rfl
theorem gw_4_33 : Cond.code yX8_isWord cX8_isWord 9 (some .boolean) ∈ gT := gm_4 (i := 33) rfl rfl
theorem gw_4_34 : Cond.methodLink RX8 169 yX8_must ∈ gT := gm_4 (i := 34) rfl rfl
theorem gw_4_36 : Cond.instanceMethod yX8_must ∈ gT := gm_4 (i := 36) rfl rfl
theorem gw_4_37 : Cond.code yX8_must cX8_must 2 none ∈ gT := gm_4 (i := 37) rfl rfl
theorem gw_4_38 : Cond.constantLong RX8 180 (30) ∈ gT := gm_4 (i := 38) rfl rfl
theorem gw_4_39 : Cond.methodLink RX8 182 yX8_number ∈ gT := gm_4 (i := 39) rfl rfl
theorem gw_4_41 : Cond.instanceMethod yX8_number ∈ gT := gm_4 (i := 41) rfl rfl
theorem gw_4_42 : Cond.code yX8_number cX8_number 6 (some .int) ∈ gT := gm_4 (i := 42) rfl rfl
theorem gw_4_43 : Cond.constantLong RX8 186 (11) ∈ gT := gm_4 (i := 43) rfl rfl
theorem gw_4_44 : Cond.constantLong RX8 188 (9) ∈ gT := gm_4 (i := 44) rfl rfl
theorem gw_4_45 : Cond.constantLong RX8 193 (59) ∈ gT := gm_4 (i := 45) rfl rfl
theorem gw_4_46 : Cond.methodLink RL 49 yX8_fault ∈ gT := gm_4 (i := 46) rfl rfl
theorem gw_4_47 : Cond.instanceMethod yX8_fault ∈ gT := gm_4 (i := 47) rfl rfl
theorem gw_4_48 : Cond.selects RX8 yX8_fault yX8_fault ∈ gT := gm_4 (i := 48) rfl rfl
theorem gw_4_49 : Cond.code yX8_fault cX8_fault 1 (some .int) ∈ gT := gm_4 (i := 49) rfl rfl
theorem gw_4_50 : Cond.methodLink RL 54 yX8_height ∈ gT := gm_4 (i := 50) rfl rfl
theorem gw_4_51 : Cond.instanceMethod yX8_height ∈ gT := gm_4 (i := 51) rfl rfl
theorem gw_4_52 : Cond.selects RX8 yX8_height yX8_height ∈ gT := gm_4 (i := 52) rfl rfl
theorem gw_4_53 : Cond.code yX8_height cX8_height 5 (some .int) ∈ gT := gm_4 (i := 53) rfl rfl
theorem gw_4_54 : Cond.methodLink RX8 224 yX8_isRule ∈ gT := gm_4 (i := 54) rfl rfl
theorem gw_4_55 : Cond.static yX8_isRule ∈ gT := gm_4 (i := 55) rfl rfl
theorem gw_4_56 : Cond.code yX8_isRule cX8_isRule 1 (some .boolean) ∈ gT := gm_4 (i := 56) rfl rfl
theorem gw_4_57 : Cond.constantLong RX8 222 (35) ∈ gT := gm_4 (i := 57) rfl rfl
theorem gw_4_58 : Cond.methodLink RX8 227 yX8_isYear ∈ gT := gm_4 (i := 58) rfl rfl
theorem gw_4_59 : Cond.static yX8_isYear ∈ gT := gm_4 (i := 59) rfl rfl
theorem gw_4_60 : Cond.code yX8_isYear cX8_isYear 1 (some .boolean) ∈ gT := gm_4 (i := 60) rfl rfl
theorem gw_4_61 : Cond.methodLink RX8 230 yX8_run ∈ gT := gm_4 (i := 61) rfl rfl
theorem gw_4_63 : Cond.instanceMethod yX8_run ∈ gT := gm_4 (i := 63) rfl rfl
theorem gw_4_64 : Cond.code yX8_run cX8_run 4 none ∈ gT := gm_4 (i := 64) rfl rfl
theorem gw_4_65 : Cond.methodLink RX8 215 yX8_begin ∈ gT := gm_4 (i := 65) rfl rfl
theorem gw_4_67 : Cond.instanceMethod yX8_begin ∈ gT := gm_4 (i := 67) rfl rfl
theorem gw_4_68 : Cond.code yX8_begin cX8_begin 2 none ∈ gT := gm_4 (i := 68) rfl rfl
theorem gw_4_69 : Cond.methodLink RX8 218 yX8_year ∈ gT := gm_4 (i := 69) rfl rfl
theorem gw_4_71 : Cond.instanceMethod yX8_year ∈ gT := gm_4 (i := 71) rfl rfl
theorem gw_4_72 : Cond.code yX8_year cX8_year 7 none ∈ gT := gm_4 (i := 72) rfl rfl
theorem gw_4_73 : Cond.methodLink RX8 206 yX8_act ∈ gT := gm_4 (i := 73) rfl rfl
theorem gw_4_75 : Cond.instanceMethod yX8_act ∈ gT := gm_4 (i := 75) rfl rfl
theorem gw_4_76 : Cond.code yX8_act cX8_act 4 none ∈ gT := gm_4 (i := 76) rfl rfl
theorem gw_4_77 : Cond.methodLink RX8 209 yX8_putInOrder ∈ gT := gm_4 (i := 77) rfl rfl
theorem gw_4_79 : Cond.instanceMethod yX8_putInOrder ∈ gT := gm_4 (i := 79) rfl rfl
theorem gw_4_80 : Cond.code yX8_putInOrder cX8_putInOrder 4 none ∈ gT := gm_4 (i := 80) rfl rfl
theorem gw_4_81 : Cond.methodLink RX8 212 yX8_share ∈ gT := gm_4 (i := 81) rfl rfl
theorem gw_4_83 : Cond.instanceMethod yX8_share ∈ gT := gm_4 (i := 83) rfl rfl
theorem gw_4_84 : Cond.code yX8_share cX8_share 10 (some .boolean) ∈ gT := gm_4 (i := 84) rfl rfl
theorem gw_4_85 : Cond.methodLink RX8 198 yX8_sideOf ∈ gT := gm_4 (i := 85) rfl rfl
theorem gw_4_87 : Cond.instanceMethod yX8_sideOf ∈ gT := gm_4 (i := 87) rfl rfl
theorem gw_4_88 : Cond.code yX8_sideOf cX8_sideOf 5 (some .int) ∈ gT := gm_4 (i := 88) rfl rfl
theorem gw_4_89 : Cond.methodLink RX8 202 yX8_restsAhead ∈ gT := gm_4 (i := 89) rfl rfl
theorem gw_4_91 : Cond.instanceMethod yX8_restsAhead ∈ gT := gm_4 (i := 91) rfl rfl
theorem gw_4_92 : Cond.code yX8_restsAhead cX8_restsAhead 8 (some .int) ∈ gT := gm_4 (i := 92) rfl rfl
theorem gw_4_93 : Cond.methodLink RL 58 yX8_flow ∈ gT := gm_4 (i := 93) rfl rfl
theorem gw_4_94 : Cond.instanceMethod yX8_flow ∈ gT := gm_4 (i := 94) rfl rfl
theorem gw_4_95 : Cond.selects RX8 yX8_flow yX8_flow ∈ gT := gm_4 (i := 95) rfl rfl
theorem gw_4_96 : Cond.code yX8_flow cX8_flow 5 (some .int) ∈ gT := gm_4 (i := 96) rfl rfl
theorem gw_4_97 : Cond.methodLink RL 62 yX8_lake ∈ gT := gm_4 (i := 97) rfl rfl
theorem gw_4_98 : Cond.instanceMethod yX8_lake ∈ gT := gm_4 (i := 98) rfl rfl
theorem gw_4_99 : Cond.selects RX8 yX8_lake yX8_lake ∈ gT := gm_4 (i := 99) rfl rfl
theorem gw_4_100 : Cond.code yX8_lake cX8_lake 5 (some .int) ∈ gT := gm_4 (i := 100) rfl rfl
theorem gw_4_101 : Cond.methodLink RL 66 yX8_map ∈ gT := gm_4 (i := 101) rfl rfl
theorem gw_4_102 : Cond.instanceMethod yX8_map ∈ gT := gm_4 (i := 102) rfl rfl
theorem gw_4_103 : Cond.selects RX8 yX8_map yX8_map ∈ gT := gm_4 (i := 103) rfl rfl
theorem gw_4_104 : Cond.code yX8_map cX8_map 6 (some .int) ∈ gT := gm_4 (i := 104) rfl rfl
theorem gw_4_105 : Cond.methodLink RL 70 yX8_stays ∈ gT := gm_4 (i := 105) rfl rfl
theorem gw_4_106 : Cond.instanceMethod yX8_stays ∈ gT := gm_4 (i := 106) rfl rfl
theorem gw_4_107 : Cond.selects RX8 yX8_stays yX8_stays ∈ gT := gm_4 (i := 107) rfl rfl
theorem gw_4_108 : Cond.code yX8_stays cX8_stays 5 (some .int) ∈ gT := gm_4 (i := 108) rfl rfl
theorem gw_4_109 : Cond.methodLink RX8 236 yX8_isKnown ∈ gT := gm_4 (i := 109) rfl rfl
theorem gw_4_110 : Cond.static yX8_isKnown ∈ gT := gm_4 (i := 110) rfl rfl
theorem gw_4_111 : Cond.code yX8_isKnown cX8_isKnown 1 (some .boolean) ∈ gT := gm_4 (i := 111) rfl rfl
theorem gw_4_112 : Cond.methodLink RX8 239 yX8_compareAll ∈ gT := gm_4 (i := 112) rfl rfl
theorem gw_4_114 : Cond.instanceMethod yX8_compareAll ∈ gT := gm_4 (i := 114) rfl rfl
theorem gw_4_115 : Cond.code yX8_compareAll cX8_compareAll 3 none ∈ gT := gm_4 (i := 115) rfl rfl
theorem gw_4_116 : Cond.methodLink RX8 233 yX8_compare ∈ gT := gm_4 (i := 116) rfl rfl
theorem gw_4_118 : Cond.instanceMethod yX8_compare ∈ gT := gm_4 (i := 118) rfl rfl
theorem gw_4_119 : Cond.code yX8_compare cX8_compare 6 none ∈ gT := gm_4 (i := 119) rfl rfl
theorem gw_4_120 : Cond.methodLink RL 74 yX8_foretold ∈ gT := gm_4 (i := 120) rfl rfl
theorem gw_4_121 : Cond.instanceMethod yX8_foretold ∈ gT := gm_4 (i := 121) rfl rfl
theorem gw_4_122 : Cond.selects RX8 yX8_foretold yX8_foretold ∈ gT := gm_4 (i := 122) rfl rfl
theorem gw_4_123 : Cond.code yX8_foretold cX8_foretold 10 (some .int) ∈ gT := gm_4 (i := 123) rfl rfl
theorem gw_4_124 : Cond.methodLink RL 78 yX8_wasted ∈ gT := gm_4 (i := 124) rfl rfl
theorem gw_4_125 : Cond.instanceMethod yX8_wasted ∈ gT := gm_4 (i := 125) rfl rfl
theorem gw_4_126 : Cond.selects RX8 yX8_wasted yX8_wasted ∈ gT := gm_4 (i := 126) rfl rfl
theorem gw_4_127 : Cond.code yX8_wasted cX8_wasted 4 (some .int) ∈ gT := gm_4 (i := 127) rfl rfl
theorem gw_4_128 : Cond.methodLink RL 82 yX8_against ∈ gT := gm_4 (i := 128) rfl rfl
theorem gw_4_129 : Cond.instanceMethod yX8_against ∈ gT := gm_4 (i := 129) rfl rfl
theorem gw_4_130 : Cond.selects RX8 yX8_against yX8_against ∈ gT := gm_4 (i := 130) rfl rfl
theorem gw_4_131 : Cond.code yX8_against cX8_against 3 (some .int) ∈ gT := gm_4 (i := 131) rfl rfl
theorem gw_4_132 : Cond.methodLink RL 86 yX8_count ∈ gT := gm_4 (i := 132) rfl rfl
theorem gw_4_133 : Cond.instanceMethod yX8_count ∈ gT := gm_4 (i := 133) rfl rfl
theorem gw_4_134 : Cond.selects RX8 yX8_count yX8_count ∈ gT := gm_4 (i := 134) rfl rfl
theorem gw_4_135 : Cond.code yX8_count cX8_count 2 (some .int) ∈ gT := gm_4 (i := 135) rfl rfl
theorem gw_4_136 : Cond.methodLink RL 90 yX8_status ∈ gT := gm_4 (i := 136) rfl rfl
theorem gw_4_137 : Cond.instanceMethod yX8_status ∈ gT := gm_4 (i := 137) rfl rfl
theorem gw_4_138 : Cond.selects RX8 yX8_status yX8_status ∈ gT := gm_4 (i := 138) rfl rfl
theorem gw_4_139 : Cond.code yX8_status cX8_status 1 (some .int) ∈ gT := gm_4 (i := 139) rfl rfl
theorem gw_4_140 : Cond.fieldLink RJ0 9 "java/lang/String" "value" "[B" ∈ gT := gm_4 (i := 140) rfl rfl
theorem gw_4_141 : Cond.fieldLink RJ0 15 "java/lang/String" "coder" "B" ∈ gT := gm_4 (i := 141) rfl rfl
theorem gw_0_0 : Cond.selects RX7 yX7_refuse yX7_refuse ∈ gT := gm_0 (i := 0) rfl
theorem gw_0_1 : Cond.selects RX7 yX7_forgetRuns yX7_forgetRuns ∈ gT := gm_0 (i := 1) rfl
theorem gw_0_2 : Cond.selects RX7 yX7_accept yX7_accept ∈ gT := gm_0 (i := 2) rfl
theorem gw_0_3 : Cond.selects RX3 yX3_step yX3_step ∈ gT := gm_0 (i := 3) rfl
theorem gw_0_4 : Cond.selects RX3 yX3_atEnd yX3_atEnd ∈ gT := gm_0 (i := 4) rfl
theorem gw_0_5 : Cond.selects RX3 yX3_readAct yX3_readAct ∈ gT := gm_0 (i := 5) rfl
theorem gw_0_6 : Cond.selects RX3 yX3_takes yX3_takes ∈ gT := gm_0 (i := 6) rfl
theorem gw_0_7 : Cond.selects RX3 yX3_takesNumber yX3_takesNumber ∈ gT := gm_0 (i := 7) rfl
theorem gw_0_8 : Cond.selects RX3 yX3_takeKind yX3_takeKind ∈ gT := gm_0 (i := 8) rfl
theorem gw_0_9 : Cond.selects RX7 yX7_runTo yX7_runTo ∈ gT := gm_0 (i := 9) rfl
theorem gw_0_10 : Cond.selects RX7 yX7_startedYears yX7_startedYears ∈ gT := gm_0 (i := 10) rfl
theorem gw_0_11 : Cond.selects RX7 yX7_takeUp yX7_takeUp ∈ gT := gm_0 (i := 11) rfl
theorem gw_0_12 : Cond.selects RX5 yX5_dryUp yX5_dryUp ∈ gT := gm_0 (i := 12) rfl
theorem gw_0_13 : Cond.selects RX5 yX5_pour yX5_pour ∈ gT := gm_0 (i := 13) rfl
theorem gw_0_14 : Cond.selects RX5 yX5_goesAhead yX5_goesAhead ∈ gT := gm_0 (i := 14) rfl
theorem gw_0_15 : Cond.selects RX5 yX5_giveOn yX5_giveOn ∈ gT := gm_0 (i := 15) rfl
theorem gw_0_16 : Cond.selects RX5 yX5_findWays yX5_findWays ∈ gT := gm_0 (i := 16) rfl
theorem gw_0_17 : Cond.selects RX5 yX5_shareToLowest yX5_shareToLowest ∈ gT := gm_0 (i := 17) rfl
theorem gw_0_18 : Cond.selects RX5 yX5_firstGreatest yX5_firstGreatest ∈ gT := gm_0 (i := 18) rfl
theorem gw_0_19 : Cond.selects RX5 yX5_shareEvenly yX5_shareEvenly ∈ gT := gm_0 (i := 19) rfl
theorem gw_0_20 : Cond.selects RX5 yX5_shareByDrops yX5_shareByDrops ∈ gT := gm_0 (i := 20) rfl
theorem gw_0_21 : Cond.selects RX7 yX7_againstFrom yX7_againstFrom ∈ gT := gm_0 (i := 21) rfl
theorem gw_0_22 : Cond.selects RX8 yX8_flat yX8_flat ∈ gT := gm_0 (i := 22) rfl
theorem gw_0_23 : Cond.selects RX8 yX8_told yX8_told ∈ gT := gm_0 (i := 23) rfl
theorem gw_0_24 : Cond.selects RX8 yX8_isCell yX8_isCell ∈ gT := gm_0 (i := 24) rfl
theorem gw_0_25 : Cond.selects RX8 yX8_four yX8_four ∈ gT := gm_0 (i := 25) rfl
theorem gw_0_26 : Cond.selects RX8 yX8_next yX8_next ∈ gT := gm_0 (i := 26) rfl
theorem gw_0_27 : Cond.selects RX8 yX8_readAct yX8_readAct ∈ gT := gm_0 (i := 27) rfl
theorem gw_0_28 : Cond.selects RX8 yX8_isWord yX8_isWord ∈ gT := gm_0 (i := 28) rfl
theorem gw_0_29 : Cond.selects RX8 yX8_must yX8_must ∈ gT := gm_0 (i := 29) rfl
theorem gw_0_30 : Cond.selects RX8 yX8_number yX8_number ∈ gT := gm_0 (i := 30) rfl
theorem gw_0_31 : Cond.selects RX8 yX8_run yX8_run ∈ gT := gm_0 (i := 31) rfl
theorem gw_0_32 : Cond.selects RX8 yX8_begin yX8_begin ∈ gT := gm_0 (i := 32) rfl
theorem gw_0_33 : Cond.selects RX8 yX8_year yX8_year ∈ gT := gm_0 (i := 33) rfl
theorem gw_0_34 : Cond.selects RX8 yX8_act yX8_act ∈ gT := gm_0 (i := 34) rfl
theorem gw_0_35 : Cond.selects RX8 yX8_putInOrder yX8_putInOrder ∈ gT := gm_0 (i := 35) rfl
theorem gw_0_36 : Cond.selects RX8 yX8_share yX8_share ∈ gT := gm_0 (i := 36) rfl
theorem gw_0_37 : Cond.selects RX8 yX8_sideOf yX8_sideOf ∈ gT := gm_0 (i := 37) rfl
theorem gw_0_38 : Cond.selects RX8 yX8_restsAhead yX8_restsAhead ∈ gT := gm_0 (i := 38) rfl
theorem gw_0_39 : Cond.selects RX8 yX8_compareAll yX8_compareAll ∈ gT := gm_0 (i := 39) rfl
theorem gw_0_40 : Cond.selects RX8 yX8_compare yX8_compare ∈ gT := gm_0 (i := 40) rfl
theorem inX0 : ∀ w ∈ u_ws RX0 TX0 5, w ∈ gT := List.forall_mem_cons.mpr ⟨gw_1_94, List.forall_mem_cons.mpr ⟨gw_1_96, List.forall_mem_cons.mpr ⟨gw_1_98, List.forall_mem_cons.mpr ⟨gw_1_100, List.forall_mem_cons.mpr ⟨gw_1_102, fun _ h => absurd h List.not_mem_nil⟩⟩⟩⟩⟩
theorem inX1 : ∀ w ∈ u_ws RX1 TX1 6, w ∈ gT := List.forall_mem_cons.mpr ⟨gw_1_47, List.forall_mem_cons.mpr ⟨gw_1_49, List.forall_mem_cons.mpr ⟨gw_1_51, List.forall_mem_cons.mpr ⟨gw_1_53, List.forall_mem_cons.mpr ⟨gw_1_55, List.forall_mem_cons.mpr ⟨gw_1_57, fun _ h => absurd h List.not_mem_nil⟩⟩⟩⟩⟩⟩
theorem inX2 : ∀ w ∈ u_ws RX2 TX2 6, w ∈ gT := List.forall_mem_cons.mpr ⟨gw_1_172, List.forall_mem_cons.mpr ⟨gw_1_174, List.forall_mem_cons.mpr ⟨gw_1_176, List.forall_mem_cons.mpr ⟨gw_1_178, List.forall_mem_cons.mpr ⟨gw_1_180, List.forall_mem_cons.mpr ⟨gw_1_182, fun _ h => absurd h List.not_mem_nil⟩⟩⟩⟩⟩⟩
theorem inX3 : ∀ w ∈ u_ws RX3 TX3 5, w ∈ gT := List.forall_mem_cons.mpr ⟨gw_2_44, List.forall_mem_cons.mpr ⟨gw_2_46, List.forall_mem_cons.mpr ⟨gw_2_48, List.forall_mem_cons.mpr ⟨gw_2_50, List.forall_mem_cons.mpr ⟨gw_2_52, fun _ h => absurd h List.not_mem_nil⟩⟩⟩⟩⟩
theorem inX4 : ∀ w ∈ u_ws RX4 TX4 2, w ∈ gT := List.forall_mem_cons.mpr ⟨gw_1_72, List.forall_mem_cons.mpr ⟨gw_1_74, fun _ h => absurd h List.not_mem_nil⟩⟩
theorem inX5 : ∀ w ∈ u_ws RX5 TX5 11, w ∈ gT := List.forall_mem_cons.mpr ⟨gw_1_127, List.forall_mem_cons.mpr ⟨gw_1_129, List.forall_mem_cons.mpr ⟨gw_1_131, List.forall_mem_cons.mpr ⟨gw_1_133, List.forall_mem_cons.mpr ⟨gw_1_135, List.forall_mem_cons.mpr ⟨gw_1_137, List.forall_mem_cons.mpr ⟨gw_1_139, List.forall_mem_cons.mpr ⟨gw_1_141, List.forall_mem_cons.mpr ⟨gw_1_143, List.forall_mem_cons.mpr ⟨gw_1_145, List.forall_mem_cons.mpr ⟨gw_1_147, fun _ h => absurd h List.not_mem_nil⟩⟩⟩⟩⟩⟩⟩⟩⟩⟩⟩
theorem inX6 : ∀ w ∈ u_ws RX6 TX6 2, w ∈ gT := List.forall_mem_cons.mpr ⟨gw_2_173, List.forall_mem_cons.mpr ⟨gw_2_175, fun _ h => absurd h List.not_mem_nil⟩⟩
theorem inX7 : ∀ w ∈ u_ws RX7 TX7 9, w ∈ gT := List.forall_mem_cons.mpr ⟨gw_1_194, List.forall_mem_cons.mpr ⟨gw_1_196, List.forall_mem_cons.mpr ⟨gw_1_198, List.forall_mem_cons.mpr ⟨gw_1_200, List.forall_mem_cons.mpr ⟨gw_1_202, List.forall_mem_cons.mpr ⟨gw_1_204, List.forall_mem_cons.mpr ⟨gw_1_206, List.forall_mem_cons.mpr ⟨gw_1_208, List.forall_mem_cons.mpr ⟨gw_1_210, fun _ h => absurd h List.not_mem_nil⟩⟩⟩⟩⟩⟩⟩⟩⟩
theorem inX8 : ∀ w ∈ u_ws RX8 TX8 38, w ∈ gT := List.forall_mem_cons.mpr ⟨gw_3_127, List.forall_mem_cons.mpr ⟨gw_3_129, List.forall_mem_cons.mpr ⟨gw_3_131, List.forall_mem_cons.mpr ⟨gw_3_133, List.forall_mem_cons.mpr ⟨gw_3_135, List.forall_mem_cons.mpr ⟨gw_3_137, List.forall_mem_cons.mpr ⟨gw_3_139, List.forall_mem_cons.mpr ⟨gw_3_141, List.forall_mem_cons.mpr ⟨gw_3_143, List.forall_mem_cons.mpr ⟨gw_3_145, List.forall_mem_cons.mpr ⟨gw_3_147, List.forall_mem_cons.mpr ⟨gw_3_149, List.forall_mem_cons.mpr ⟨gw_3_151, List.forall_mem_cons.mpr ⟨gw_3_153, List.forall_mem_cons.mpr ⟨gw_3_155, List.forall_mem_cons.mpr ⟨gw_3_157, List.forall_mem_cons.mpr ⟨gw_3_159, List.forall_mem_cons.mpr ⟨gw_3_161, List.forall_mem_cons.mpr ⟨gw_3_163, List.forall_mem_cons.mpr ⟨gw_3_165, List.forall_mem_cons.mpr ⟨gw_3_167, List.forall_mem_cons.mpr ⟨gw_3_169, List.forall_mem_cons.mpr ⟨gw_3_171, List.forall_mem_cons.mpr ⟨gw_3_173, List.forall_mem_cons.mpr ⟨gw_3_175, List.forall_mem_cons.mpr ⟨gw_3_177, List.forall_mem_cons.mpr ⟨gw_3_179, List.forall_mem_cons.mpr ⟨gw_3_181, List.forall_mem_cons.mpr ⟨gw_3_183, List.forall_mem_cons.mpr ⟨gw_3_185, List.forall_mem_cons.mpr ⟨gw_3_187, List.forall_mem_cons.mpr ⟨gw_3_189, List.forall_mem_cons.mpr ⟨gw_3_191, List.forall_mem_cons.mpr ⟨gw_3_193, List.forall_mem_cons.mpr ⟨gw_3_195, List.forall_mem_cons.mpr ⟨gw_3_197, List.forall_mem_cons.mpr ⟨gw_3_199, List.forall_mem_cons.mpr ⟨gw_3_201, fun _ h => absurd h List.not_mem_nil⟩⟩⟩⟩⟩⟩⟩⟩⟩⟩⟩⟩⟩⟩⟩⟩⟩⟩⟩⟩⟩⟩⟩⟩⟩⟩⟩⟩⟩⟩⟩⟩⟩⟩⟩⟩⟩⟩
end
section
/-! the layout of the abstract memory: every cell has a number that says what it is -/
/-- (tag, a, b): 0 int[a], 1 boolean[a], 2 byte[a], 3 long[a], 4 Years[a], 5 an object of the a-th class of vwCl with b fields -/
def zsh (k : Nat) : Nat × Nat × Nat := match k with
  | 0 => (5, 7, 9)
  | 1 => (5, 1, 6)
  | 2 => (0, 120, 0)
  | 3 => (5, 4, 2)
  | 4 => (2, 300, 0)
  | 5 => (5, 0, 5)
  | 6 => (0, 200, 0)
  | 7 => (0, 200, 0)
  | 8 => (0, 200, 0)
  | 9 => (0, 200, 0)
  | 10 => (5, 5, 11)
  | 11 => (0, 120, 0)
  | 12 => (1, 120, 0)
  | 13 => (0, 120, 0)
  | 14 => (1, 120, 0)
  | 15 => (0, 120, 0)
  | 16 => (0, 4, 0)
  | 17 => (0, 4, 0)
  | 18 => (0, 4, 0)
  | 19 => (0, 4, 0)
  | 20 => (4, 36, 0)
  | 21 => (5, 2, 6)
  | 22 => (0, 20, 0)
  | 23 => (0, 20, 0)
  | 24 => (0, 20, 0)
  | 25 => (0, 20, 0)
  | 26 => (0, 20, 0)
  | 27 => (5, 2, 6)
  | 28 => (0, 20, 0)
  | 29 => (0, 20, 0)
  | 30 => (0, 20, 0)
  | 31 => (0, 20, 0)
  | 32 => (0, 20, 0)
  | 200 => (5, 8, 38)
  | 201 => (0, 120, 0)
  | 202 => (0, 20, 0)
  | 203 => (0, 20, 0)
  | 204 => (0, 20, 0)
  | 205 => (0, 20, 0)
  | 206 => (0, 20, 0)
  | 207 => (0, 100, 0)
  | 208 => (0, 300, 0)
  | 209 => (0, 120, 0)
  | 210 => (1, 120, 0)
  | 211 => (0, 120, 0)
  | 212 => (1, 120, 0)
  | 213 => (0, 120, 0)
  | 214 => (0, 4, 0)
  | 215 => (0, 4, 0)
  | 216 => (0, 200, 0)
  | 217 => (0, 200, 0)
  | 218 => (0, 200, 0)
  | 219 => (0, 200, 0)
  | 220 => (0, 36, 0)
  | 221 => (0, 36, 0)
  | k => if 100 ≤ k ∧ k < 172 then (if k % 2 = 0 then (5, 6, 2) else (3, 465, 0)) else if 500 ≤ k ∧ k < 2000 then (5, 3, 5) else (9, 0, 0)
theorem zsh_0 : zsh 0 = (5, 7, 9) := rfl
theorem zsh_1 : zsh 1 = (5, 1, 6) := rfl
theorem zsh_2 : zsh 2 = (0, 120, 0) := rfl
theorem zsh_3 : zsh 3 = (5, 4, 2) := rfl
theorem zsh_4 : zsh 4 = (2, 300, 0) := rfl
theorem zsh_5 : zsh 5 = (5, 0, 5) := rfl
theorem zsh_6 : zsh 6 = (0, 200, 0) := rfl
theorem zsh_7 : zsh 7 = (0, 200, 0) := rfl
theorem zsh_8 : zsh 8 = (0, 200, 0) := rfl
theorem zsh_9 : zsh 9 = (0, 200, 0) := rfl
theorem zsh_10 : zsh 10 = (5, 5, 11) := rfl
theorem zsh_11 : zsh 11 = (0, 120, 0) := rfl
theorem zsh_12 : zsh 12 = (1, 120, 0) := rfl
theorem zsh_13 : zsh 13 = (0, 120, 0) := rfl
theorem zsh_14 : zsh 14 = (1, 120, 0) := rfl
theorem zsh_15 : zsh 15 = (0, 120, 0) := rfl
theorem zsh_16 : zsh 16 = (0, 4, 0) := rfl
theorem zsh_17 : zsh 17 = (0, 4, 0) := rfl
theorem zsh_18 : zsh 18 = (0, 4, 0) := rfl
theorem zsh_19 : zsh 19 = (0, 4, 0) := rfl
theorem zsh_20 : zsh 20 = (4, 36, 0) := rfl
theorem zsh_21 : zsh 21 = (5, 2, 6) := rfl
theorem zsh_22 : zsh 22 = (0, 20, 0) := rfl
theorem zsh_23 : zsh 23 = (0, 20, 0) := rfl
theorem zsh_24 : zsh 24 = (0, 20, 0) := rfl
theorem zsh_25 : zsh 25 = (0, 20, 0) := rfl
theorem zsh_26 : zsh 26 = (0, 20, 0) := rfl
theorem zsh_27 : zsh 27 = (5, 2, 6) := rfl
theorem zsh_28 : zsh 28 = (0, 20, 0) := rfl
theorem zsh_29 : zsh 29 = (0, 20, 0) := rfl
theorem zsh_30 : zsh 30 = (0, 20, 0) := rfl
theorem zsh_31 : zsh 31 = (0, 20, 0) := rfl
theorem zsh_32 : zsh 32 = (0, 20, 0) := rfl
theorem zsh_200 : zsh 200 = (5, 8, 38) := rfl
theorem zsh_201 : zsh 201 = (0, 120, 0) := rfl
theorem zsh_202 : zsh 202 = (0, 20, 0) := rfl
theorem zsh_203 : zsh 203 = (0, 20, 0) := rfl
theorem zsh_204 : zsh 204 = (0, 20, 0) := rfl
theorem zsh_205 : zsh 205 = (0, 20, 0) := rfl
theorem zsh_206 : zsh 206 = (0, 20, 0) := rfl
theorem zsh_207 : zsh 207 = (0, 100, 0) := rfl
theorem zsh_208 : zsh 208 = (0, 300, 0) := rfl
theorem zsh_209 : zsh 209 = (0, 120, 0) := rfl
theorem zsh_210 : zsh 210 = (1, 120, 0) := rfl
theorem zsh_211 : zsh 211 = (0, 120, 0) := rfl
theorem zsh_212 : zsh 212 = (1, 120, 0) := rfl
theorem zsh_213 : zsh 213 = (0, 120, 0) := rfl
theorem zsh_214 : zsh 214 = (0, 4, 0) := rfl
theorem zsh_215 : zsh 215 = (0, 4, 0) := rfl
theorem zsh_216 : zsh 216 = (0, 200, 0) := rfl
theorem zsh_217 : zsh 217 = (0, 200, 0) := rfl
theorem zsh_218 : zsh 218 = (0, 200, 0) := rfl
theorem zsh_219 : zsh 219 = (0, 200, 0) := rfl
theorem zsh_220 : zsh 220 = (0, 36, 0) := rfl
theorem zsh_221 : zsh 221 = (0, 36, 0) := rfl
set_option maxRecDepth 4000 in
theorem zsh_ext {k : Nat} (h : 2000 ≤ k) : zsh k = (9, 0, 0) := by
  unfold zsh
  split <;> first | omega | (rw [if_neg (by omega), if_neg (by omega)])
theorem zsh_lt {k a b c : Nat} (h : zsh k = (a, b, c)) (ha : a < 9) : k < 2000 := by
  rcases Nat.lt_or_ge k 2000 with q | q
  · exact q
  · rw [zsh_ext q] at h
    cases h
    omega
theorem zsh_lt1 {k : Nat} (h : (zsh k).1 < 9) : k < 2000 := zsh_lt (a := (zsh k).1) (b := (zsh k).2.1) (c := (zsh k).2.2) rfl h
/-- a field's sort: 0 int or boolean, 1 long, 2 a reference -/
def zft (c j : Nat) : Nat := match c, j with
  | 0, 0 => 2
  | 0, 1 => 2
  | 0, 2 => 2
  | 0, 3 => 2
  | 1, 0 => 2
  | 2, 0 => 2
  | 2, 1 => 2
  | 2, 2 => 2
  | 2, 3 => 2
  | 2, 4 => 2
  | 3, 0 => 2
  | 3, 1 => 2
  | 4, 0 => 2
  | 5, 0 => 2
  | 5, 1 => 2
  | 5, 2 => 2
  | 5, 3 => 2
  | 5, 4 => 2
  | 5, 6 => 2
  | 5, 7 => 2
  | 5, 8 => 2
  | 5, 9 => 2
  | 6, 0 => 2
  | 7, 0 => 2
  | 7, 1 => 2
  | 7, 2 => 2
  | 7, 3 => 2
  | 7, 4 => 2
  | 7, 5 => 2
  | 7, 6 => 2
  | 8, 7 => 2
  | 8, 9 => 2
  | 8, 10 => 2
  | 8, 11 => 2
  | 8, 12 => 2
  | 8, 13 => 2
  | 8, 15 => 2
  | 8, 16 => 2
  | 8, 21 => 1
  | 8, 24 => 2
  | 8, 25 => 2
  | 8, 26 => 2
  | 8, 27 => 2
  | 8, 28 => 2
  | 8, 29 => 2
  | 8, 30 => 2
  | 8, 32 => 2
  | 8, 33 => 2
  | 8, 34 => 2
  | 8, 35 => 2
  | 8, 36 => 2
  | 8, 37 => 2
  | _, _ => 0
end
section
/-! THE ABSTRACT MACHINE: memory by numbered cells, locals, operand stack; 'zGd' ties it to the kit's W -/
abbrev zMm : Type := List Nat × (Nat → Nat → Int32) × (Nat → Nat → Int64) × (Nat → Nat → Option Nat)
abbrev zKt : Type := Option Value → zMm → Prop
abbrev zLo : Type := List (Option Value)
abbrev zPP : Type := zMm → zLo → List Value → Prop
def zcv (ad : Nat → Nat) (v : Value) : Value := match v with
  | .ref a => .ref (ad a)
  | .int x => .int x
  | .long x => .long x
  | .float x => .float x
  | .double x => .double x
  | .null => .null
  | .retAddr x => .retAddr x
theorem zcv_cat (ad : Nat → Nat) (v : Value) : (zcv ad v).category = v.category := by cases v <;> rfl
theorem zcv_rf (ad : Nat → Nat) (r : Option Nat) : zcv ad (va_rf r) = va_rf (r.map ad) := by cases r <;> rfl
def zw2 {α : Type} (f : Nat → Nat → α) (k i : Nat) (v : α) : Nat → Nat → α := fun k' => if k' = k then va_up (f k) i v else f k'
theorem zw2_s {α : Type} {f : Nat → Nat → α} {k i : Nat} {v : α} : zw2 f k i v k = va_up (f k) i v := by simp [zw2]
theorem zw2_n {α : Type} {f : Nat → Nat → α} {k k' i : Nat} {v : α} (h : k' ≠ k) : zw2 f k i v k' = f k' := by simp [zw2, h]
def zlg : zLo → Nat → Option Value
  | [], _ => none
  | a :: _, 0 => a
  | _ :: l, n + 1 => zlg l n
def zlset : zLo → Nat → Option Value → zLo
  | [], _, _ => []
  | _ :: l, 0, v => v :: l
  | a :: l, n + 1, v => a :: zlset l n v
def zlpr : zLo → Nat → Option Value
  | _, 0 => none
  | l, n + 1 => zlg l n
def zlcv (ad : Nat → Nat) : Nat → zLo → List (Nat × Value)
  | _, [] => []
  | n, none :: l => zlcv ad (n + 1) l
  | n, some v :: l => (n, zcv ad v) :: zlcv ad (n + 1) l
theorem zlcv_mem {ad : Nat → Nat} : ∀ {l : zLo} {n : Nat} {q : Nat × Value}, q ∈ zlcv ad n l ↔ ∃ (i : Nat) (v : Value), zlg l i = some v ∧ q = (n + i, zcv ad v)
  | [], n, q => by simp [zlcv, zlg]
  | none :: l, n, q => by
    rw [zlcv, zlcv_mem (l := l)]
    constructor
    · rintro ⟨i, v, h, rfl⟩
      exact ⟨i + 1, v, h, by rw [Nat.add_assoc, Nat.add_comm 1 i]⟩
    · rintro ⟨i, v, h, rfl⟩
      cases i with
      | zero => simp [zlg] at h
      | succ i => exact ⟨i, v, h, by rw [Nat.add_assoc, Nat.add_comm 1 i]⟩
  | some w :: l, n, q => by
    rw [zlcv, List.mem_cons, zlcv_mem (l := l)]
    constructor
    · rintro (rfl | ⟨i, v, h, rfl⟩)
      · exact ⟨0, w, rfl, rfl⟩
      · exact ⟨i + 1, v, h, by rw [Nat.add_assoc, Nat.add_comm 1 i]⟩
    · rintro ⟨i, v, h, rfl⟩
      cases i with
      | zero => left; simp [zlg] at h; rw [h]; rfl
      | succ i => exact Or.inr ⟨i, v, h, by rw [Nat.add_assoc, Nat.add_comm 1 i]⟩
theorem zlg_set : ∀ {l : zLo} {i j : Nat} {v : Option Value} {w : Value}, zlg (zlset l i v) j = some w → (j = i ∧ v = some w) ∨ (j ≠ i ∧ zlg l j = some w)
  | [], i, j, v, w, h => by simp [zlset, zlg] at h
  | a :: l, 0, 0, v, w, h => Or.inl ⟨rfl, h⟩
  | a :: l, 0, j + 1, v, w, h => Or.inr ⟨by omega, h⟩
  | a :: l, i + 1, 0, v, w, h => Or.inr ⟨by omega, h⟩
  | a :: l, i + 1, j + 1, v, w, h => by
    rcases zlg_set (l := l) h with ⟨h1, h2⟩ | ⟨h1, h2⟩
    · exact Or.inl ⟨by omega, h2⟩
    · exact Or.inr ⟨by omega, h2⟩
theorem zlv_get {ad : Nat → Nat} {ls : zLo} {lsA : Array Slot} {nL i : Nat} {v : Value} (hl : lv_has lsA nL (zlcv ad 0 ls)) (h : zlg ls i = some v) : lsA[i]? = some (.val (zcv ad v)) :=
  hl.2.2 (i, zcv ad v) (zlcv_mem.mpr ⟨i, v, h, by rw [Nat.zero_add]⟩)
theorem zlv_less {lsA : Array Slot} {nL : Nat} {a b : List (Nat × Value)} (hl : lv_has lsA nL a) (h : ∀ q ∈ b, q ∈ a) : lv_has lsA nL b := ⟨hl.1, hl.2.1, fun q hq => hl.2.2 q (h q hq)⟩
/-- the list of locals behind a store of one word -/
theorem zlv_st1 {ad : Nat → Nat} {ls : zLo} {lsA : Array Slot} {nL i : Nat} {v : Value} (hp : ∀ x, zlpr ls i ≠ some (.long x)) (hp2 : ∀ x, zlpr ls i ≠ some (.double x))
    (hl : lv_has lsA nL ((i, zcv ad v) :: (zlcv ad 0 ls).filter (fun q => !(q.1 == i) && !(q.1 + 1 == i && q.2.category == 2)))) : lv_has lsA nL (zlcv ad 0 (zlset ls i (some v))) := by
  refine zlv_less hl fun q hq => ?_
  obtain ⟨j, w, h, rfl⟩ := zlcv_mem.mp hq
  rcases zlg_set h with ⟨rfl, h2⟩ | ⟨h1, h2⟩
  · cases h2
    rw [Nat.zero_add]
    exact List.mem_cons_self
  · refine List.mem_cons_of_mem _ (List.mem_filter.mpr ⟨zlcv_mem.mpr ⟨j, w, h2, rfl⟩, ?_⟩)
    rw [zcv_cat]
    simp only [Nat.zero_add, Bool.and_eq_true, Bool.not_eq_true', beq_eq_false_iff_ne, ne_eq, Bool.and_eq_false_iff]
    refine ⟨h1, ?_⟩
    by_cases hji : j + 1 = i
    · right
      subst hji
      have hw : zlpr ls (j + 1) = some w := h2
      cases w with
      | long x => exact absurd hw (hp x)
      | double x => exact absurd hw (hp2 x)
      | _ => simp [Value.category]
    · exact Or.inl hji
theorem zlv_st2 {ad : Nat → Nat} {ls : zLo} {lsA : Array Slot} {nL i : Nat} {v : Value} (hp : ∀ x, zlpr ls i ≠ some (.long x)) (hp2 : ∀ x, zlpr ls i ≠ some (.double x))
    (hl : lv_has lsA nL ((i, zcv ad v) :: (zlcv ad 0 ls).filter (fun q => !(q.1 == i) && (!(q.1 == i + 1) && !(q.1 + 1 == i && q.2.category == 2))))) : lv_has lsA nL (zlcv ad 0 (zlset (zlset ls i (some v)) (i + 1) none)) := by
  refine zlv_less hl fun q hq => ?_
  obtain ⟨j, w, h, rfl⟩ := zlcv_mem.mp hq
  rcases zlg_set h with ⟨rfl, h2⟩ | ⟨h0, h⟩
  · cases h2
  rcases zlg_set h with ⟨rfl, h2⟩ | ⟨h1, h2⟩
  · cases h2
    rw [Nat.zero_add]
    exact List.mem_cons_self
  · refine List.mem_cons_of_mem _ (List.mem_filter.mpr ⟨zlcv_mem.mpr ⟨j, w, h2, rfl⟩, ?_⟩)
    rw [zcv_cat]
    simp only [Nat.zero_add, Bool.and_eq_true, Bool.not_eq_true', beq_eq_false_iff_ne, ne_eq, Bool.and_eq_false_iff]
    refine ⟨h1, h0, ?_⟩
    by_cases hji : j + 1 = i
    · right
      subst hji
      have hw : zlpr ls (j + 1) = some w := h2
      cases w with
      | long x => exact absurd hw (hp x)
      | double x => exact absurd hw (hp2 x)
      | _ => simp [Value.category]
    · exact Or.inl hji
/-! ### the memory as cells of the heap -/
def zfv (ad : Nat → Nat) (M : zMm) (k j t : Nat) : Value := match t with
  | 0 => .int (M.2.1 k j)
  | 1 => .long (M.2.2.1 k j)
  | _ => va_rf ((M.2.2.2 k j).map ad)
def zfl (ad : Nat → Nat) (M : zMm) (k c n : Nat) : List Value := (List.range n).map fun j => zfv ad M k j (zft c j)
def zen (Y : Nat → ClassId) (ad : Nat → Nat) (M : zMm) (k : Nat) : va_E := match zsh k with
  | (0, n, _) => .inl (Y 0, n, .inl (M.2.1 k))
  | (1, n, _) => .inl (Y 1, n, .inl (M.2.1 k))
  | (2, n, _) => .inl (Y 2, n, .inl (M.2.1 k))
  | (3, n, _) => .inl (Y 3, n, .inr (.inl (M.2.2.1 k)))
  | (4, n, _) => .inl (Y 4, n, .inr (.inr (.inr (.inr fun i => (M.2.2.2 k i).map ad))))
  | (_, c, n) => .inr (c, zfl ad M k c n)
def zwl (Y : Nat → ClassId) (ad : Nat → Nat) (M : zMm) : va_W := M.1.map fun k => (ad k, zen Y ad M k)
def zsz (k : Nat) : Nat := match zsh k with
  | (5, _, n) => n
  | (_, n, _) => n
def zss (L : List Nat) : Nat := (L.map zsz).sum
def zhs (H : Heap) : Nat := (H.toList.map (·.slots.size)).sum
def zTY (Y : Nat → ClassId) : List (ClassId × FieldType) := [(Y 0, .int), (Y 1, .boolean), (Y 2, .byte), (Y 3, .long), (Y 4, .object RX6)]
def zAA (ad0 : Nat → Nat) (L0 : List Nat) (sz : Nat) : Nat → Prop := fun q => (∃ k ∈ L0, q = ad0 k) ∨ sz ≤ q
def zov (L : List Nat) (v : Value) : Prop := match v with
  | .ref k => k ∈ L ∨ 2000 ≤ k
  | _ => True
def zom (M : zMm) : Prop := M.1.Nodup ∧ (∀ k ∈ M.1, k < 2000) ∧ ∀ k ∈ M.1, ∀ j t, M.2.2.2 k j = some t → t ∈ M.1
def zoL (L : List Nat) (ls : zLo) (st : List Value) : Prop := (∀ v ∈ st, zov L v) ∧ ∀ i v, zlg ls i = some v → zov L v
def zdc (L0 L : List Nat) : Nat := L.length - L0.length
def zds (L0 L : List Nat) : Nat := zss L - zss L0
def zWH (D : va_G) (Y : Nat → ClassId) (ad0 : Nat → Nat) (L0 : List Nat) (s : State) (R : Room) (ad : Nat → Nat) (M : zMm) (H : Heap) (locs : List Loc) : Prop :=
  va_P D vwCl (zwl Y ad M) H ∧ va_D (zAA ad0 L0 s.heap.size) (zwl Y ad M) ∧ va_S (zAA ad0 L0 s.heap.size) s.heap H locs ∧ zom M ∧
  (∀ k ∈ L0, k ∈ M.1 ∧ ad k = ad0 k) ∧ (∀ k, 2000 ≤ k → ad k = ad0 k) ∧ L0.length ≤ M.1.length ∧ zss L0 ≤ zss M.1 ∧ M.1.length ≤ L0.length + R.cells ∧ zss M.1 ≤ zss L0 + R.slots
/-- what the body of a method knows at its end -/
def zQt (D : va_G) (Y : Nat → ClassId) (K : zKt) (ad0 : Nat → Nat) (M0 : zMm) (sz mc ms : Nat) : Array Value → State → Outcome → State → Prop := fun _ st oc t =>
  (∃ (r : Option Value) (M : zMm) (ad : Nat → Nat), oc = .returned (r.map (zcv ad)) ∧ K r M ∧ (∀ v, r = some v → zov M.1 v) ∧ va_P D vwCl (zwl Y ad M) t.heap ∧ va_D (zAA ad0 M0.1 sz) (zwl Y ad M) ∧ zom M ∧
    (∀ k ∈ M0.1, k ∈ M.1 ∧ ad k = ad0 k) ∧ (∀ k, 2000 ≤ k → ad k = ad0 k) ∧ M0.1.length ≤ M.1.length ∧ zss M0.1 ≤ zss M.1 ∧ M.1.length ≤ M0.1.length + mc ∧ zss M.1 ≤ zss M0.1 + ms ∧ t.heap.size ≤ st.heap.size + zdc M0.1 M.1 ∧ zhs t.heap ≤ zhs st.heap + zds M0.1 M.1) ∧ va_F (zAA ad0 M0.1 sz) st t
/-- the String constants of the Reader: their places in its pool, their texts' lengths and bytes -/
def zSi (i : Nat) : Nat := match i with
  | 0 => 45 | 1 => 78 | 2 => 80 | 3 => 82 | 4 => 84 | 5 => 71 | 6 => 73 | _ => 39
def zSt (i : Nat) : String := match i with
  | 0 => "year" | 1 => "dyke" | 2 => "open" | 3 => "cut" | 4 => "dredge" | 5 => "by" | 6 => "to" | _ => ";"
def zSl : List Nat := [4, 4, 4, 3, 6, 2, 2, 1]
def zSb : List (List Int32) := [[121, 101, 97, 114], [100, 121, 107, 101], [111, 112, 101, 110], [99, 117, 116], [100, 114, 101, 100, 103, 101], [98, 121], [116, 111], [59]]
def zXs (j : Nat) : Int32 := match j with
  | 0 => 1 | 1 => 0 | 2 => -1 | _ => 0
def zYs (j : Nat) : Int32 := match j with
  | 0 => 0 | 1 => 1 | 2 => 0 | _ => -1
def zNw : List (String × Nat × MethodName × String) := [(RX7, 18, yX4_init, RX7), (RX7, 25, yX0_init, RX7), (RX7, 32, yX5_init, RX7), (RX7, 45, yX2_init, RX7), (RX1, 35, yX7_cellAt, RX7), (RX3, 113, yX7_within, RX7), (RX7, 199, yX6_init, RX7), (RX2, 41, yX7_cellAt, RX7), (RX5, 99, yX7_cellAt, RX7)]
/-- what is given of the tables and of cells outside the world: nobody writes there. External cells: 2001 SIDE_X, 2002 SIDE_Y, 2010 + i the i-th String, 2020 + i its bytes -/
def zEX (ad : Nat → Nat) (A : Nat → Prop) (U : State) : Prop :=
  (∀ q ∈ zNw, va_Nw (.methodLinkNest q.1 q.2.1 q.2.2.1 q.2.2.2) U) ∧ va_Nw (.fieldLinkNest RX5 89 "DeltaRuns" "SIDE_X" "[I" "DeltaRuns") U ∧ va_Nw (.fieldLinkNest RX5 92 "DeltaRuns" "SIDE_Y" "[I" "DeltaRuns") U ∧ va_AO RX6 U ∧
  va_Z "DeltaRuns" "SIDE_X" "[I" (.ref (ad 2001)) A U U.heap ∧ va_T .int (ad 2001) 4 (fun j => .int (zXs j)) A U U.heap ∧ va_Z "DeltaRuns" "SIDE_Y" "[I" (.ref (ad 2002)) A U U.heap ∧ va_T .int (ad 2002) 4 (fun j => .int (zYs j)) A U U.heap ∧
  vk_S 8 zSl zSb (fun i => ad (2010 + i)) (fun i => ad (2020 + i)) A U U.heap ∧ (∀ i, i < 8 → vk_R RX3 (zSi i) (zSt i) (ad (2010 + i)) U) ∧
  va_Z "java/lang/String" "COMPACT_STRINGS" "Z" (.int 1) A U U.heap ∧ va_Zq "jdk/internal/util/Preconditions" "SIOOBE_FORMATTER" "Ljava/util/function/BiFunction;" A U U.heap
theorem zEX.same {ad : Nat → Nat} {A : Nat → Prop} {u U : State} (hv : u.vm = U.vm) (hh : U.heap = u.heap) (h : zEX ad A u) : zEX ad A U := by
  have hvm : u.vm.Alike U.vm := by rw [hv]; exact Vm.Alike.refl _
  obtain ⟨h1, h2, h3, h4, h5, h6, h7, h8, h9, h10, h11, h12⟩ := h
  rw [← hh] at h5 h6 h7 h8 h9 h11 h12
  refine ⟨fun q hq => va_Nw.same rfl hv (h1 q hq), va_Nw.same rfl hv h2, va_Nw.same rfl hv h3, h4.moved hvm, h5.moved hvm, h6.moved hvm, h7.moved hvm, h8.moved hvm, h9.moved hvm, fun i hi => (h10 i hi).same hv.symm, h11.moved hvm, ?_⟩
  rcases h12 with h | ⟨t, h⟩
  · exact Or.inl (h.moved hvm)
  · exact Or.inr ⟨t, h.moved hvm⟩
/-- at a later state whose tables are warmer, and whose heap is the same outside of A; for a smaller A -/
theorem zEX.later {ad ad' : Nat → Nat} {A B : Nat → Prop} {s U : State} (hW : s.WarmedH U.vm) (hB : ∀ q, q < s.heap.size → B q → A q) (hk : ∀ q : Nat, q < s.heap.size → ¬ A q → U.heap[q]? = s.heap[q]?) (had : ∀ k, 2000 ≤ k → ad' k = ad k) (h : zEX ad A s) : zEX ad' B U := by
  have hvm := hW.alike
  obtain ⟨h1, h2, h3, h4, h5, h6, h7, h8, h9, h10, h11, h12⟩ := h
  have e1 : ad' 2001 = ad 2001 := had _ (by decide)
  have e2 : ad' 2002 = ad 2002 := had _ (by decide)
  have e3 : (fun i => ad' (2010 + i)) = (fun i => ad (2010 + i)) := funext fun i => had _ (by omega)
  have e4 : (fun i => ad' (2020 + i)) = (fun i => ad (2020 + i)) := funext fun i => had _ (by omega)
  have zz : ∀ {C n d : String} {v : Value}, va_Z C n d v A s s.heap → va_Z C n d v B U U.heap := by
    intro C n d v h
    obtain ⟨cf, kf, fi, f, a, cell, g1, g2, g3, g4, g5, g6, g7, g8⟩ := (h.kept hk).moved hvm
    obtain ⟨cf', kf', fi', f', a', cell', m1, m2, m3, m4, m5, m6, m7, m8⟩ := h.moved hvm
    rw [g1] at m1
    cases m1
    rw [g4] at m4
    cases m4
    exact ⟨cf, kf, fi, f, a, cell, g1, g2, g3, g4, g5, g6, g7, fun z => g8 (hB a (Array.getElem?_eq_some_iff.mp m5).1 z)⟩
  have tt : ∀ {ty : FieldType} {t N : Nat} {f : Nat → Value}, va_T ty t N f A s s.heap → va_T ty t N f B U U.heap := by
    intro ty t N f h
    have hlt : t < s.heap.size := by
      obtain ⟨cell, g1, -⟩ := h
      exact (Array.getElem?_eq_some_iff.mp g1).1
    obtain ⟨cell, g1, g2, g3, g4, g5, g6, g7⟩ := (h.kept hk).moved hvm
    exact ⟨cell, g1, g2, g3, g4, g5, g6, fun z => g7 (hB t hlt z)⟩
  refine ⟨fun q hq => (h1 q hq).warmM hW, h2.warmF hW, h3.warmF hW, h4.moved hvm, by rw [e1]; exact zz h5, by rw [e1]; exact tt h6, by rw [e2]; exact zz h7, by rw [e2]; exact tt h8, ?_, fun i hi => by rw [had (2010 + i) (by omega)]; exact (h10 i hi).warm hW, zz h11, ?_⟩
  · rw [e3, e4]
    refine ⟨fun i hi => ?_, h9.2⟩
    obtain ⟨a1, a2, a3, a4⟩ := h9.1 i hi
    have hlt : ad (2010 + i) < s.heap.size := by
      obtain ⟨cell, g1, -⟩ := a1
      exact (Array.getElem?_eq_some_iff.mp g1).1
    have oo : ∀ {o n d : String} {v : Value}, va_OF o n d v (ad (2010 + i)) A s s.heap → va_OF o n d v (ad (2010 + i)) B U U.heap := by
      intro o n d v h
      obtain ⟨cf, k, j, f, cell, g1, g2, g3, g4, g5, g6⟩ := (h.kept hk).moved hvm
      exact ⟨cf, k, j, f, cell, g1, g2, g3, g4, g5, fun z => g6 (hB _ hlt z)⟩
    refine ⟨?_, oo a2, oo a3, tt a4⟩
    obtain ⟨cell, g1, g2, g3, g4⟩ := (a1.kept hk).moved hvm
    exact ⟨cell, g1, g2, g3, fun z => g4 (hB _ hlt z)⟩
  · rcases h12 with h | ⟨t, h⟩
    · exact Or.inl (zz h)
    · exact Or.inr ⟨t, zz h⟩
/-- a method's contract: from every memory with 'C args memory K' it comes to an end with K -/
def zMt (l : Launch) (D : va_G) (Y : Nat → ClassId) (y : MethodName) (cc : ByteArray) (maxL : Nat) (ret : Option FieldType) (fr lo mc ms : Nat) (C : List Value → zMm → zKt → Prop) : Prop :=
  ∀ (ad0 : Nat → Nat) (M0 : zMm) (avs : List Value) (K : zKt) (sz : Nat), C avs M0 K →
    Met l y (.code y cc maxL ret :: gT) { frames := fr, cells := mc, slots := ms, locals := lo }
      (va_Pc (avs.map (zcv ad0)) (fun U => U.heap.size = sz ∧ va_P D vwCl (zwl Y ad0 M0) U.heap ∧ va_D (fun _ => True) (zwl Y ad0 M0) ∧ va_K D vwCl (zTY Y) U ∧ zEX ad0 (zAA ad0 M0.1 sz) U ∧ zom M0 ∧ ∀ v ∈ avs, zov M0.1 v))
      (zQt D Y K ad0 M0 sz mc ms) mc ms (zAA ad0 M0.1 sz)
end
section
/-! THE CONTEXT of a method's body, what its soundness is, and the heap's measure -/
abbrev zCt : Type := Program × Launch × Env × Room × State × MethodId × Array Value × List Frame × Method × Code × va_G × (Nat → ClassId) × (Nat → Nat) × zMm × zKt
def zCX (X : zCt) (own nm : String) (cc : ByteArray) (nL : Nat) (ret : Option FieldType) : Prop := match X with
  | (p, _, _, _, s, m, args, _, meth, c, D, Y, ad0, M0, _) => p.tables.exec = Jvm.exec ∧ c.code = cc ∧ c.maxLocals = nL ∧ meth.sig.returnType = ret ∧ s.vm.findClass own = some m.cls ∧ (∀ w ∈ gT, w.before args s = true) ∧ meth.locks = false ∧ va_K D vwCl (zTY Y) s ∧ zEX ad0 (zAA ad0 M0.1 s.heap.size) s ∧ meth.name = nm
def zGD (X : zCt) (nL pc : Nat) (M : zMm) (ls : zLo) (st : List Value) : Prop := match X with
  | (p, l, e, R, s, m, args, below, meth, c, D, Y, ad0, M0, K) => ∀ (ad : Nat → Nat) (H : Heap) (locs : List Loc) (lsA : Array Slot), zWH D Y ad0 M0.1 s R ad M H locs → zoL M.1 ls st → lv_has lsA nL (zlcv ad 0 ls) →
      W p l e R s m args below meth c H locs (zdc M0.1 M.1) (zds M0.1 M.1) (MQ below (zQt D Y K ad0 M0 s.heap.size R.cells R.slots) args s R.cells R.slots (zAA ad0 M0.1 s.heap.size)) (F0 m pc lsA (st.map (zcv ad)))
/-- P is sound at pc -/
def zSd (X : zCt) (own nm : String) (cc : ByteArray) (nL : Nat) (ret : Option FieldType) (pc : Nat) (P : zPP) : Prop := zCX X own nm cc nL ret → ∀ M ls st, P M ls st → zGD X nL pc M ls st
def zKX (X : zCt) : zKt := X.2.2.2.2.2.2.2.2.2.2.2.2.2.2
def zRX (X : zCt) : Room := X.2.2.2.1
def zMX (X : zCt) : zMm := X.2.2.2.2.2.2.2.2.2.2.2.2.2.1
/-- the room that is left, as limits of the list of cells and of their slots -/
def zlc (X : zCt) : Nat := (zMX X).1.length + (zRX X).cells
def zls (X : zCt) : Nat := zss (zMX X).1 + (zRX X).slots
theorem zSd.imp {X : zCt} {own nm : String} {cc : ByteArray} {nL : Nat} {ret : Option FieldType} {pc : Nat} {P P' : zPP} (h : zSd X own nm cc nL ret pc P') (hi : ∀ M ls st, P M ls st → P' M ls st) : zSd X own nm cc nL ret pc P := fun c M ls st hp => h c M ls st (hi M ls st hp)
/-! ### the measure of heaps -/
theorem zhs_same {s T : State} {locs : List Loc} {cells slots : Nat} (h : s.sameButNew T locs cells slots) : zhs T.heap = zhs s.heap + ((T.heap.toList.drop s.heap.size).map (·.slots.size)).sum := by
  obtain ⟨-, h1, -, -, -, h5⟩ := h
  have hpre : (T.heap.toList.take s.heap.size).map (·.slots.size) = s.heap.toList.map (·.slots.size) := by
    apply List.ext_getElem?
    intro i
    rw [List.getElem?_map, List.getElem?_map]
    by_cases hi : i < s.heap.size
    · rw [List.getElem?_take_of_lt hi]
      have hs : s.heap[i]? = some s.heap[i] := Array.getElem?_eq_getElem hi
      obtain ⟨c', g1, g2, g3, -⟩ := h5 i _ hs
      rw [Array.getElem?_toList, Array.getElem?_toList, g1, hs]
      simp [g3]
    · have e1 : (T.heap.toList.take s.heap.size)[i]? = none := by
        rw [List.getElem?_eq_none_iff]
        rw [List.length_take]
        omega
      have e2 : s.heap.toList[i]? = none := by
        rw [List.getElem?_eq_none_iff, Array.length_toList]
        omega
      rw [e1, e2]
  unfold zhs
  rw [← hpre, ← List.sum_append, ← List.map_append, List.take_append_drop]
section ZT
variable {p : Program} {l : Launch} {e : Env} {R : Room} {s : State} {m : MethodId} {args : Array Value} {below : List Frame} {meth : Method} {c : Code} {H : Heap} {locs : List Loc} {cells slots : Nat} {Q : State → Prop}
theorem zW_know {g : JFrame} (kk : H.size ≤ s.heap.size + cells → zhs H ≤ zhs s.heap + slots → W p l e R s m args below meth c H locs cells slots Q g) : W p l e R s m args below meth c H locs cells slots Q g := by
  intro T hT X
  have hs := X.same
  have h1 : T.heap.size ≤ s.heap.size + cells := hs.2.2.1
  have h2 := zhs_same hs
  have h3 := hs.2.2.2.2.1
  have h2' : zhs T.heap = zhs s.heap + ((T.heap.toList.drop s.heap.size).map (·.slots.size)).sum := h2
  have h3' : ((T.heap.toList.drop s.heap.size).map (·.slots.size)).sum ≤ slots := h3
  refine kk (by rw [← hT]; exact h1) ?_ T hT X
  rw [← hT]
  omega
theorem zW_tight {g : JFrame} {k n : Nat} (h1 : H.size ≤ s.heap.size + k) (h2 : zhs H ≤ zhs s.heap + n) (kk : W p l e R s m args below meth c H locs k n Q g) : W p l e R s m args below meth c H locs cells slots Q g := by
  intro T hT X
  refine kk T hT { X with same := ?_ }
  have hs := X.same
  have h3 := zhs_same hs
  have h3' : zhs T.heap = zhs s.heap + ((T.heap.toList.drop s.heap.size).map (·.slots.size)).sum := h3
  obtain ⟨g1, g2, g3, g4, g5, g6⟩ := hs
  refine ⟨g1, g2, ?_, g4, ?_, g6⟩
  · have : T.heap.size ≤ s.heap.size + k := by rw [hT]; exact h1
    exact this
  · have : ((T.heap.toList.drop s.heap.size).map (·.slots.size)).sum ≤ n := by
      rw [hT] at h3' ⊢
      omega
    exact this
end ZT
/-! ### from a sound body to the contract -/
theorem zlg_ent : ∀ (vs : List Value) (i : Nat) (v : Value), zlg (vs.map some) i = some v → v ∈ vs
  | [], i, v, h => by simp [zlg] at h
  | a :: l, 0, v, h => by simp [zlg] at h; rw [h]; exact List.mem_cons_self
  | a :: l, i + 1, v, h => List.mem_cons_of_mem _ (zlg_ent l i v h)
/-- the locals at a method's entry: a long takes two places -/
def zent : List Value → zLo
  | [] => []
  | .long x :: l => some (.long x) :: none :: zent l
  | .double x :: l => some (.double x) :: none :: zent l
  | v :: l => some v :: zent l
theorem zent_ok {L : List Nat} : ∀ (vs : List Value), (∀ v ∈ vs, zov L v) → ∀ (i : Nat) (v : Value), zlg (zent vs) i = some v → zov L v
  | [], _, i, v, h => by simp [zent, zlg] at h
  | a :: l, hl, i, v, h => by
    have ih := zent_ok l (fun v hv => hl v (List.mem_cons_of_mem _ hv))
    have h0 := hl a List.mem_cons_self
    have aux : ∀ w, (zlg (some w :: zent l) i = some v) → zov L w → zov L v := by
      intro w hw ow
      cases i with
      | zero => simp [zlg] at hw; rw [← hw]; exact ow
      | succ i => exact ih i v hw
    have aux2 : ∀ w, (zlg (some w :: none :: zent l) i = some v) → zov L w → zov L v := by
      intro w hw ow
      match i, hw with
      | 0, hw => simp [zlg] at hw; rw [← hw]; exact ow
      | 1, hw => simp [zlg] at hw
      | i + 2, hw => exact ih i v hw
    cases a with
    | long x => exact aux2 _ h trivial
    | double x => exact aux2 _ h trivial
    | _ => exact aux _ h h0
theorem zlcv_none (ad : Nat → Nat) (m : Nat) : ∀ (n : Nat), zlcv ad n (List.replicate m none) = [] := by
  induction m with
  | zero => intro n; rfl
  | succ m ih => intro n; rw [List.replicate_succ]; exact ih (n + 1)
theorem zlcv_ent (ad : Nat → Nat) (m : Nat) : ∀ (vs : List Value) (n : Nat), zlcv ad n (zent vs ++ List.replicate m none) = lv_args n (vs.map (zcv ad))
  | [], n => by
    rw [show zent [] ++ List.replicate m none = List.replicate m none from rfl, zlcv_none]
    rfl
  | a :: l, n => by
    cases a with
    | long x => exact congrArg (List.cons _) (zlcv_ent ad m l (n + 2))
    | double x => exact congrArg (List.cons _) (zlcv_ent ad m l (n + 2))
    | int x => exact congrArg (List.cons _) (zlcv_ent ad m l (n + 1))
    | float x => exact congrArg (List.cons _) (zlcv_ent ad m l (n + 1))
    | null => exact congrArg (List.cons _) (zlcv_ent ad m l (n + 1))
    | ref x => exact congrArg (List.cons _) (zlcv_ent ad m l (n + 1))
    | retAddr x => exact congrArg (List.cons _) (zlcv_ent ad m l (n + 1))
theorem zlg_app : ∀ (a : zLo) (m i : Nat) (v : Value), zlg (a ++ List.replicate m none) i = some v → zlg a i = some v
  | [], m, i, v, h => by
    induction m generalizing i with
    | zero => exact h
    | succ m ih =>
      cases i with
      | zero => simp [List.replicate_succ, zlg] at h
      | succ i =>
        have := ih i h
        simp [zlg] at this
  | a :: l, m, 0, v, h => h
  | a :: l, m, i + 1, v, h => zlg_app l m i v h
theorem zlen_sl (ad : Nat → Nat) : ∀ (vs : List Value), (lg_sl (vs.map (zcv ad))).length = (zent vs).length
  | [] => rfl
  | a :: l => by
    cases a with
    | long x => exact congrArg (· + 2) (zlen_sl ad l)
    | double x => exact congrArg (· + 2) (zlen_sl ad l)
    | int x => exact congrArg (· + 1) (zlen_sl ad l)
    | float x => exact congrArg (· + 1) (zlen_sl ad l)
    | null => exact congrArg (· + 1) (zlen_sl ad l)
    | ref x => exact congrArg (· + 1) (zlen_sl ad l)
    | retAddr x => exact congrArg (· + 1) (zlen_sl ad l)
/-- THE CONTRACT of a method out of a body that is sound at 0: C gives the body's start -/
theorem zMt.of {l : Launch} {D : va_G} {Y : Nat → ClassId} {y : MethodName} {cc : ByteArray} {maxL : Nat} {ret : Option FieldType} {fr lo mc ms : Nat} {C : List Value → zMm → zKt → Prop} (hy : plainName y.cls = true)
    (h : ∀ X : zCt, X.2.1 = l → zRX X = { frames := fr, cells := mc, slots := ms, locals := lo } → X.2.2.2.2.2.2.2.2.2.2.1 = D → X.2.2.2.2.2.2.2.2.2.2.2.1 = Y → ∀ avs, C avs (zMX X) (zKX X) →
      (zent avs).length ≤ maxL ∧ ∃ P : zPP, zSd X y.cls y.name cc maxL ret 0 P ∧ P (zMX X) (zent avs ++ List.replicate (maxL - (zent avs).length) none) []) : zMt l D Y y cc maxL ret fr lo mc ms C := by
  intro ad0 M0 avs K sz hC
  refine Met.ofW (cc := cc) (maxL := maxL) (ret := ret) hy rfl ?_
  intro p e s m args below meth c s₁ B hml hv
  obtain ⟨rfl, hsz, hP, hD0, hK, hE, hO, hA⟩ := hv
  subst hsz
  have hts := atoms_spec (ws := Cond.code y cc maxL ret :: gT) B.pre
  obtain ⟨hlen, P, hS, hP0⟩ := h (p, l, e, { frames := fr, cells := mc, slots := ms, locals := lo }, s, m, (avs.map (zcv ad0)).toArray, below, meth, c, D, Y, ad0, M0, K) rfl rfl rfl rfl avs hC
  have hG := hS ⟨B.exec, B.bytes, hml, B.returns, findClass_of_methodNamed B.named, fun w hw => hts w (List.mem_cons_of_mem _ hw), B.notSynchronized, hK, hE, (name_of_methodNamed B.named B.method).1⟩ M0 _ [] hP0
  have hlen' : (lg_sl (avs.map (zcv ad0))).length ≤ maxL := by rw [zlen_sl]; exact hlen
  have hl := lv_entry (avs.map (zcv ad0)) (n := maxL) hlen'
  rw [lg_entry_eq]
  have hz1 : zdc M0.1 M0.1 = 0 := Nat.sub_self _
  have hz2 : zds M0.1 M0.1 = 0 := Nat.sub_self _
  have hG' := hG ad0 s.heap [] _ ⟨hP, ⟨hD0.1, fun k q hk => by
      obtain ⟨k', hk', rfl⟩ := List.mem_map.mp (List.mem_of_getElem? hk)
      exact Or.inl ⟨k', hk', rfl⟩⟩, va_S.rf, hO, fun k hk => ⟨hk, rfl⟩, fun k _ => rfl, Nat.le_refl _, Nat.le_refl _, Nat.le_add_right _ _, Nat.le_add_right _ _⟩
    ⟨fun v hv => absurd hv List.not_mem_nil, fun i v hi => zent_ok avs hA i v (zlg_app _ _ i v hi)⟩ (by rw [zlcv_ent]; exact hl)
  simp only [zMX] at hG'
  rw [hz1, hz2] at hG'
  exact hG'
end
section
/-! ONE INSTRUCTION, ONE TRANSFORMER: zT_.. P is what must hold ahead of the instruction so that P holds behind it; zs_..: it is sound -/
theorem zoL.top {L : List Nat} {ls : zLo} {v : Value} {st : List Value} (h : zoL L ls (v :: st)) : zov L v ∧ zoL L ls st := ⟨h.1 v List.mem_cons_self, fun w hw => h.1 w (List.mem_cons_of_mem _ hw), h.2⟩
theorem zoL.push {L : List Nat} {ls : zLo} {v : Value} {st : List Value} (hv : zov L v) (h : zoL L ls st) : zoL L ls (v :: st) := ⟨fun w hw => (List.mem_cons.mp hw).elim (fun e => e ▸ hv) (h.1 w), h.2⟩
theorem zoL.set {L : List Nat} {ls : zLo} {v : Value} {st : List Value} {i : Nat} (hv : zov L v) (h : zoL L ls st) : zoL L (zlset ls i (some v)) st := ⟨h.1, fun j w hw => (zlg_set hw).elim (fun e => by cases e.2; exact hv) (fun e => h.2 j w e.2)⟩
theorem zoL.clr {L : List Nat} {ls : zLo} {st : List Value} {i : Nat} (h : zoL L ls st) : zoL L (zlset ls i none) st := ⟨h.1, fun j w hw => (zlg_set hw).elim (fun e => by cases e.2) (fun e => h.2 j w e.2)⟩
section ZR
variable {X : zCt} {own nm : String} {cc : ByteArray} {nL : Nat} {ret : Option FieldType} {pc : Nat} {P P2 : zPP}
def zT_push (v : Value) (P : zPP) : zPP := fun M ls st => P M ls (v :: st)
def zT_bin (f : Int32 → Int32 → Int32) (P : zPP) : zPP := fun M ls st => match st with
  | .int y :: .int x :: r => P M ls (.int (f x y) :: r)
  | _ => False
def zT_div (f : Int32 → Int32 → Int32) (P : zPP) : zPP := fun M ls st => match st with
  | .int y :: .int x :: r => ¬ y = 0 ∧ P M ls (.int (f x y) :: r)
  | _ => False
def zT_bil (f : Int64 → Int64 → Int64) (P : zPP) : zPP := fun M ls st => match st with
  | .long y :: .long x :: r => P M ls (.long (f x y) :: r)
  | _ => False
def zT_shl (f : Int64 → Int32 → Int64) (P : zPP) : zPP := fun M ls st => match st with
  | .int y :: .long x :: r => P M ls (.long (f x y) :: r)
  | _ => False
def zT_un (f : Int32 → Int32) (P : zPP) : zPP := fun M ls st => match st with
  | .int x :: r => P M ls (.int (f x) :: r)
  | _ => False
def zT_i2l (P : zPP) : zPP := fun M ls st => match st with
  | .int x :: r => P M ls (.long x.toInt64 :: r)
  | _ => False
def zT_l2i (P : zPP) : zPP := fun M ls st => match st with
  | .long x :: r => P M ls (.int x.toInt32 :: r)
  | _ => False
def zT_lcmp (P : zPP) : zPP := fun M ls st => match st with
  | .long y :: .long x :: r => P M ls (.int (lg_cmp x y) :: r)
  | _ => False
def zT_ild (i : Nat) (P : zPP) : zPP := fun M ls st => match zlg ls i with
  | some (.int x) => P M ls (.int x :: st)
  | _ => False
def zT_lld (i : Nat) (P : zPP) : zPP := fun M ls st => match zlg ls i with
  | some (.long x) => P M ls (.long x :: st)
  | _ => False
def zT_ald (i : Nat) (P : zPP) : zPP := fun M ls st => match zlg ls i with
  | some (.ref x) => P M ls (.ref x :: st)
  | some .null => P M ls (.null :: st)
  | _ => False
def zT_ist (i : Nat) (P : zPP) : zPP := fun M ls st => match st, zlpr ls i with
  | _, some (.long _) => False
  | _, some (.double _) => False
  | .int x :: r, _ => P M (zlset ls i (some (.int x))) r
  | _, _ => False
def zT_lst (i : Nat) (P : zPP) : zPP := fun M ls st => match st, zlpr ls i with
  | _, some (.long _) => False
  | _, some (.double _) => False
  | .long x :: r, _ => P M (zlset (zlset ls i (some (.long x))) (i + 1) none) r
  | _, _ => False
def zT_ast (i : Nat) (P : zPP) : zPP := fun M ls st => match st, zlpr ls i with
  | _, some (.long _) => False
  | _, some (.double _) => False
  | .ref x :: r, _ => P M (zlset ls i (some (.ref x))) r
  | .null :: r, _ => P M (zlset ls i (some .null)) r
  | _, _ => False
def zT_iinc (i : Nat) (n : Int32) (P : zPP) : zPP := fun M ls st => match zlg ls i, zlpr ls i with
  | _, some (.long _) => False
  | _, some (.double _) => False
  | some (.int x), _ => P M (zlset ls i (some (.int (x + n)))) st
  | _, _ => False
def zT_dup (P : zPP) : zPP := fun M ls st => match st with
  | .int x :: r => P M ls (.int x :: .int x :: r)
  | .ref x :: r => P M ls (.ref x :: .ref x :: r)
  | _ => False
def zT_dup2 (P : zPP) : zPP := fun M ls st => match st with
  | .int x :: .ref y :: r => P M ls (.int x :: .ref y :: .int x :: .ref y :: r)
  | _ => False
def zT_pop (P : zPP) : zPP := fun M ls st => match st with
  | .int _ :: r => P M ls r
  | _ => False
def zT_if1 (f : Int32 → Prop) (P P2 : zPP) : zPP := fun M ls st => match st with
  | .int x :: r => (f x → P M ls r) ∧ (¬ f x → P2 M ls r)
  | _ => False
def zT_if2 (f : Int32 → Int32 → Prop) (P P2 : zPP) : zPP := fun M ls st => match st with
  | .int y :: .int x :: r => (f x y → P M ls r) ∧ (¬ f x y → P2 M ls r)
  | _ => False
def zT_ifn (P P2 : zPP) : zPP := fun M ls st => match st with
  | .null :: r => P M ls r
  | .ref _ :: r => P2 M ls r
  | _ => False
theorem zs_iconst {n : Int} {v : Int32} (hd : decode cc pc = .ok (.iconst n, 1)) (hv : Int32.ofInt n = v) (k : zSd X own nm cc nL ret (pc + 1) P) : zSd X own nm cc nL ret pc (zT_push (.int v) P) := by
  intro C M ls st h
  obtain ⟨p, l, e, R, s, m, args, below, meth, c, D, Y, ad0, M0, K⟩ := X
  intro ad H locs lsA hW ho hl
  exact lv_iconst C.1 C.2.1 hd hv (k C M ls _ h ad H locs lsA hW (ho.push trivial) hl)
theorem zs_bipush {n : Int} {v : Int32} (hd : decode cc pc = .ok (.bipush n, 2)) (hv : (Int8.ofInt n).toInt32 = v) (k : zSd X own nm cc nL ret (pc + 2) P) : zSd X own nm cc nL ret pc (zT_push (.int v) P) := by
  intro C M ls st h
  obtain ⟨p, l, e, R, s, m, args, below, meth, c, D, Y, ad0, M0, K⟩ := X
  intro ad H locs lsA hW ho hl
  exact lv_bipush C.1 C.2.1 hd hv (k C M ls _ h ad H locs lsA hW (ho.push trivial) hl)
theorem zs_sipush {n : Int} {v : Int32} (hd : decode cc pc = .ok (.sipush n, 3)) (hv : (Int16.ofInt n).toInt32 = v) (k : zSd X own nm cc nL ret (pc + 3) P) : zSd X own nm cc nL ret pc (zT_push (.int v) P) := by
  intro C M ls st h
  obtain ⟨p, l, e, R, s, m, args, below, meth, c, D, Y, ad0, M0, K⟩ := X
  intro ad H locs lsA hW ho hl
  exact lv_sipush C.1 C.2.1 hd hv (k C M ls _ h ad H locs lsA hW (ho.push trivial) hl)
theorem zs_lconst {n : Fin 2} {v : Int64} (hd : decode cc pc = .ok (.lconst n, 1)) (hv : Int64.ofNat n = v) (k : zSd X own nm cc nL ret (pc + 1) P) : zSd X own nm cc nL ret pc (zT_push (.long v) P) := by
  intro C M ls st h
  obtain ⟨p, l, e, R, s, m, args, below, meth, c, D, Y, ad0, M0, K⟩ := X
  intro ad H locs lsA hW ho hl
  exact lv_lconst C.1 C.2.1 hd hv (k C M ls _ h ad H locs lsA hW (ho.push trivial) hl)
theorem zs_ldc2 {n : Nat} {v : Int64} (hd : decode cc pc = .ok (.ldc2_w n, 3)) (hw : Cond.constantLong own n v ∈ gT) (k : zSd X own nm cc nL ret (pc + 3) P) : zSd X own nm cc nL ret pc (zT_push (.long v) P) := by
  intro C M ls st h
  obtain ⟨p, l, e, R, s, m, args, below, meth, c, D, Y, ad0, M0, K⟩ := X
  intro ad H locs lsA hW ho hl
  exact lv_ldc2 C.1 C.2.1 C.2.2.2.2.1 (C.2.2.2.2.2.1 _ hw) hd (k C M ls _ h ad H locs lsA hW (ho.push trivial) hl)
theorem zs_iadd (hd : decode cc pc = .ok (.iadd, 1)) (k : zSd X own nm cc nL ret (pc + 1) P) : zSd X own nm cc nL ret pc (zT_bin (fun x y => x + y) P) := by
  intro C M ls st h
  obtain ⟨p, l, e, R, s, m, args, below, meth, c, D, Y, ad0, M0, K⟩ := X
  unfold zT_bin at h
  split at h
  · intro ad H locs lsA hW ho hl
    exact lv_iadd C.1 C.2.1 hd (k C M ls _ h ad H locs lsA hW (ho.top.2.top.2.push trivial) hl)
  · exact h.elim
theorem zs_isub (hd : decode cc pc = .ok (.isub, 1)) (k : zSd X own nm cc nL ret (pc + 1) P) : zSd X own nm cc nL ret pc (zT_bin (fun x y => x - y) P) := by
  intro C M ls st h
  obtain ⟨p, l, e, R, s, m, args, below, meth, c, D, Y, ad0, M0, K⟩ := X
  unfold zT_bin at h
  split at h
  · intro ad H locs lsA hW ho hl
    exact lv_isub C.1 C.2.1 hd (k C M ls _ h ad H locs lsA hW (ho.top.2.top.2.push trivial) hl)
  · exact h.elim
theorem zs_imul (hd : decode cc pc = .ok (.imul, 1)) (k : zSd X own nm cc nL ret (pc + 1) P) : zSd X own nm cc nL ret pc (zT_bin (fun x y => x * y) P) := by
  intro C M ls st h
  obtain ⟨p, l, e, R, s, m, args, below, meth, c, D, Y, ad0, M0, K⟩ := X
  unfold zT_bin at h
  split at h
  · intro ad H locs lsA hW ho hl
    exact lv_imul C.1 C.2.1 hd (k C M ls _ h ad H locs lsA hW (ho.top.2.top.2.push trivial) hl)
  · exact h.elim
theorem zs_iand (hd : decode cc pc = .ok (.iand, 1)) (k : zSd X own nm cc nL ret (pc + 1) P) : zSd X own nm cc nL ret pc (zT_bin (fun x y => x &&& y) P) := by
  intro C M ls st h
  obtain ⟨p, l, e, R, s, m, args, below, meth, c, D, Y, ad0, M0, K⟩ := X
  unfold zT_bin at h
  split at h
  · intro ad H locs lsA hW ho hl
    exact lv_iand C.1 C.2.1 hd (k C M ls _ h ad H locs lsA hW (ho.top.2.top.2.push trivial) hl)
  · exact h.elim
theorem zs_ior (hd : decode cc pc = .ok (.ior, 1)) (k : zSd X own nm cc nL ret (pc + 1) P) : zSd X own nm cc nL ret pc (zT_bin (fun x y => x ||| y) P) := by
  intro C M ls st h
  obtain ⟨p, l, e, R, s, m, args, below, meth, c, D, Y, ad0, M0, K⟩ := X
  unfold zT_bin at h
  split at h
  · intro ad H locs lsA hW ho hl
    exact lv_ior C.1 C.2.1 hd (k C M ls _ h ad H locs lsA hW (ho.top.2.top.2.push trivial) hl)
  · exact h.elim
theorem zs_ishr (hd : decode cc pc = .ok (.ishr, 1)) (k : zSd X own nm cc nL ret (pc + 1) P) : zSd X own nm cc nL ret pc (zT_bin (fun x y => x >>> (y &&& 31)) P) := by
  intro C M ls st h
  obtain ⟨p, l, e, R, s, m, args, below, meth, c, D, Y, ad0, M0, K⟩ := X
  unfold zT_bin at h
  split at h
  · intro ad H locs lsA hW ho hl
    exact lv_ishr C.1 C.2.1 hd (k C M ls _ h ad H locs lsA hW (ho.top.2.top.2.push trivial) hl)
  · exact h.elim
theorem zs_ishl (hd : decode cc pc = .ok (.ishl, 1)) (k : zSd X own nm cc nL ret (pc + 1) P) : zSd X own nm cc nL ret pc (zT_bin (fun x y => x <<< (y &&& 31)) P) := by
  intro C M ls st h
  obtain ⟨p, l, e, R, s, m, args, below, meth, c, D, Y, ad0, M0, K⟩ := X
  unfold zT_bin at h
  split at h
  · intro ad H locs lsA hW ho hl
    exact lv_ishl C.1 C.2.1 hd (k C M ls _ h ad H locs lsA hW (ho.top.2.top.2.push trivial) hl)
  · exact h.elim
theorem zs_idiv (hd : decode cc pc = .ok (.idiv, 1)) (k : zSd X own nm cc nL ret (pc + 1) P) : zSd X own nm cc nL ret pc (zT_div (fun x y => x / y) P) := by
  intro C M ls st h
  obtain ⟨p, l, e, R, s, m, args, below, meth, c, D, Y, ad0, M0, K⟩ := X
  unfold zT_div at h
  split at h
  · intro ad H locs lsA hW ho hl
    exact lv_idiv C.1 C.2.1 hd h.1 (k C M ls _ h.2 ad H locs lsA hW (ho.top.2.top.2.push trivial) hl)
  · exact h.elim
theorem zs_irem (hd : decode cc pc = .ok (.irem, 1)) (k : zSd X own nm cc nL ret (pc + 1) P) : zSd X own nm cc nL ret pc (zT_div (fun x y => x - x / y * y) P) := by
  intro C M ls st h
  obtain ⟨p, l, e, R, s, m, args, below, meth, c, D, Y, ad0, M0, K⟩ := X
  unfold zT_div at h
  split at h
  · intro ad H locs lsA hW ho hl
    exact lv_irem C.1 C.2.1 hd h.1 (k C M ls _ h.2 ad H locs lsA hW (ho.top.2.top.2.push trivial) hl)
  · exact h.elim
theorem zs_ladd (hd : decode cc pc = .ok (.ladd, 1)) (k : zSd X own nm cc nL ret (pc + 1) P) : zSd X own nm cc nL ret pc (zT_bil (fun x y => x + y) P) := by
  intro C M ls st h
  obtain ⟨p, l, e, R, s, m, args, below, meth, c, D, Y, ad0, M0, K⟩ := X
  unfold zT_bil at h
  split at h
  · intro ad H locs lsA hW ho hl
    exact lv_ladd C.1 C.2.1 hd (k C M ls _ h ad H locs lsA hW (ho.top.2.top.2.push trivial) hl)
  · exact h.elim
theorem zs_lsub (hd : decode cc pc = .ok (.lsub, 1)) (k : zSd X own nm cc nL ret (pc + 1) P) : zSd X own nm cc nL ret pc (zT_bil (fun x y => x - y) P) := by
  intro C M ls st h
  obtain ⟨p, l, e, R, s, m, args, below, meth, c, D, Y, ad0, M0, K⟩ := X
  unfold zT_bil at h
  split at h
  · intro ad H locs lsA hW ho hl
    exact lv_lsub C.1 C.2.1 hd (k C M ls _ h ad H locs lsA hW (ho.top.2.top.2.push trivial) hl)
  · exact h.elim
theorem zs_lmul (hd : decode cc pc = .ok (.lmul, 1)) (k : zSd X own nm cc nL ret (pc + 1) P) : zSd X own nm cc nL ret pc (zT_bil (fun x y => x * y) P) := by
  intro C M ls st h
  obtain ⟨p, l, e, R, s, m, args, below, meth, c, D, Y, ad0, M0, K⟩ := X
  unfold zT_bil at h
  split at h
  · intro ad H locs lsA hW ho hl
    exact lv_lmul C.1 C.2.1 hd (k C M ls _ h ad H locs lsA hW (ho.top.2.top.2.push trivial) hl)
  · exact h.elim
theorem zs_lor (hd : decode cc pc = .ok (.lor, 1)) (k : zSd X own nm cc nL ret (pc + 1) P) : zSd X own nm cc nL ret pc (zT_bil (fun x y => x ||| y) P) := by
  intro C M ls st h
  obtain ⟨p, l, e, R, s, m, args, below, meth, c, D, Y, ad0, M0, K⟩ := X
  unfold zT_bil at h
  split at h
  · intro ad H locs lsA hW ho hl
    exact lv_lor C.1 C.2.1 hd (k C M ls _ h ad H locs lsA hW (ho.top.2.top.2.push trivial) hl)
  · exact h.elim
theorem zs_lshl (hd : decode cc pc = .ok (.lshl, 1)) (k : zSd X own nm cc nL ret (pc + 1) P) : zSd X own nm cc nL ret pc (zT_shl (fun x y => x <<< (y.toInt64 &&& 63)) P) := by
  intro C M ls st h
  obtain ⟨p, l, e, R, s, m, args, below, meth, c, D, Y, ad0, M0, K⟩ := X
  unfold zT_shl at h
  split at h
  · intro ad H locs lsA hW ho hl
    exact lv_lshl C.1 C.2.1 hd rfl (k C M ls _ h ad H locs lsA hW (ho.top.2.top.2.push trivial) hl)
  · exact h.elim
theorem zs_lushr (hd : decode cc pc = .ok (.lushr, 1)) (k : zSd X own nm cc nL ret (pc + 1) P) : zSd X own nm cc nL ret pc (zT_shl (fun x y => (x.toUInt64 >>> (y.toInt64.toUInt64 &&& Int64.toUInt64 63)).toInt64) P) := by
  intro C M ls st h
  obtain ⟨p, l, e, R, s, m, args, below, meth, c, D, Y, ad0, M0, K⟩ := X
  unfold zT_shl at h
  split at h
  · intro ad H locs lsA hW ho hl
    exact lv_lushr C.1 C.2.1 hd rfl (k C M ls _ h ad H locs lsA hW (ho.top.2.top.2.push trivial) hl)
  · exact h.elim
theorem zs_i2b (hd : decode cc pc = .ok (.i2b, 1)) (k : zSd X own nm cc nL ret (pc + 1) P) : zSd X own nm cc nL ret pc (zT_un (fun x => x.toInt8.toInt32) P) := by
  intro C M ls st h
  obtain ⟨p, l, e, R, s, m, args, below, meth, c, D, Y, ad0, M0, K⟩ := X
  unfold zT_un at h
  split at h
  · intro ad H locs lsA hW ho hl
    exact lv_i2b C.1 C.2.1 hd rfl (k C M ls _ h ad H locs lsA hW (ho.top.2.push trivial) hl)
  · exact h.elim
theorem zs_i2c (hd : decode cc pc = .ok (.i2c, 1)) (k : zSd X own nm cc nL ret (pc + 1) P) : zSd X own nm cc nL ret pc (zT_un (fun x => (x.toUInt32 % 65536).toInt32) P) := by
  intro C M ls st h
  obtain ⟨p, l, e, R, s, m, args, below, meth, c, D, Y, ad0, M0, K⟩ := X
  unfold zT_un at h
  split at h
  · intro ad H locs lsA hW ho hl
    exact lv_i2c C.1 C.2.1 hd rfl (k C M ls _ h ad H locs lsA hW (ho.top.2.push trivial) hl)
  · exact h.elim
theorem zs_i2l (hd : decode cc pc = .ok (.i2l, 1)) (k : zSd X own nm cc nL ret (pc + 1) P) : zSd X own nm cc nL ret pc (zT_i2l P) := by
  intro C M ls st h
  obtain ⟨p, l, e, R, s, m, args, below, meth, c, D, Y, ad0, M0, K⟩ := X
  unfold zT_i2l at h
  split at h
  · intro ad H locs lsA hW ho hl
    exact lv_i2l C.1 C.2.1 hd rfl (k C M ls _ h ad H locs lsA hW (ho.top.2.push trivial) hl)
  · exact h.elim
theorem zs_l2i (hd : decode cc pc = .ok (.l2i, 1)) (k : zSd X own nm cc nL ret (pc + 1) P) : zSd X own nm cc nL ret pc (zT_l2i P) := by
  intro C M ls st h
  obtain ⟨p, l, e, R, s, m, args, below, meth, c, D, Y, ad0, M0, K⟩ := X
  unfold zT_l2i at h
  split at h
  · intro ad H locs lsA hW ho hl
    exact lv_l2i C.1 C.2.1 hd rfl (k C M ls _ h ad H locs lsA hW (ho.top.2.push trivial) hl)
  · exact h.elim
theorem zs_lcmp (hd : decode cc pc = .ok (.lcmp, 1)) (k : zSd X own nm cc nL ret (pc + 1) P) : zSd X own nm cc nL ret pc (zT_lcmp P) := by
  intro C M ls st h
  obtain ⟨p, l, e, R, s, m, args, below, meth, c, D, Y, ad0, M0, K⟩ := X
  unfold zT_lcmp at h
  split at h
  · intro ad H locs lsA hW ho hl
    exact W.lcmp C.1 C.2.1 hd (k C M ls _ h ad H locs lsA hW (ho.top.2.top.2.push trivial) hl)
  · exact h.elim
theorem zs_iload_n {i : Fin 4} {j : Nat} (hd : decode cc pc = .ok (.iload_n i, 1)) (hi : (i : Nat) = j) (k : zSd X own nm cc nL ret (pc + 1) P) : zSd X own nm cc nL ret pc (zT_ild j P) := by
  intro C M ls st h
  obtain ⟨p, l, e, R, s, m, args, below, meth, c, D, Y, ad0, M0, K⟩ := X
  unfold zT_ild at h
  split at h
  · next heq =>
    intro ad H locs lsA hW ho hl
    exact lv_iload_n C.1 C.2.1 hd hi (zlv_get hl heq) (k C M ls _ h ad H locs lsA hW (ho.push trivial) hl)
  · exact h.elim
theorem zs_iload {j : Nat} (hd : decode cc pc = .ok (.iload j, 2)) (k : zSd X own nm cc nL ret (pc + 2) P) : zSd X own nm cc nL ret pc (zT_ild j P) := by
  intro C M ls st h
  obtain ⟨p, l, e, R, s, m, args, below, meth, c, D, Y, ad0, M0, K⟩ := X
  unfold zT_ild at h
  split at h
  · next heq =>
    intro ad H locs lsA hW ho hl
    exact lv_iload C.1 C.2.1 hd (zlv_get hl heq) (k C M ls _ h ad H locs lsA hW (ho.push trivial) hl)
  · exact h.elim
theorem zs_lload_n {i : Fin 4} {j : Nat} (hd : decode cc pc = .ok (.lload_n i, 1)) (hi : (i : Nat) = j) (k : zSd X own nm cc nL ret (pc + 1) P) : zSd X own nm cc nL ret pc (zT_lld j P) := by
  intro C M ls st h
  obtain ⟨p, l, e, R, s, m, args, below, meth, c, D, Y, ad0, M0, K⟩ := X
  unfold zT_lld at h
  split at h
  · next heq =>
    intro ad H locs lsA hW ho hl
    exact lv_lload_n C.1 C.2.1 hd hi (zlv_get hl heq) (k C M ls _ h ad H locs lsA hW (ho.push trivial) hl)
  · exact h.elim
theorem zs_lload {j : Nat} (hd : decode cc pc = .ok (.lload j, 2)) (k : zSd X own nm cc nL ret (pc + 2) P) : zSd X own nm cc nL ret pc (zT_lld j P) := by
  intro C M ls st h
  obtain ⟨p, l, e, R, s, m, args, below, meth, c, D, Y, ad0, M0, K⟩ := X
  unfold zT_lld at h
  split at h
  · next heq =>
    intro ad H locs lsA hW ho hl
    exact lv_lload C.1 C.2.1 hd (zlv_get hl heq) (k C M ls _ h ad H locs lsA hW (ho.push trivial) hl)
  · exact h.elim
theorem zs_aload_n {i : Fin 4} {j : Nat} (hd : decode cc pc = .ok (.aload_n i, 1)) (hi : (i : Nat) = j) (k : zSd X own nm cc nL ret (pc + 1) P) : zSd X own nm cc nL ret pc (zT_ald j P) := by
  intro C M ls st h
  obtain ⟨p, l, e, R, s, m, args, below, meth, c, D, Y, ad0, M0, K⟩ := X
  unfold zT_ald at h
  split at h
  · next heq =>
    intro ad H locs lsA hW ho hl
    exact lv_aload_n C.1 C.2.1 hd hi (zlv_get hl heq) (k C M ls _ h ad H locs lsA hW (ho.push (ho.2 _ _ heq)) hl)
  · next heq =>
    intro ad H locs lsA hW ho hl
    exact lv_aload_nN C.1 C.2.1 hd hi (zlv_get hl heq) (k C M ls _ h ad H locs lsA hW (ho.push trivial) hl)
  · exact h.elim
theorem zs_aload {j : Nat} (hd : decode cc pc = .ok (.aload j, 2)) (k : zSd X own nm cc nL ret (pc + 2) P) : zSd X own nm cc nL ret pc (zT_ald j P) := by
  intro C M ls st h
  obtain ⟨p, l, e, R, s, m, args, below, meth, c, D, Y, ad0, M0, K⟩ := X
  unfold zT_ald at h
  split at h
  · next heq =>
    intro ad H locs lsA hW ho hl
    exact lv_aload C.1 C.2.1 hd (zlv_get hl heq) (k C M ls _ h ad H locs lsA hW (ho.push (ho.2 _ _ heq)) hl)
  · next heq =>
    intro ad H locs lsA hW ho hl
    exact lv_aloadN C.1 C.2.1 hd (zlv_get hl heq) (k C M ls _ h ad H locs lsA hW (ho.push trivial) hl)
  · exact h.elim
theorem zs_istore_n {i : Fin 4} {j : Nat} (hd : decode cc pc = .ok (.istore_n i, 1)) (hi : (i : Nat) = j) (hn : j < nL) (k : zSd X own nm cc nL ret (pc + 1) P) : zSd X own nm cc nL ret pc (zT_ist j P) := by
  intro C M ls st h
  obtain ⟨p, l, e, R, s, m, args, below, meth, c, D, Y, ad0, M0, K⟩ := X
  unfold zT_ist at h
  split at h
  · exact h.elim
  · exact h.elim
  · next h1 h2 =>
    intro ad H locs lsA hW ho hl
    exact lv_istore_n C.1 C.2.1 hd hi hl hn rfl (fun ls' hl' => k C M _ _ h ad H locs ls' hW (ho.top.2.set trivial) (zlv_st1 (v := .int _) (fun x hx => (h1 x hx)) (fun x hx => (h2 x hx)) hl'))
  · exact h.elim
theorem zs_istore {j : Nat} (hd : decode cc pc = .ok (.istore j, 2)) (hn : j < nL) (k : zSd X own nm cc nL ret (pc + 2) P) : zSd X own nm cc nL ret pc (zT_ist j P) := by
  intro C M ls st h
  obtain ⟨p, l, e, R, s, m, args, below, meth, c, D, Y, ad0, M0, K⟩ := X
  unfold zT_ist at h
  split at h
  · exact h.elim
  · exact h.elim
  · next h1 h2 =>
    intro ad H locs lsA hW ho hl
    exact lv_istore C.1 C.2.1 hd hl hn rfl (fun ls' hl' => k C M _ _ h ad H locs ls' hW (ho.top.2.set trivial) (zlv_st1 (v := .int _) (fun x hx => (h1 x hx)) (fun x hx => (h2 x hx)) hl'))
  · exact h.elim
theorem zs_lstore_n {i : Fin 4} {j : Nat} (hd : decode cc pc = .ok (.lstore_n i, 1)) (hi : (i : Nat) = j) (hn : j + 1 < nL) (k : zSd X own nm cc nL ret (pc + 1) P) : zSd X own nm cc nL ret pc (zT_lst j P) := by
  intro C M ls st h
  obtain ⟨p, l, e, R, s, m, args, below, meth, c, D, Y, ad0, M0, K⟩ := X
  unfold zT_lst at h
  split at h
  · exact h.elim
  · exact h.elim
  · next h1 h2 =>
    intro ad H locs lsA hW ho hl
    exact lv_lstore_n C.1 C.2.1 hd hi hl hn rfl (fun ls' hl' => k C M _ _ h ad H locs ls' hW (zoL.clr (ho.top.2.set trivial)) (zlv_st2 (v := .long _) (fun x hx => (h1 x hx)) (fun x hx => (h2 x hx)) hl'))
  · exact h.elim
theorem zs_lstore {j : Nat} (hd : decode cc pc = .ok (.lstore j, 2)) (hn : j + 1 < nL) (k : zSd X own nm cc nL ret (pc + 2) P) : zSd X own nm cc nL ret pc (zT_lst j P) := by
  intro C M ls st h
  obtain ⟨p, l, e, R, s, m, args, below, meth, c, D, Y, ad0, M0, K⟩ := X
  unfold zT_lst at h
  split at h
  · exact h.elim
  · exact h.elim
  · next h1 h2 =>
    intro ad H locs lsA hW ho hl
    exact lv_lstore C.1 C.2.1 hd hl hn rfl (fun ls' hl' => k C M _ _ h ad H locs ls' hW (zoL.clr (ho.top.2.set trivial)) (zlv_st2 (v := .long _) (fun x hx => (h1 x hx)) (fun x hx => (h2 x hx)) hl'))
  · exact h.elim
theorem zs_astore_n {i : Fin 4} {j : Nat} (hd : decode cc pc = .ok (.astore_n i, 1)) (hi : (i : Nat) = j) (hn : j < nL) (k : zSd X own nm cc nL ret (pc + 1) P) : zSd X own nm cc nL ret pc (zT_ast j P) := by
  intro C M ls st h
  obtain ⟨p, l, e, R, s, m, args, below, meth, c, D, Y, ad0, M0, K⟩ := X
  unfold zT_ast at h
  split at h
  · exact h.elim
  · exact h.elim
  · next h1 h2 =>
    intro ad H locs lsA hW ho hl
    exact lv_astore_n C.1 C.2.1 hd hi hl hn rfl (fun ls' hl' => k C M _ _ h ad H locs ls' hW (ho.top.2.set ho.top.1) (zlv_st1 (v := .ref _) (fun x hx => (h1 x hx)) (fun x hx => (h2 x hx)) hl'))
  · next h1 h2 =>
    intro ad H locs lsA hW ho hl
    exact lv_astore_nN C.1 C.2.1 hd hi hl hn rfl (fun ls' hl' => k C M _ _ h ad H locs ls' hW (ho.top.2.set trivial) (zlv_st1 (v := .null) (fun x hx => (h1 x hx)) (fun x hx => (h2 x hx)) hl'))
  · exact h.elim
theorem zs_astore {j : Nat} (hd : decode cc pc = .ok (.astore j, 2)) (hn : j < nL) (k : zSd X own nm cc nL ret (pc + 2) P) : zSd X own nm cc nL ret pc (zT_ast j P) := by
  intro C M ls st h
  obtain ⟨p, l, e, R, s, m, args, below, meth, c, D, Y, ad0, M0, K⟩ := X
  unfold zT_ast at h
  split at h
  · exact h.elim
  · exact h.elim
  · next h1 h2 =>
    intro ad H locs lsA hW ho hl
    exact lv_astore C.1 C.2.1 hd hl hn rfl (fun ls' hl' => k C M _ _ h ad H locs ls' hW (ho.top.2.set ho.top.1) (zlv_st1 (v := .ref _) (fun x hx => (h1 x hx)) (fun x hx => (h2 x hx)) hl'))
  · next h1 h2 =>
    intro ad H locs lsA hW ho hl
    exact lv_astoreN C.1 C.2.1 hd hl hn rfl (fun ls' hl' => k C M _ _ h ad H locs ls' hW (ho.top.2.set trivial) (zlv_st1 (v := .null) (fun x hx => (h1 x hx)) (fun x hx => (h2 x hx)) hl'))
  · exact h.elim
theorem zs_iinc {j : Nat} {n : Int} {v : Int32} (hd : decode cc pc = .ok (.iinc j n, 3)) (hv : Int32.ofInt n = v) (hn : j < nL) (k : zSd X own nm cc nL ret (pc + 3) P) : zSd X own nm cc nL ret pc (zT_iinc j v P) := by
  intro C M ls st h
  obtain ⟨p, l, e, R, s, m, args, below, meth, c, D, Y, ad0, M0, K⟩ := X
  unfold zT_iinc at h
  split at h
  · exact h.elim
  · exact h.elim
  · next heq h1 h2 =>
    intro ad H locs lsA hW ho hl
    obtain ⟨q, hq⟩ := List.getElem?_of_mem (zlcv_mem.mpr ⟨j, _, heq, rfl⟩ : (0 + j, zcv ad (.int _)) ∈ zlcv ad 0 ls)
    rw [Nat.zero_add] at hq
    exact lv_iinc C.1 C.2.1 hd hl hq (by rw [hv]) hn rfl (fun ls' hl' => k C M _ _ h ad H locs ls' hW (ho.set trivial) (zlv_st1 (v := .int _) (fun x hx => (h1 x hx)) (fun x hx => (h2 x hx)) hl'))
  · exact h.elim
theorem zs_dup (hd : decode cc pc = .ok (.dup, 1)) (k : zSd X own nm cc nL ret (pc + 1) P) : zSd X own nm cc nL ret pc (zT_dup P) := by
  intro C M ls st h
  obtain ⟨p, l, e, R, s, m, args, below, meth, c, D, Y, ad0, M0, K⟩ := X
  unfold zT_dup at h
  split at h
  · intro ad H locs lsA hW ho hl
    exact lv_dup C.1 C.2.1 hd rfl (k C M ls _ h ad H locs lsA hW (ho.push ho.top.1) hl)
  · intro ad H locs lsA hW ho hl
    exact lv_dup C.1 C.2.1 hd rfl (k C M ls _ h ad H locs lsA hW (ho.push ho.top.1) hl)
  · exact h.elim
theorem zs_dup2 (hd : decode cc pc = .ok (.dup2, 1)) (k : zSd X own nm cc nL ret (pc + 1) P) : zSd X own nm cc nL ret pc (zT_dup2 P) := by
  intro C M ls st h
  obtain ⟨p, l, e, R, s, m, args, below, meth, c, D, Y, ad0, M0, K⟩ := X
  unfold zT_dup2 at h
  split at h
  · intro ad H locs lsA hW ho hl
    exact lv_dup2_11 C.1 C.2.1 hd rfl rfl (k C M ls _ h ad H locs lsA hW ((ho.push ho.top.2.top.1).push trivial) hl)
  · exact h.elim
theorem zs_pop (hd : decode cc pc = .ok (.pop, 1)) (k : zSd X own nm cc nL ret (pc + 1) P) : zSd X own nm cc nL ret pc (zT_pop P) := by
  intro C M ls st h
  obtain ⟨p, l, e, R, s, m, args, below, meth, c, D, Y, ad0, M0, K⟩ := X
  unfold zT_pop at h
  split at h
  · intro ad H locs lsA hW ho hl
    exact lv_pop C.1 C.2.1 hd rfl (k C M ls _ h ad H locs lsA hW ho.top.2 hl)
  · exact h.elim
theorem zs_goto {off : Int} {tgt : Nat} (hd : decode cc pc = .ok (.goto off, 3)) (ht : (pc : Int) + off = (tgt : Int)) (k : zSd X own nm cc nL ret tgt P) : zSd X own nm cc nL ret pc (P) := by
  intro C M ls st h
  obtain ⟨p, l, e, R, s, m, args, below, meth, c, D, Y, ad0, M0, K⟩ := X
  intro ad H locs lsA hW ho hl
  exact lv_goto C.1 C.2.1 hd ht (k C M ls _ h ad H locs lsA hW ho hl)
theorem zs_if_eq {off : Int} {tgt : Nat} (hd : decode cc pc = .ok (.ifCond .eq off, 3)) (ht : (pc : Int) + off = (tgt : Int)) (k : zSd X own nm cc nL ret tgt P) (k2 : zSd X own nm cc nL ret (pc + 3) P2) : zSd X own nm cc nL ret pc (zT_if1 (fun x => x = 0) P P2) := by
  intro C M ls st h
  obtain ⟨p, l, e, R, s, m, args, below, meth, c, D, Y, ad0, M0, K⟩ := X
  unfold zT_if1 at h
  split at h
  · intro ad H locs lsA hW ho hl
    exact lv_if_eq C.1 C.2.1 hd ht (fun q => k C M ls _ (h.1 q) ad H locs lsA hW ho.top.2 hl) (fun q => k2 C M ls _ (h.2 q) ad H locs lsA hW ho.top.2 hl)
  · exact h.elim
theorem zs_if_lt {off : Int} {tgt : Nat} (hd : decode cc pc = .ok (.ifCond .lt off, 3)) (ht : (pc : Int) + off = (tgt : Int)) (k : zSd X own nm cc nL ret tgt P) (k2 : zSd X own nm cc nL ret (pc + 3) P2) : zSd X own nm cc nL ret pc (zT_if1 (fun x => x < 0) P P2) := by
  intro C M ls st h
  obtain ⟨p, l, e, R, s, m, args, below, meth, c, D, Y, ad0, M0, K⟩ := X
  unfold zT_if1 at h
  split at h
  · intro ad H locs lsA hW ho hl
    exact lv_if_lt C.1 C.2.1 hd ht (fun q => k C M ls _ (h.1 q) ad H locs lsA hW ho.top.2 hl) (fun q => k2 C M ls _ (h.2 q) ad H locs lsA hW ho.top.2 hl)
  · exact h.elim
theorem zs_if_ge {off : Int} {tgt : Nat} (hd : decode cc pc = .ok (.ifCond .ge off, 3)) (ht : (pc : Int) + off = (tgt : Int)) (k : zSd X own nm cc nL ret tgt P) (k2 : zSd X own nm cc nL ret (pc + 3) P2) : zSd X own nm cc nL ret pc (zT_if1 (fun x => 0 ≤ x) P P2) := by
  intro C M ls st h
  obtain ⟨p, l, e, R, s, m, args, below, meth, c, D, Y, ad0, M0, K⟩ := X
  unfold zT_if1 at h
  split at h
  · intro ad H locs lsA hW ho hl
    exact lv_if_ge C.1 C.2.1 hd ht (fun q => k C M ls _ (h.1 q) ad H locs lsA hW ho.top.2 hl) (fun q => k2 C M ls _ (h.2 q) ad H locs lsA hW ho.top.2 hl)
  · exact h.elim
theorem zs_if_gt {off : Int} {tgt : Nat} (hd : decode cc pc = .ok (.ifCond .gt off, 3)) (ht : (pc : Int) + off = (tgt : Int)) (k : zSd X own nm cc nL ret tgt P) (k2 : zSd X own nm cc nL ret (pc + 3) P2) : zSd X own nm cc nL ret pc (zT_if1 (fun x => 0 < x) P P2) := by
  intro C M ls st h
  obtain ⟨p, l, e, R, s, m, args, below, meth, c, D, Y, ad0, M0, K⟩ := X
  unfold zT_if1 at h
  split at h
  · intro ad H locs lsA hW ho hl
    exact lv_if_gt C.1 C.2.1 hd ht (fun q => k C M ls _ (h.1 q) ad H locs lsA hW ho.top.2 hl) (fun q => k2 C M ls _ (h.2 q) ad H locs lsA hW ho.top.2 hl)
  · exact h.elim
theorem zs_if_le {off : Int} {tgt : Nat} (hd : decode cc pc = .ok (.ifCond .le off, 3)) (ht : (pc : Int) + off = (tgt : Int)) (k : zSd X own nm cc nL ret tgt P) (k2 : zSd X own nm cc nL ret (pc + 3) P2) : zSd X own nm cc nL ret pc (zT_if1 (fun x => x ≤ 0) P P2) := by
  intro C M ls st h
  obtain ⟨p, l, e, R, s, m, args, below, meth, c, D, Y, ad0, M0, K⟩ := X
  unfold zT_if1 at h
  split at h
  · intro ad H locs lsA hW ho hl
    exact lv_if_le C.1 C.2.1 hd ht (fun q => k C M ls _ (h.1 q) ad H locs lsA hW ho.top.2 hl) (fun q => k2 C M ls _ (h.2 q) ad H locs lsA hW ho.top.2 hl)
  · exact h.elim
theorem zs_icmp_eq {off : Int} {tgt : Nat} (hd : decode cc pc = .ok (.if_icmp .eq off, 3)) (ht : (pc : Int) + off = (tgt : Int)) (k : zSd X own nm cc nL ret tgt P) (k2 : zSd X own nm cc nL ret (pc + 3) P2) : zSd X own nm cc nL ret pc (zT_if2 (fun x y => x = y) P P2) := by
  intro C M ls st h
  obtain ⟨p, l, e, R, s, m, args, below, meth, c, D, Y, ad0, M0, K⟩ := X
  unfold zT_if2 at h
  split at h
  · intro ad H locs lsA hW ho hl
    exact lv_icmp_eq C.1 C.2.1 hd ht (fun q => k C M ls _ (h.1 q) ad H locs lsA hW ho.top.2.top.2 hl) (fun q => k2 C M ls _ (h.2 q) ad H locs lsA hW ho.top.2.top.2 hl)
  · exact h.elim
theorem zs_icmp_lt {off : Int} {tgt : Nat} (hd : decode cc pc = .ok (.if_icmp .lt off, 3)) (ht : (pc : Int) + off = (tgt : Int)) (k : zSd X own nm cc nL ret tgt P) (k2 : zSd X own nm cc nL ret (pc + 3) P2) : zSd X own nm cc nL ret pc (zT_if2 (fun x y => x < y) P P2) := by
  intro C M ls st h
  obtain ⟨p, l, e, R, s, m, args, below, meth, c, D, Y, ad0, M0, K⟩ := X
  unfold zT_if2 at h
  split at h
  · intro ad H locs lsA hW ho hl
    exact lv_icmp_lt C.1 C.2.1 hd ht (fun q => k C M ls _ (h.1 q) ad H locs lsA hW ho.top.2.top.2 hl) (fun q => k2 C M ls _ (h.2 q) ad H locs lsA hW ho.top.2.top.2 hl)
  · exact h.elim
theorem zs_icmp_ge {off : Int} {tgt : Nat} (hd : decode cc pc = .ok (.if_icmp .ge off, 3)) (ht : (pc : Int) + off = (tgt : Int)) (k : zSd X own nm cc nL ret tgt P) (k2 : zSd X own nm cc nL ret (pc + 3) P2) : zSd X own nm cc nL ret pc (zT_if2 (fun x y => y ≤ x) P P2) := by
  intro C M ls st h
  obtain ⟨p, l, e, R, s, m, args, below, meth, c, D, Y, ad0, M0, K⟩ := X
  unfold zT_if2 at h
  split at h
  · intro ad H locs lsA hW ho hl
    exact lv_icmp_ge C.1 C.2.1 hd ht (fun q => k C M ls _ (h.1 q) ad H locs lsA hW ho.top.2.top.2 hl) (fun q => k2 C M ls _ (h.2 q) ad H locs lsA hW ho.top.2.top.2 hl)
  · exact h.elim
theorem zs_icmp_gt {off : Int} {tgt : Nat} (hd : decode cc pc = .ok (.if_icmp .gt off, 3)) (ht : (pc : Int) + off = (tgt : Int)) (k : zSd X own nm cc nL ret tgt P) (k2 : zSd X own nm cc nL ret (pc + 3) P2) : zSd X own nm cc nL ret pc (zT_if2 (fun x y => y < x) P P2) := by
  intro C M ls st h
  obtain ⟨p, l, e, R, s, m, args, below, meth, c, D, Y, ad0, M0, K⟩ := X
  unfold zT_if2 at h
  split at h
  · intro ad H locs lsA hW ho hl
    exact lv_icmp_gt C.1 C.2.1 hd ht (fun q => k C M ls _ (h.1 q) ad H locs lsA hW ho.top.2.top.2 hl) (fun q => k2 C M ls _ (h.2 q) ad H locs lsA hW ho.top.2.top.2 hl)
  · exact h.elim
theorem zs_icmp_le {off : Int} {tgt : Nat} (hd : decode cc pc = .ok (.if_icmp .le off, 3)) (ht : (pc : Int) + off = (tgt : Int)) (k : zSd X own nm cc nL ret tgt P) (k2 : zSd X own nm cc nL ret (pc + 3) P2) : zSd X own nm cc nL ret pc (zT_if2 (fun x y => x ≤ y) P P2) := by
  intro C M ls st h
  obtain ⟨p, l, e, R, s, m, args, below, meth, c, D, Y, ad0, M0, K⟩ := X
  unfold zT_if2 at h
  split at h
  · intro ad H locs lsA hW ho hl
    exact lv_icmp_le C.1 C.2.1 hd ht (fun q => k C M ls _ (h.1 q) ad H locs lsA hW ho.top.2.top.2 hl) (fun q => k2 C M ls _ (h.2 q) ad H locs lsA hW ho.top.2.top.2 hl)
  · exact h.elim
theorem zs_if_ne {off : Int} {tgt : Nat} (hd : decode cc pc = .ok (.ifCond .ne off, 3)) (ht : (pc : Int) + off = (tgt : Int)) (k : zSd X own nm cc nL ret tgt P) (k2 : zSd X own nm cc nL ret (pc + 3) P2) : zSd X own nm cc nL ret pc (zT_if1 (fun x => x = 0) P2 P) := by
  intro C M ls st h
  obtain ⟨p, l, e, R, s, m, args, below, meth, c, D, Y, ad0, M0, K⟩ := X
  unfold zT_if1 at h
  split at h
  · intro ad H locs lsA hW ho hl
    exact lv_if_ne C.1 C.2.1 hd ht (fun q => k C M ls _ (h.2 q) ad H locs lsA hW ho.top.2 hl) (fun q => k2 C M ls _ (h.1 q) ad H locs lsA hW ho.top.2 hl)
  · exact h.elim
theorem zs_icmp_ne {off : Int} {tgt : Nat} (hd : decode cc pc = .ok (.if_icmp .ne off, 3)) (ht : (pc : Int) + off = (tgt : Int)) (k : zSd X own nm cc nL ret tgt P) (k2 : zSd X own nm cc nL ret (pc + 3) P2) : zSd X own nm cc nL ret pc (zT_if2 (fun x y => x = y) P2 P) := by
  intro C M ls st h
  obtain ⟨p, l, e, R, s, m, args, below, meth, c, D, Y, ad0, M0, K⟩ := X
  unfold zT_if2 at h
  split at h
  · intro ad H locs lsA hW ho hl
    exact lv_icmp_ne C.1 C.2.1 hd ht (fun q => k C M ls _ (h.2 q) ad H locs lsA hW ho.top.2.top.2 hl) (fun q => k2 C M ls _ (h.1 q) ad H locs lsA hW ho.top.2.top.2 hl)
  · exact h.elim
theorem zs_ifnull {off : Int} {tgt : Nat} (hd : decode cc pc = .ok (.ifnull off, 3)) (ht : (pc : Int) + off = (tgt : Int)) (k : zSd X own nm cc nL ret tgt P) (k2 : zSd X own nm cc nL ret (pc + 3) P2) : zSd X own nm cc nL ret pc (zT_ifn P P2) := by
  intro C M ls st h
  obtain ⟨p, l, e, R, s, m, args, below, meth, c, D, Y, ad0, M0, K⟩ := X
  unfold zT_ifn at h
  split at h
  · intro ad H locs lsA hW ho hl
    exact lv_ifnullN C.1 C.2.1 hd ht (k C M ls _ h ad H locs lsA hW ho.top.2 hl)
  · intro ad H locs lsA hW ho hl
    exact lv_ifnull C.1 C.2.1 hd (k2 C M ls _ h ad H locs lsA hW ho.top.2 hl)
  · exact h.elim
theorem zs_ifnonnull {off : Int} {tgt : Nat} (hd : decode cc pc = .ok (.ifnonnull off, 3)) (ht : (pc : Int) + off = (tgt : Int)) (k : zSd X own nm cc nL ret tgt P) (k2 : zSd X own nm cc nL ret (pc + 3) P2) : zSd X own nm cc nL ret pc (zT_ifn P2 P) := by
  intro C M ls st h
  obtain ⟨p, l, e, R, s, m, args, below, meth, c, D, Y, ad0, M0, K⟩ := X
  unfold zT_ifn at h
  split at h
  · intro ad H locs lsA hW ho hl
    exact lv_ifnonnullN C.1 C.2.1 hd (k2 C M ls _ h ad H locs lsA hW ho.top.2 hl)
  · intro ad H locs lsA hW ho hl
    exact lv_ifnonnull C.1 C.2.1 hd ht (k C M ls _ h ad H locs lsA hW ho.top.2 hl)
  · exact h.elim
/-- a table: the list of the targets of lo, lo + 1 .., and the default's -/
def zT_tab (lo : Int) (Ps : List zPP) (P : zPP) : zPP := fun M ls st => match st with
  | .int x :: r => (∀ (j : Nat) (Q : zPP), Ps[j]? = some Q → x.toInt = lo + j → Q M ls r) ∧ ((x.toInt < lo ∨ lo + (Ps.length : Int) ≤ x.toInt) → P M ls r)
  | _ => False
theorem zs_tab {dflt lo hi : Int} {offs : Array Int} {len tgt : Nat} {Ps : List zPP} {tgts : List Nat} (hd : decode cc pc = .ok (.tableswitch dflt lo hi offs, len)) (ht : (pc : Int) + dflt = (tgt : Int)) (hhi : hi + 1 = lo + (Ps.length : Int)) (hlen : tgts.length = Ps.length) (hoff : offs.toList.map (fun x => (pc : Int) + x) = tgts.map (fun t : Nat => (t : Int)))
    (ks : ∀ (j : Nat) (Q : zPP) (t : Nat), Ps[j]? = some Q → tgts[j]? = some t → zSd X own nm cc nL ret t Q) (k : zSd X own nm cc nL ret tgt P) : zSd X own nm cc nL ret pc (zT_tab lo Ps P) := by
  intro C M ls st h
  unfold zT_tab at h
  split at h
  · next x r =>
    by_cases hx : x.toInt < lo ∨ lo + (Ps.length : Int) ≤ x.toInt
    · have hk := k C M ls r (h.2 hx)
      obtain ⟨p, l, e, R, s, m, args, below, meth, c, D, Y, ad0, M0, K⟩ := X
      intro ad H locs lsA hW ho hl
      exact lv_tableOut C.1 C.2.1 hd (by omega) ht (hk ad H locs lsA hW ho.top.2 hl)
    · have hj : (x.toInt - lo).toNat < Ps.length := by omega
      obtain ⟨Q, hQ⟩ : ∃ Q, Ps[(x.toInt - lo).toNat]? = some Q := ⟨_, List.getElem?_eq_getElem hj⟩
      obtain ⟨t, htt⟩ : ∃ t, tgts[(x.toInt - lo).toNat]? = some t := ⟨_, List.getElem?_eq_getElem (by rw [hlen]; exact hj)⟩
      have hoj : (offs.toList.map (fun x => (pc : Int) + x))[(x.toInt - lo).toNat]? = some (t : Int) := by rw [hoff, List.getElem?_map, htt]; rfl
      rw [List.getElem?_map, Array.getElem?_toList] at hoj
      obtain ⟨off, ho1, ho2⟩ := Option.map_eq_some_iff.mp hoj
      have hk := ks _ Q t hQ htt C M ls r (h.1 _ Q hQ (by omega))
      obtain ⟨p, l, e, R, s, m, args, below, meth, c, D, Y, ad0, M0, K⟩ := X
      intro ad H locs lsA hW ho hl
      exact lv_tableIn C.1 C.2.1 hd (by omega) (by omega) ho1 ho2 (hk ad H locs lsA hW ho.top.2 hl)
  · exact h.elim
end ZR
end
section
/-! FIELDS AND ARRAYS of the abstract memory -/
theorem zwl_at {Y : Nat → ClassId} {ad : Nat → Nat} {M : zMm} {k : Nat} (h : k ∈ M.1) : ∃ q : Nat, M.1[q]? = some k ∧ (zwl Y ad M)[q]? = some (ad k, zen Y ad M k) := by
  obtain ⟨q, hq⟩ := List.getElem?_of_mem h
  exact ⟨q, hq, by rw [zwl, List.getElem?_map, hq]; rfl⟩
theorem zwl_set {Y : Nat → ClassId} {ad : Nat → Nat} {M M' : zMm} {k q : Nat} {e : va_E} (hL : M'.1 = M.1) (hn : M.1.Nodup) (hq : M.1[q]? = some k) (he : zen Y ad M' k = e) (ho : ∀ k', k' ≠ k → zen Y ad M' k' = zen Y ad M k') : (zwl Y ad M).set q (ad k, e) = zwl Y ad M' := by
  apply List.ext_getElem?
  intro i
  unfold zwl
  rw [hL]
  by_cases hi : i = q
  · subst hi
    rw [List.getElem?_set_self (by rw [List.length_map]; exact (List.getElem?_eq_some_iff.mp hq).1), List.getElem?_map, hq, ← he]
    rfl
  · rw [List.getElem?_set_ne (Ne.symm hi), List.getElem?_map, List.getElem?_map]
    cases hc : M.1[i]? with
    | none => rfl
    | some k' =>
      have : k' ≠ k := by
        intro e1
        subst e1
        obtain ⟨l1, g1⟩ := List.getElem?_eq_some_iff.mp hc
        obtain ⟨l2, g2⟩ := List.getElem?_eq_some_iff.mp hq
        have hpw := List.pairwise_iff_getElem.mp hn
        rcases Nat.lt_trichotomy i q with z | z | z
        · exact hpw i q l1 l2 z (g1.trans g2.symm)
        · exact hi z
        · exact hpw q i l2 l1 z (g2.trans g1.symm)
      simp only [Option.map_some]
      rw [ho k' this]
theorem zfl_get {ad : Nat → Nat} {M : zMm} {k c n j : Nat} (hj : j < n) : (zfl ad M k c n)[j]? = some (zfv ad M k j (zft c j)) := by
  unfold zfl
  rw [List.getElem?_map, List.getElem?_range hj]
  rfl
theorem zfl_len {ad : Nat → Nat} {M : zMm} {k c n : Nat} : (zfl ad M k c n).length = n := by simp [zfl]
theorem zfl_set {ad : Nat → Nat} {M M' : zMm} {k c n j : Nat} {v : Value} (hj : j < n) (hv : zfv ad M' k j (zft c j) = v) (ho : ∀ i, i ≠ j → zfv ad M' k i (zft c i) = zfv ad M k i (zft c i)) : (zfl ad M k c n).set j v = zfl ad M' k c n := by
  apply List.ext_getElem?
  intro i
  by_cases hi : i = j
  · subst hi
    rw [List.getElem?_set_self (by rw [zfl_len]; exact hj), zfl_get hj, hv]
  · rw [List.getElem?_set_ne (Ne.symm hi)]
    by_cases hn : i < n
    · rw [zfl_get hn, zfl_get hn, ho i hi]
    · rw [List.getElem?_eq_none (by rw [zfl_len]; omega), List.getElem?_eq_none (by rw [zfl_len]; omega)]
/-- the three ways to write: an int, a long, a reference -/
def zwI (M : zMm) (k j : Nat) (x : Int32) : zMm := (M.1, zw2 M.2.1 k j x, M.2.2.1, M.2.2.2)
def zwJ (M : zMm) (k j : Nat) (x : Int64) : zMm := (M.1, M.2.1, zw2 M.2.2.1 k j x, M.2.2.2)
def zwR (M : zMm) (k j : Nat) (x : Option Nat) : zMm := (M.1, M.2.1, M.2.2.1, zw2 M.2.2.2 k j x)
theorem zen_o {Y : Nat → ClassId} {ad : Nat → Nat} {M M' : zMm} {k : Nat} (h1 : M'.2.1 k = M.2.1 k) (h2 : M'.2.2.1 k = M.2.2.1 k) (h3 : M'.2.2.2 k = M.2.2.2 k) : zen Y ad M' k = zen Y ad M k := by
  unfold zen zfl zfv
  rw [h1, h2, h3]
theorem zen_I {Y : Nat → ClassId} {ad : Nat → Nat} {M : zMm} {k j k' : Nat} {x : Int32} (h : k' ≠ k) : zen Y ad (zwI M k j x) k' = zen Y ad M k' := zen_o (zw2_n h) rfl rfl
theorem zen_J {Y : Nat → ClassId} {ad : Nat → Nat} {M : zMm} {k j k' : Nat} {x : Int64} (h : k' ≠ k) : zen Y ad (zwJ M k j x) k' = zen Y ad M k' := zen_o rfl (zw2_n h) rfl
theorem zen_R {Y : Nat → ClassId} {ad : Nat → Nat} {M : zMm} {k j k' : Nat} {x : Option Nat} (h : k' ≠ k) : zen Y ad (zwR M k j x) k' = zen Y ad M k' := zen_o rfl rfl (zw2_n h)
theorem zen_obj {Y : Nat → ClassId} {ad : Nat → Nat} {M : zMm} {k c n : Nat} (h : zsh k = (5, c, n)) : zen Y ad M k = .inr (c, zfl ad M k c n) := by
  unfold zen
  rw [h]
  rfl
theorem zsh_eta {k a : Nat} (h : (zsh k).1 = a) : zsh k = (a, (zsh k).2.1, (zsh k).2.2) := by rw [← h]
theorem zen_0 {Y : Nat → ClassId} {ad : Nat → Nat} {M : zMm} {k : Nat} (h : (zsh k).1 = 0) : zen Y ad M k = .inl (Y 0, (zsh k).2.1, .inl (M.2.1 k)) := by
  unfold zen
  generalize zsh k = z at h ⊢
  obtain ⟨a, b, c⟩ := z
  cases h
  rfl
theorem zen_1 {Y : Nat → ClassId} {ad : Nat → Nat} {M : zMm} {k : Nat} (h : (zsh k).1 = 1) : zen Y ad M k = .inl (Y 1, (zsh k).2.1, .inl (M.2.1 k)) := by
  unfold zen
  generalize zsh k = z at h ⊢
  obtain ⟨a, b, c⟩ := z
  cases h
  rfl
theorem zen_2 {Y : Nat → ClassId} {ad : Nat → Nat} {M : zMm} {k : Nat} (h : (zsh k).1 = 2) : zen Y ad M k = .inl (Y 2, (zsh k).2.1, .inl (M.2.1 k)) := by
  unfold zen
  generalize zsh k = z at h ⊢
  obtain ⟨a, b, c⟩ := z
  cases h
  rfl
theorem zen_3 {Y : Nat → ClassId} {ad : Nat → Nat} {M : zMm} {k : Nat} (h : (zsh k).1 = 3) : zen Y ad M k = .inl (Y 3, (zsh k).2.1, .inr (.inl (M.2.2.1 k))) := by
  unfold zen
  generalize zsh k = z at h ⊢
  obtain ⟨a, b, c⟩ := z
  cases h
  rfl
theorem zen_4 {Y : Nat → ClassId} {ad : Nat → Nat} {M : zMm} {k : Nat} (h : (zsh k).1 = 4) : zen Y ad M k = .inl (Y 4, (zsh k).2.1, .inr (.inr (.inr (.inr fun i => (M.2.2.2 k i).map ad)))) := by
  unfold zen
  generalize zsh k = z at h ⊢
  obtain ⟨a, b, c⟩ := z
  cases h
  rfl
theorem zov_in {L : List Nat} {k : Nat} (h : zov L (.ref k)) (hk : (zsh k).1 < 9) : k ∈ L := by
  rcases h with h | h
  · exact h
  · exact absurd (zsh_lt1 hk) (Nat.not_lt.mpr h)
theorem zov_rf {M : zMm} (hO : zom M) {k : Nat} (hk : k ∈ M.1) (j : Nat) : zov M.1 (va_rf (M.2.2.2 k j)) := by
  cases h : M.2.2.2 k j with
  | none => trivial
  | some t => exact Or.inl (hO.2.2 k hk j t h)
theorem zWH.put {D : va_G} {Y : Nat → ClassId} {ad0 ad : Nat → Nat} {L0 : List Nat} {s : State} {R : Room} {M M' : zMm} {H H1 : Heap} {locs locs1 : List Loc} (h : zWH D Y ad0 L0 s R ad M H locs) (hL : M'.1 = M.1) (hO : zom M') (hP : va_P D vwCl (zwl Y ad M') H1) (hD : va_D (zAA ad0 L0 s.heap.size) (zwl Y ad M')) (hS : va_S (zAA ad0 L0 s.heap.size) s.heap H1 locs1) : zWH D Y ad0 L0 s R ad M' H1 locs1 :=
  ⟨hP, hD, hS, hO, by rw [hL]; exact h.2.2.2.2.1, h.2.2.2.2.2.1, by rw [hL]; exact h.2.2.2.2.2.2.1, by rw [hL]; exact h.2.2.2.2.2.2.2.1, by rw [hL]; exact h.2.2.2.2.2.2.2.2.1, by rw [hL]; exact h.2.2.2.2.2.2.2.2.2⟩
theorem zom_R {M : zMm} (h : zom M) {k j t : Nat} (ht : t ∈ M.1) : zom (zwR M k j (some t)) := by
  refine ⟨h.1, h.2.1, fun k' hk' j' t' h' => ?_⟩
  by_cases e : k' = k
  · subst e
    have h2 : va_up (M.2.2.2 k') j (some t) j' = some t' := by rw [← zw2_s]; exact h'
    unfold va_up at h2
    split at h2
    · cases h2; exact ht
    · exact h.2.2 k' hk' j' t' h2
  · have h2 : M.2.2.2 k' j' = some t' := by rw [← h']; exact (congrFun (zw2_n e) j').symm
    exact h.2.2 k' hk' j' t' h2
theorem zlt9 {k c n : Nat} (h : zsh k = (5, c, n)) : (zsh k).1 < 9 := by
  rw [h]
  show 5 < 9
  omega
theorem zlt9' {k t : Nat} (h : (zsh k).1 = t) (ht : t < 9) : (zsh k).1 < 9 := by omega
section ZH
variable {X : zCt} {own nm : String} {cc : ByteArray} {nL : Nat} {ret : Option FieldType} {pc : Nat} {P : zPP}
def zT_getI (ci j n : Nat) (P : zPP) : zPP := fun M ls st => match st with
  | .ref k :: r => zsh k = (5, ci, n) ∧ P M ls (.int (M.2.1 k j) :: r)
  | _ => False
def zT_getJ (ci j n : Nat) (P : zPP) : zPP := fun M ls st => match st with
  | .ref k :: r => zsh k = (5, ci, n) ∧ P M ls (.long (M.2.2.1 k j) :: r)
  | _ => False
def zT_getR (ci j n : Nat) (P : zPP) : zPP := fun M ls st => match st with
  | .ref k :: r => zsh k = (5, ci, n) ∧ P M ls (va_rf (M.2.2.2 k j) :: r)
  | _ => False
def zT_putI (ci j n : Nat) (P : zPP) : zPP := fun M ls st => match st with
  | .int x :: .ref k :: r => zsh k = (5, ci, n) ∧ P (zwI M k j x) ls r
  | _ => False
def zT_putZ (ci j n : Nat) (P : zPP) : zPP := fun M ls st => match st with
  | .int x :: .ref k :: r => zsh k = (5, ci, n) ∧ (x = 0 ∨ x = 1) ∧ P (zwI M k j x) ls r
  | _ => False
def zT_putJ (ci j n : Nat) (P : zPP) : zPP := fun M ls st => match st with
  | .long x :: .ref k :: r => zsh k = (5, ci, n) ∧ P (zwJ M k j x) ls r
  | _ => False
def zT_putR (ci j n : Nat) (P : zPP) : zPP := fun M ls st => match st with
  | .ref t :: .ref k :: r => zsh k = (5, ci, n) ∧ t < 2000 ∧ P (zwR M k j (some t)) ls r
  | _ => False
theorem zs_getI {ci j n idx : Nat} {Cn : String} {T : u_T} (hc : vwCl[ci]? = some (Cn, T, n)) (hin : ∀ w ∈ u_ws Cn T n, w ∈ gT) (hj : j < n) (hlk : Cond.fieldLink own idx (T j).1 (T j).2.1 (T j).2.2.1 ∈ gT) (ht : zft ci j = 0) (hd : decode cc pc = .ok (.getfield idx, 3)) (k : zSd X own nm cc nL ret (pc + 3) P) : zSd X own nm cc nL ret pc (zT_getI ci j n P) := by
  intro C M ls st h
  obtain ⟨p, l, e, R, s, m, args, below, meth, c, D, Y, ad0, M0, K⟩ := X
  unfold zT_getI at h
  split at h
  · next kk r =>
    intro ad H locs lsA hW ho hl
    obtain ⟨q, hq, hw⟩ := zwl_at (Y := Y) (ad := ad) (zov_in ho.top.1 (zlt9 h.1))
    rw [zen_obj h.1] at hw
    exact va_get (ref := (T j).1) C.1 C.2.1 C.2.2.2.2.2.1 hin C.2.2.2.2.1 C.2.2.2.2.2.2.2.1 hW.1 q hw hc j hj (C.2.2.2.2.2.1 _ hlk) (fun _ h9 => h9) (by rw [zfl_get hj, ht]; rfl) hd (k C M ls _ h.2 ad H locs lsA hW (ho.top.2.push trivial) hl)
  · exact h.elim
theorem zs_getJ {ci j n idx : Nat} {Cn : String} {T : u_T} (hc : vwCl[ci]? = some (Cn, T, n)) (hin : ∀ w ∈ u_ws Cn T n, w ∈ gT) (hj : j < n) (hlk : Cond.fieldLink own idx (T j).1 (T j).2.1 (T j).2.2.1 ∈ gT) (ht : zft ci j = 1) (hd : decode cc pc = .ok (.getfield idx, 3)) (k : zSd X own nm cc nL ret (pc + 3) P) : zSd X own nm cc nL ret pc (zT_getJ ci j n P) := by
  intro C M ls st h
  obtain ⟨p, l, e, R, s, m, args, below, meth, c, D, Y, ad0, M0, K⟩ := X
  unfold zT_getJ at h
  split at h
  · next kk r =>
    intro ad H locs lsA hW ho hl
    obtain ⟨q, hq, hw⟩ := zwl_at (Y := Y) (ad := ad) (zov_in ho.top.1 (zlt9 h.1))
    rw [zen_obj h.1] at hw
    exact va_get (ref := (T j).1) C.1 C.2.1 C.2.2.2.2.2.1 hin C.2.2.2.2.1 C.2.2.2.2.2.2.2.1 hW.1 q hw hc j hj (C.2.2.2.2.2.1 _ hlk) (fun _ h9 => h9) (by rw [zfl_get hj, ht]; rfl) hd (k C M ls _ h.2 ad H locs lsA hW (ho.top.2.push trivial) hl)
  · exact h.elim
theorem zs_getR {ci j n idx : Nat} {Cn : String} {T : u_T} (hc : vwCl[ci]? = some (Cn, T, n)) (hin : ∀ w ∈ u_ws Cn T n, w ∈ gT) (hj : j < n) (hlk : Cond.fieldLink own idx (T j).1 (T j).2.1 (T j).2.2.1 ∈ gT) (ht : zft ci j = 2) (hd : decode cc pc = .ok (.getfield idx, 3)) (k : zSd X own nm cc nL ret (pc + 3) P) : zSd X own nm cc nL ret pc (zT_getR ci j n P) := by
  intro C M ls st h
  obtain ⟨p, l, e, R, s, m, args, below, meth, c, D, Y, ad0, M0, K⟩ := X
  unfold zT_getR at h
  split at h
  · next kk r =>
    intro ad H locs lsA hW ho hl
    have hkL := zov_in ho.top.1 (zlt9 h.1)
    obtain ⟨q, hq, hw⟩ := zwl_at (Y := Y) (ad := ad) hkL
    rw [zen_obj h.1] at hw
    have hG := k C M ls _ h.2 ad H locs lsA hW (ho.top.2.push (zov_rf hW.2.2.2.1 hkL j)) hl
    rw [List.map_cons, zcv_rf] at hG
    exact va_get (ref := (T j).1) C.1 C.2.1 C.2.2.2.2.2.1 hin C.2.2.2.2.1 C.2.2.2.2.2.2.2.1 hW.1 q hw hc j hj (C.2.2.2.2.2.1 _ hlk) (fun _ h9 => h9) (by rw [zfl_get hj, ht]; rfl) hd hG
  · exact h.elim
/-- a store into a field of the memory, of any sort -/
theorem zput {ci j n idx : Nat} {Cn : String} {T : u_T} {ty0 : Nat → FieldType} (hc : vwCl[ci]? = some (Cn, T, n)) (hin : ∀ w ∈ u_ws Cn T n, w ∈ gT) (hty : ∀ k, k < n → parseFieldDescriptor (T k).2.2.1 = some (ty0 k)) (hnm : ∀ a, a < n → ∀ b, b < n → a ≠ b → (T a).2.1 ≠ (T b).2.1) (hj : j < n) (hlk : Cond.fieldLink own idx (T j).1 (T j).2.1 (T j).2.2.1 ∈ gT) (hfin : (T j).2.2.2 = false ∨ ((T j).2.2.2 = true ∧ nm = "<init>" ∧ (T j).1 = own)) (hd : decode cc pc = .ok (.putfield idx, 3))
    {p : Program} {l : Launch} {e : Env} {R : Room} {s : State} {m : MethodId} {args : Array Value} {below : List Frame} {meth : Method} {c : Code} {D : va_G} {Y : Nat → ClassId} {ad0 : Nat → Nat} {M0 : zMm} {K : zKt} (C : zCX (p, l, e, R, s, m, args, below, meth, c, D, Y, ad0, M0, K) own nm cc nL ret)
    {M M' : zMm} {kk : Nat} {ad : Nat → Nat} {H : Heap} {locs : List Loc} {lsA : Array Slot} {st : List Value} {v : Value} {cells slots : Nat} {Q : State → Prop} (hsh : zsh kk = (5, ci, n)) (hkL : kk ∈ M.1) (hW : zWH D Y ad0 M0.1 s R ad M H locs) (hn : narrow (ty0 j) v = v) (hf : fits (ty0 j) v = true) (hL : M'.1 = M.1) (hO : zom M') (hv : zfv ad M' kk j (zft ci j) = v) (ho1 : ∀ i, i ≠ j → zfv ad M' kk i (zft ci i) = zfv ad M kk i (zft ci i)) (ho2 : ∀ k', k' ≠ kk → zen Y ad M' k' = zen Y ad M k')
    (kont : ∀ (H1 : Heap) (locs1 : List Loc), zWH D Y ad0 M0.1 s R ad M' H1 locs1 → W p l e R s m args below meth c H1 locs1 cells slots Q (F0 m (pc + 3) lsA st)) : W p l e R s m args below meth c H locs cells slots Q (F0 m pc lsA (v :: .ref (ad kk) :: st)) := by
  obtain ⟨q, hq, hw⟩ := zwl_at (Y := Y) (ad := ad) hkL
  rw [zen_obj hsh] at hw
  have key : ∀ (H1 : Heap) (locs1 : List Loc), va_P D vwCl ((zwl Y ad M).set q (ad kk, .inr (ci, (zfl ad M kk ci n).set j v))) H1 → va_D (zAA ad0 M0.1 s.heap.size) ((zwl Y ad M).set q (ad kk, .inr (ci, (zfl ad M kk ci n).set j v))) → va_S (zAA ad0 M0.1 s.heap.size) s.heap H1 locs1 → W p l e R s m args below meth c H1 locs1 cells slots Q (F0 m (pc + 3) lsA st) := by
    intro H1 locs1 h1 h2 h3
    have e1 : (zwl Y ad M).set q (ad kk, .inr (ci, (zfl ad M kk ci n).set j v)) = zwl Y ad M' := zwl_set hL hW.2.2.2.1.1 hq (by rw [zen_obj hsh, zfl_set hj hv ho1]) ho2
    rw [e1] at h1 h2
    exact kont H1 locs1 (hW.put hL hO h1 h2 h3)
  rcases hfin with hfin | ⟨hfin, hini, hown⟩
  · exact va_put (ref := (T j).1) C.1 C.2.1 C.2.2.2.2.2.1 hin ty0 hty hnm C.2.2.2.2.1 C.2.2.2.2.2.2.2.1 hW.1 hW.2.1 hW.2.2.1 q hw hc j hj (C.2.2.2.2.2.1 _ hlk) (fun _ h9 => h9) hfin (hty j hj) hn hf (by rw [zfl_len]; exact hj) hd key
  · exact va_putF (ref := (T j).1) C.1 C.2.1 C.2.2.2.2.2.1 hin ty0 hty hnm C.2.2.2.2.1 C.2.2.2.2.2.2.2.1 hW.1 hW.2.1 hW.2.2.1 q hw hc j hj (C.2.2.2.2.2.1 _ hlk) (fun _ h9 => h9) hfin (C.2.2.2.2.2.2.2.2.2.trans hini) hown (hty j hj) hn hf (by rw [zfl_len]; exact hj) hd key
theorem zup_n {α : Type} {f : Nat → α} {i j : Nat} {v : α} (h : i ≠ j) : va_up f j v i = f i := by simp [va_up, h]
theorem zup_s {α : Type} {f : Nat → α} {j : Nat} {v : α} : va_up f j v j = v := by simp [va_up]
theorem zfv_I {ad : Nat → Nat} {M : zMm} {k i j t : Nat} {x : Int32} (h : i ≠ j) : zfv ad (zwI M k j x) k i t = zfv ad M k i t := by
  unfold zfv zwI
  simp only [zw2_s, zup_n h]
theorem zfv_J {ad : Nat → Nat} {M : zMm} {k i j t : Nat} {x : Int64} (h : i ≠ j) : zfv ad (zwJ M k j x) k i t = zfv ad M k i t := by
  unfold zfv zwJ
  simp only [zw2_s, zup_n h]
theorem zfv_R {ad : Nat → Nat} {M : zMm} {k i j t : Nat} {x : Option Nat} (h : i ≠ j) : zfv ad (zwR M k j x) k i t = zfv ad M k i t := by
  unfold zfv zwR
  simp only [zw2_s, zup_n h]
theorem zs_putI {ci j n idx : Nat} {Cn : String} {T : u_T} {ty0 : Nat → FieldType} (hc : vwCl[ci]? = some (Cn, T, n)) (hin : ∀ w ∈ u_ws Cn T n, w ∈ gT) (hty : ∀ k, k < n → parseFieldDescriptor (T k).2.2.1 = some (ty0 k)) (hnm : ∀ a, a < n → ∀ b, b < n → a ≠ b → (T a).2.1 ≠ (T b).2.1) (hj : j < n) (hlk : Cond.fieldLink own idx (T j).1 (T j).2.1 (T j).2.2.1 ∈ gT) (hfin : (T j).2.2.2 = false) (ht0 : ty0 j = .int) (ht : zft ci j = 0) (hd : decode cc pc = .ok (.putfield idx, 3)) (k : zSd X own nm cc nL ret (pc + 3) P) : zSd X own nm cc nL ret pc (zT_putI ci j n P) := by
  intro C M ls st h
  obtain ⟨p, l, e, R, s, m, args, below, meth, c, D, Y, ad0, M0, K⟩ := X
  unfold zT_putI at h
  split at h
  · next x kk r =>
    intro ad H locs lsA hW ho hl
    exact zput hc hin hty hnm hj hlk (Or.inl hfin) hd C (M' := zwI M kk j x) h.1 (zov_in ho.top.2.top.1 (zlt9 h.1)) hW (by rw [ht0]; rfl) (by rw [ht0]; rfl) rfl hW.2.2.2.1 (by rw [ht]; show Value.int (zw2 M.2.1 kk j x kk j) = _; rw [zw2_s, zup_s]; rfl) (fun i hi => zfv_I hi) (fun k' hk' => zen_I hk') (fun H1 locs1 hW1 => k C _ ls _ h.2 ad H1 locs1 lsA hW1 ho.top.2.top.2 hl)
  · exact h.elim
theorem zs_putZ {ci j n idx : Nat} {Cn : String} {T : u_T} {ty0 : Nat → FieldType} (hc : vwCl[ci]? = some (Cn, T, n)) (hin : ∀ w ∈ u_ws Cn T n, w ∈ gT) (hty : ∀ k, k < n → parseFieldDescriptor (T k).2.2.1 = some (ty0 k)) (hnm : ∀ a, a < n → ∀ b, b < n → a ≠ b → (T a).2.1 ≠ (T b).2.1) (hj : j < n) (hlk : Cond.fieldLink own idx (T j).1 (T j).2.1 (T j).2.2.1 ∈ gT) (hfin : (T j).2.2.2 = false) (ht0 : ty0 j = .boolean) (ht : zft ci j = 0) (hd : decode cc pc = .ok (.putfield idx, 3)) (k : zSd X own nm cc nL ret (pc + 3) P) : zSd X own nm cc nL ret pc (zT_putZ ci j n P) := by
  intro C M ls st h
  obtain ⟨p, l, e, R, s, m, args, below, meth, c, D, Y, ad0, M0, K⟩ := X
  unfold zT_putZ at h
  split at h
  · next x kk r =>
    intro ad H locs lsA hW ho hl
    exact zput hc hin hty hnm hj hlk (Or.inl hfin) hd C (M' := zwI M kk j x) h.1 (zov_in ho.top.2.top.1 (zlt9 h.1)) hW (by rw [ht0]; rcases h.2.1 with rfl | rfl <;> rfl) (by rw [ht0]; rcases h.2.1 with rfl | rfl <;> rfl) rfl hW.2.2.2.1 (by rw [ht]; show Value.int (zw2 M.2.1 kk j x kk j) = _; rw [zw2_s, zup_s]; rfl) (fun i hi => zfv_I hi) (fun k' hk' => zen_I hk') (fun H1 locs1 hW1 => k C _ ls _ h.2.2 ad H1 locs1 lsA hW1 ho.top.2.top.2 hl)
  · exact h.elim
theorem zs_putJ {ci j n idx : Nat} {Cn : String} {T : u_T} {ty0 : Nat → FieldType} (hc : vwCl[ci]? = some (Cn, T, n)) (hin : ∀ w ∈ u_ws Cn T n, w ∈ gT) (hty : ∀ k, k < n → parseFieldDescriptor (T k).2.2.1 = some (ty0 k)) (hnm : ∀ a, a < n → ∀ b, b < n → a ≠ b → (T a).2.1 ≠ (T b).2.1) (hj : j < n) (hlk : Cond.fieldLink own idx (T j).1 (T j).2.1 (T j).2.2.1 ∈ gT) (hfin : (T j).2.2.2 = false) (ht0 : ty0 j = .long) (ht : zft ci j = 1) (hd : decode cc pc = .ok (.putfield idx, 3)) (k : zSd X own nm cc nL ret (pc + 3) P) : zSd X own nm cc nL ret pc (zT_putJ ci j n P) := by
  intro C M ls st h
  obtain ⟨p, l, e, R, s, m, args, below, meth, c, D, Y, ad0, M0, K⟩ := X
  unfold zT_putJ at h
  split at h
  · next x kk r =>
    intro ad H locs lsA hW ho hl
    exact zput hc hin hty hnm hj hlk (Or.inl hfin) hd C (M' := zwJ M kk j x) h.1 (zov_in ho.top.2.top.1 (zlt9 h.1)) hW (by rw [ht0]; rfl) (by rw [ht0]; rfl) rfl hW.2.2.2.1 (by rw [ht]; show Value.long (zw2 M.2.2.1 kk j x kk j) = _; rw [zw2_s, zup_s]; rfl) (fun i hi => zfv_J hi) (fun k' hk' => zen_J hk') (fun H1 locs1 hW1 => k C _ ls _ h.2 ad H1 locs1 lsA hW1 ho.top.2.top.2 hl)
  · exact h.elim
theorem zs_putR {ci j n idx : Nat} {Cn : String} {T : u_T} {ty0 : Nat → FieldType} (hc : vwCl[ci]? = some (Cn, T, n)) (hin : ∀ w ∈ u_ws Cn T n, w ∈ gT) (hty : ∀ k, k < n → parseFieldDescriptor (T k).2.2.1 = some (ty0 k)) (hnm : ∀ a, a < n → ∀ b, b < n → a ≠ b → (T a).2.1 ≠ (T b).2.1) (hj : j < n) (hlk : Cond.fieldLink own idx (T j).1 (T j).2.1 (T j).2.2.1 ∈ gT) (hfin : (T j).2.2.2 = false ∨ ((T j).2.2.2 = true ∧ nm = "<init>" ∧ (T j).1 = own)) (ht0 : ∀ a, narrow (ty0 j) (.ref a) = .ref a ∧ fits (ty0 j) (.ref a) = true) (ht : zft ci j = 2) (hd : decode cc pc = .ok (.putfield idx, 3)) (k : zSd X own nm cc nL ret (pc + 3) P) : zSd X own nm cc nL ret pc (zT_putR ci j n P) := by
  intro C M ls st h
  obtain ⟨p, l, e, R, s, m, args, below, meth, c, D, Y, ad0, M0, K⟩ := X
  unfold zT_putR at h
  split at h
  · next t kk r =>
    intro ad H locs lsA hW ho hl
    have htL : t ∈ M.1 := by
      rcases ho.top.1 with q | q
      · exact q
      · exact absurd h.2.1 (Nat.not_lt.mpr q)
    exact zput hc hin hty hnm hj hlk hfin hd C (M' := zwR M kk j (some t)) h.1 (zov_in ho.top.2.top.1 (zlt9 h.1)) hW (ht0 (ad t)).1 (ht0 (ad t)).2 rfl (zom_R hW.2.2.2.1 htL) (by rw [ht]; show va_rf ((zw2 M.2.2.2 kk j (some t) kk j).map ad) = _; rw [zw2_s, zup_s]; rfl) (fun i hi => zfv_R hi) (fun k' hk' => zen_R hk') (fun H1 locs1 hW1 => k C _ ls _ h.2.2 ad H1 locs1 lsA hW1 ho.top.2.top.2 hl)
  · exact h.elim
/-! arrays -/
def zT_ald0 (tag : Nat) (P : zPP) : zPP := fun M ls st => match st with
  | .int i :: .ref k :: r => (zsh k).1 = tag ∧ vp_in i (zsh k).2.1 ∧ P M ls (.int (M.2.1 k i.toNatClampNeg) :: r)
  | _ => False
def zT_lald (P : zPP) : zPP := fun M ls st => match st with
  | .int i :: .ref k :: r => (zsh k).1 = 3 ∧ vp_in i (zsh k).2.1 ∧ P M ls (.long (M.2.2.1 k i.toNatClampNeg) :: r)
  | _ => False
def zT_aald (P : zPP) : zPP := fun M ls st => match st with
  | .int i :: .ref k :: r => (zsh k).1 = 4 ∧ vp_in i (zsh k).2.1 ∧ P M ls (va_rf (M.2.2.2 k i.toNatClampNeg) :: r)
  | _ => False
def zT_iast (P : zPP) : zPP := fun M ls st => match st with
  | .int x :: .int i :: .ref k :: r => (zsh k).1 = 0 ∧ vp_in i (zsh k).2.1 ∧ P (zwI M k i.toNatClampNeg x) ls r
  | _ => False
def zT_zast (P : zPP) : zPP := fun M ls st => match st with
  | .int x :: .int i :: .ref k :: r => (zsh k).1 = 1 ∧ vp_in i (zsh k).2.1 ∧ (x = 0 ∨ x = 1) ∧ P (zwI M k i.toNatClampNeg x) ls r
  | _ => False
def zT_bast (P : zPP) : zPP := fun M ls st => match st with
  | .int x :: .int i :: .ref k :: r => (zsh k).1 = 2 ∧ vp_in i (zsh k).2.1 ∧ P (zwI M k i.toNatClampNeg x.toInt8.toInt32) ls r
  | _ => False
def zT_last (P : zPP) : zPP := fun M ls st => match st with
  | .long x :: .int i :: .ref k :: r => (zsh k).1 = 3 ∧ vp_in i (zsh k).2.1 ∧ P (zwJ M k i.toNatClampNeg x) ls r
  | _ => False
def zT_aast (P : zPP) : zPP := fun M ls st => match st with
  | .ref t :: .int i :: .ref k :: r => (zsh k).1 = 4 ∧ vp_in i (zsh k).2.1 ∧ zsh t = (5, 6, 2) ∧ P (zwR M k i.toNatClampNeg (some t)) ls r
  | _ => False
theorem zs_iald (hd : decode cc pc = .ok (.iaload, 1)) (k : zSd X own nm cc nL ret (pc + 1) P) : zSd X own nm cc nL ret pc (zT_ald0 0 P) := by
  intro C M ls st h
  obtain ⟨p, l, e, R, s, m, args, below, meth, c, D, Y, ad0, M0, K⟩ := X
  unfold zT_ald0 at h
  split at h
  · next i kk r =>
    intro ad H locs lsA hW ho hl
    obtain ⟨q, hq, hw⟩ := zwl_at (Y := Y) (ad := ad) (zov_in ho.top.2.top.1 (zlt9' h.1 (by decide)))
    rw [zen_0 h.1] at hw
    exact va_iald C.1 C.2.1 C.2.2.2.2.2.2.2.1 hW.1 q 0 hw rfl h.2.1 hd (k C M ls _ h.2.2 ad H locs lsA hW (ho.top.2.top.2.push trivial) hl)
  · exact h.elim
theorem zs_zald (hd : decode cc pc = .ok (.baload, 1)) (k : zSd X own nm cc nL ret (pc + 1) P) : zSd X own nm cc nL ret pc (zT_ald0 1 P) := by
  intro C M ls st h
  obtain ⟨p, l, e, R, s, m, args, below, meth, c, D, Y, ad0, M0, K⟩ := X
  unfold zT_ald0 at h
  split at h
  · next i kk r =>
    intro ad H locs lsA hW ho hl
    obtain ⟨q, hq, hw⟩ := zwl_at (Y := Y) (ad := ad) (zov_in ho.top.2.top.1 (zlt9' h.1 (by decide)))
    rw [zen_1 h.1] at hw
    exact va_zald C.1 C.2.1 C.2.2.2.2.2.2.2.1 hW.1 q 1 hw rfl h.2.1 hd (k C M ls _ h.2.2 ad H locs lsA hW (ho.top.2.top.2.push trivial) hl)
  · exact h.elim
theorem zs_bald (hd : decode cc pc = .ok (.baload, 1)) (k : zSd X own nm cc nL ret (pc + 1) P) : zSd X own nm cc nL ret pc (zT_ald0 2 P) := by
  intro C M ls st h
  obtain ⟨p, l, e, R, s, m, args, below, meth, c, D, Y, ad0, M0, K⟩ := X
  unfold zT_ald0 at h
  split at h
  · next i kk r =>
    intro ad H locs lsA hW ho hl
    obtain ⟨q, hq, hw⟩ := zwl_at (Y := Y) (ad := ad) (zov_in ho.top.2.top.1 (zlt9' h.1 (by decide)))
    rw [zen_2 h.1] at hw
    exact va_bald C.1 C.2.1 C.2.2.2.2.2.2.2.1 hW.1 q 2 hw rfl h.2.1 hd (k C M ls _ h.2.2 ad H locs lsA hW (ho.top.2.top.2.push trivial) hl)
  · exact h.elim
theorem zs_lald (hd : decode cc pc = .ok (.laload, 1)) (k : zSd X own nm cc nL ret (pc + 1) P) : zSd X own nm cc nL ret pc (zT_lald P) := by
  intro C M ls st h
  obtain ⟨p, l, e, R, s, m, args, below, meth, c, D, Y, ad0, M0, K⟩ := X
  unfold zT_lald at h
  split at h
  · next i kk r =>
    intro ad H locs lsA hW ho hl
    obtain ⟨q, hq, hw⟩ := zwl_at (Y := Y) (ad := ad) (zov_in ho.top.2.top.1 (zlt9' h.1 (by decide)))
    rw [zen_3 h.1] at hw
    exact va_lald C.1 C.2.1 C.2.2.2.2.2.2.2.1 hW.1 q 3 hw rfl h.2.1 hd (k C M ls _ h.2.2 ad H locs lsA hW (ho.top.2.top.2.push trivial) hl)
  · exact h.elim
theorem zs_aald (hd : decode cc pc = .ok (.aaload, 1)) (k : zSd X own nm cc nL ret (pc + 1) P) : zSd X own nm cc nL ret pc (zT_aald P) := by
  intro C M ls st h
  obtain ⟨p, l, e, R, s, m, args, below, meth, c, D, Y, ad0, M0, K⟩ := X
  unfold zT_aald at h
  split at h
  · next i kk r =>
    intro ad H locs lsA hW ho hl
    have hkL := zov_in ho.top.2.top.1 (zlt9' h.1 (by decide))
    obtain ⟨q, hq, hw⟩ := zwl_at (Y := Y) (ad := ad) hkL
    rw [zen_4 h.1] at hw
    have hG := k C M ls _ h.2.2 ad H locs lsA hW (ho.top.2.top.2.push (zov_rf hW.2.2.2.1 hkL _)) hl
    rw [List.map_cons, zcv_rf] at hG
    exact va_aldq C.1 C.2.1 C.2.2.2.2.2.2.2.1 hW.1 q 4 hw rfl h.2.1 hd hG
  · exact h.elim
theorem zs_iast (hd : decode cc pc = .ok (.iastore, 1)) (k : zSd X own nm cc nL ret (pc + 1) P) : zSd X own nm cc nL ret pc (zT_iast P) := by
  intro C M ls st h
  obtain ⟨p, l, e, R, s, m, args, below, meth, c, D, Y, ad0, M0, K⟩ := X
  unfold zT_iast at h
  split at h
  · next x i kk r =>
    intro ad H locs lsA hW ho hl
    obtain ⟨q, hq, hw⟩ := zwl_at (Y := Y) (ad := ad) (zov_in ho.top.2.top.2.top.1 (zlt9' h.1 (by decide)))
    rw [zen_0 h.1] at hw
    refine va_iast C.1 C.2.1 C.2.2.2.2.2.2.2.1 hW.1 hW.2.1 hW.2.2.1 q 0 hw rfl h.2.1 hd (fun H1 locs1 h1 h2 h3 => ?_)
    have e1 : (zwl Y ad M).set q (ad kk, .inl (Y 0, (zsh kk).2.1, .inl (upd (M.2.1 kk) i.toNatClampNeg x))) = zwl Y ad (zwI M kk i.toNatClampNeg x) := zwl_set rfl hW.2.2.2.1.1 hq (by rw [zen_0 h.1]; show Sum.inl (Y 0, (zsh kk).2.1, Sum.inl (zw2 M.2.1 kk i.toNatClampNeg x kk)) = _; rw [zw2_s]; rfl) (fun k' hk' => zen_I hk')
    rw [e1] at h1 h2
    exact k C _ ls _ h.2.2 ad H1 locs1 lsA (hW.put rfl hW.2.2.2.1 h1 h2 h3) ho.top.2.top.2.top.2 hl
  · exact h.elim
theorem znarZ {x : Int32} (h : x = 0 ∨ x = 1) : vp_nar .boolean x = x := by rcases h with rfl | rfl <;> rfl
theorem zs_zast (hd : decode cc pc = .ok (.bastore, 1)) (k : zSd X own nm cc nL ret (pc + 1) P) : zSd X own nm cc nL ret pc (zT_zast P) := by
  intro C M ls st h
  obtain ⟨p, l, e, R, s, m, args, below, meth, c, D, Y, ad0, M0, K⟩ := X
  unfold zT_zast at h
  split at h
  · next x i kk r =>
    intro ad H locs lsA hW ho hl
    obtain ⟨q, hq, hw⟩ := zwl_at (Y := Y) (ad := ad) (zov_in ho.top.2.top.2.top.1 (zlt9' h.1 (by decide)))
    rw [zen_1 h.1] at hw
    refine va_zast C.1 C.2.1 C.2.2.2.2.2.2.2.1 hW.1 hW.2.1 hW.2.2.1 q 1 hw rfl h.2.1 hd (fun H1 locs1 h1 h2 h3 => ?_)
    have e1 : (zwl Y ad M).set q (ad kk, .inl (Y 1, (zsh kk).2.1, .inl (upd (M.2.1 kk) i.toNatClampNeg (vp_nar .boolean x)))) = zwl Y ad (zwI M kk i.toNatClampNeg x) := zwl_set rfl hW.2.2.2.1.1 hq (by rw [zen_1 h.1, znarZ h.2.2.1]; show Sum.inl (Y 1, (zsh kk).2.1, Sum.inl (zw2 M.2.1 kk i.toNatClampNeg x kk)) = _; rw [zw2_s]; rfl) (fun k' hk' => zen_I hk')
    rw [e1] at h1 h2
    exact k C _ ls _ h.2.2.2 ad H1 locs1 lsA (hW.put rfl hW.2.2.2.1 h1 h2 h3) ho.top.2.top.2.top.2 hl
  · exact h.elim
theorem zs_bast (hd : decode cc pc = .ok (.bastore, 1)) (k : zSd X own nm cc nL ret (pc + 1) P) : zSd X own nm cc nL ret pc (zT_bast P) := by
  intro C M ls st h
  obtain ⟨p, l, e, R, s, m, args, below, meth, c, D, Y, ad0, M0, K⟩ := X
  unfold zT_bast at h
  split at h
  · next x i kk r =>
    intro ad H locs lsA hW ho hl
    obtain ⟨q, hq, hw⟩ := zwl_at (Y := Y) (ad := ad) (zov_in ho.top.2.top.2.top.1 (zlt9' h.1 (by decide)))
    rw [zen_2 h.1] at hw
    refine va_bast C.1 C.2.1 C.2.2.2.2.2.2.2.1 hW.1 hW.2.1 hW.2.2.1 q 2 hw rfl h.2.1 hd (fun H1 locs1 h1 h2 h3 => ?_)
    have e1 : (zwl Y ad M).set q (ad kk, .inl (Y 2, (zsh kk).2.1, .inl (upd (M.2.1 kk) i.toNatClampNeg (vp_nar .byte x)))) = zwl Y ad (zwI M kk i.toNatClampNeg x.toInt8.toInt32) := zwl_set rfl hW.2.2.2.1.1 hq (by rw [zen_2 h.1]; show Sum.inl (Y 2, (zsh kk).2.1, Sum.inl (zw2 M.2.1 kk i.toNatClampNeg _ kk)) = _; rw [zw2_s]; rfl) (fun k' hk' => zen_I hk')
    rw [e1] at h1 h2
    exact k C _ ls _ h.2.2 ad H1 locs1 lsA (hW.put rfl hW.2.2.2.1 h1 h2 h3) ho.top.2.top.2.top.2 hl
  · exact h.elim
theorem zs_last (hd : decode cc pc = .ok (.lastore, 1)) (k : zSd X own nm cc nL ret (pc + 1) P) : zSd X own nm cc nL ret pc (zT_last P) := by
  intro C M ls st h
  obtain ⟨p, l, e, R, s, m, args, below, meth, c, D, Y, ad0, M0, K⟩ := X
  unfold zT_last at h
  split at h
  · next x i kk r =>
    intro ad H locs lsA hW ho hl
    obtain ⟨q, hq, hw⟩ := zwl_at (Y := Y) (ad := ad) (zov_in ho.top.2.top.2.top.1 (zlt9' h.1 (by decide)))
    rw [zen_3 h.1] at hw
    refine va_last C.1 C.2.1 C.2.2.2.2.2.2.2.1 hW.1 hW.2.1 hW.2.2.1 q 3 hw rfl h.2.1 hd (fun H1 locs1 h1 h2 h3 => ?_)
    have e1 : (zwl Y ad M).set q (ad kk, .inl (Y 3, (zsh kk).2.1, .inr (.inl (vp_updL (M.2.2.1 kk) i.toNatClampNeg x)))) = zwl Y ad (zwJ M kk i.toNatClampNeg x) := zwl_set rfl hW.2.2.2.1.1 hq (by rw [zen_3 h.1]; show Sum.inl (Y 3, (zsh kk).2.1, Sum.inr (Sum.inl (zw2 M.2.2.1 kk i.toNatClampNeg x kk))) = _; rw [zw2_s]; rfl) (fun k' hk' => zen_J hk')
    rw [e1] at h1 h2
    exact k C _ ls _ h.2.2 ad H1 locs1 lsA (hW.put rfl hW.2.2.2.1 h1 h2 h3) ho.top.2.top.2.top.2 hl
  · exact h.elim
theorem zs_aast (hd : decode cc pc = .ok (.aastore, 1)) (k : zSd X own nm cc nL ret (pc + 1) P) : zSd X own nm cc nL ret pc (zT_aast P) := by
  intro C M ls st h
  obtain ⟨p, l, e, R, s, m, args, below, meth, c, D, Y, ad0, M0, K⟩ := X
  unfold zT_aast at h
  split at h
  · next t i kk r =>
    intro ad H locs lsA hW ho hl
    have htL := zov_in ho.top.1 (zlt9 h.2.2.1)
    obtain ⟨q, hq, hw⟩ := zwl_at (Y := Y) (ad := ad) (zov_in ho.top.2.top.2.top.1 (zlt9' h.1 (by decide)))
    obtain ⟨qv, hqv, hwv⟩ := zwl_at (Y := Y) (ad := ad) htL
    rw [zen_4 h.1] at hw
    rw [zen_obj h.2.2.1] at hwv
    refine va_astq (r := (RX6, TX6, 2)) C.1 C.2.1 C.2.2.2.2.2.2.2.1 hW.1 hW.2.1 hW.2.2.1 q 4 qv 6 hw rfl hwv rfl h.2.1 hd (fun H1 locs1 h1 h2 h3 => ?_)
    have e1 : (zwl Y ad M).set q (ad kk, .inl (Y 4, (zsh kk).2.1, .inr (.inr (.inr (.inr (va_up (fun i => (M.2.2.2 kk i).map ad) i.toNatClampNeg (some (ad t)))))))) = zwl Y ad (zwR M kk i.toNatClampNeg (some t)) := zwl_set rfl hW.2.2.2.1.1 hq (by
      rw [zen_4 h.1]
      have : (fun i' => ((zwR M kk i.toNatClampNeg (some t)).2.2.2 kk i').map ad) = va_up (fun i => (M.2.2.2 kk i).map ad) i.toNatClampNeg (some (ad t)) := by
        funext i'
        show (zw2 M.2.2.2 kk i.toNatClampNeg (some t) kk i').map ad = _
        rw [zw2_s]
        unfold va_up
        split <;> rfl
      rw [this]) (fun k' hk' => zen_R hk')
    rw [e1] at h1 h2
    exact k C _ ls _ h.2.2.2 ad H1 locs1 lsA (hW.put rfl (zom_R hW.2.2.2.1 htL) h1 h2 h3) ho.top.2.top.2.top.2 hl
  · exact h.elim
end ZH
end
section
/-! RETURNS, CALLS, MAKING -/
theorem zcv_eq {ad ad' : Nat → Nat} {L : List Nat} {v : Value} (h1 : ∀ k ∈ L, ad' k = ad k) (h2 : ∀ k, 2000 ≤ k → ad' k = ad k) (hv : zov L v) : zcv ad' v = zcv ad v := by
  cases v with
  | ref k =>
    show Value.ref (ad' k) = Value.ref (ad k)
    rcases hv with h | h
    · rw [h1 k h]
    · rw [h2 k h]
  | _ => rfl
theorem zmap_eq {ad ad' : Nat → Nat} {L : List Nat} {st : List Value} (h1 : ∀ k ∈ L, ad' k = ad k) (h2 : ∀ k, 2000 ≤ k → ad' k = ad k) (hv : ∀ v ∈ st, zov L v) : st.map (zcv ad') = st.map (zcv ad) :=
  List.map_congr_left fun v h => zcv_eq h1 h2 (hv v h)
theorem zlv_eq {ad ad' : Nat → Nat} {L : List Nat} {ls : zLo} {lsA : Array Slot} {nL : Nat} (h1 : ∀ k ∈ L, ad' k = ad k) (h2 : ∀ k, 2000 ≤ k → ad' k = ad k) (hv : ∀ i v, zlg ls i = some v → zov L v) (h : lv_has lsA nL (zlcv ad 0 ls)) : lv_has lsA nL (zlcv ad' 0 ls) := by
  refine zlv_less h fun q hq => ?_
  obtain ⟨i, v, hi, rfl⟩ := zlcv_mem.mp hq
  exact zlcv_mem.mpr ⟨i, v, hi, by rw [zcv_eq h1 h2 (hv i v hi)]⟩
theorem zcat_le : ∀ (st : List Value), (st.map fun v => v.category).sum ≤ 2 * st.length
  | [] => Nat.le_refl _
  | v :: l => by
    have h := zcat_le l
    have hv : v.category ≤ 2 := by rcases lv_cat v with q | q <;> omega
    simp only [List.map_cons, List.sum_cons, List.length_cons]
    omega
section ZQ
variable {p : Program} {l : Launch} {e : Env} {R : Room} {s : State} {m : MethodId} {args : Array Value} {below : List Frame} {meth : Method} {c : Code} {D : va_G} {Y : Nat → ClassId} {ad0 ad : Nat → Nat} {M0 M : zMm} {K : zKt} {H : Heap} {locs : List Loc}
theorem zQt.mk (hW : zWH D Y ad0 M0.1 s R ad M H locs) {r : Option Value} (hK : K r M) (hr : ∀ v, r = some v → zov M.1 v) (h1 : H.size ≤ s.heap.size + zdc M0.1 M.1) (h2 : zhs H ≤ zhs s.heap + zds M0.1 M.1) {t : State} (ht : t.heap = H) {a : Array Value} : zQt D Y K ad0 M0 s.heap.size R.cells R.slots a s (.returned (r.map (zcv ad))) t :=
  ⟨⟨r, M, ad, rfl, hK, hr, by rw [ht]; exact hW.1, hW.2.1, hW.2.2.2.1, hW.2.2.2.2.1, hW.2.2.2.2.2.1, hW.2.2.2.2.2.2.1, hW.2.2.2.2.2.2.2.1, hW.2.2.2.2.2.2.2.2.1, hW.2.2.2.2.2.2.2.2.2, by rw [ht]; exact h1, by rw [ht]; exact h2⟩, hW.2.2.1.F ht⟩
theorem zwid (hW : zWH D Y ad0 M0.1 s R ad M H locs) : zdc M0.1 M.1 ≤ R.cells ∧ zds M0.1 M.1 ≤ R.slots := by
  have h1 := hW.2.2.2.2.2.2.2.2.1
  have h2 := hW.2.2.2.2.2.2.2.2.2
  unfold zdc zds
  omega
end ZQ
section ZC
variable {X : zCt} {own nm : String} {cc : ByteArray} {nL : Nat} {ret : Option FieldType} {pc : Nat} {P : zPP}
def zT_iret (K : zKt) : zPP := fun M _ st => match st with
  | [.int v] => K (some (.int v)) M
  | _ => False
def zT_nret (ty : FieldType) (K : zKt) : zPP := fun M _ st => match st with
  | [.int v] => narrow ty (.int v) = .int v ∧ K (some (.int v)) M
  | _ => False
def zT_aret (K : zKt) : zPP := fun M _ st => match st with
  | [.ref v] => K (some (.ref v)) M
  | [.null] => K (some .null) M
  | _ => False
def zT_vret (K : zKt) : zPP := fun M _ st => match st with
  | [] => K none M
  | _ => False
theorem zs_iret (hr : ret = some .int) (hd : decode cc pc = .ok (.ireturn, 1)) : zSd X own nm cc nL ret pc (zT_iret (zKX X)) := by
  intro C M ls st h
  obtain ⟨p, l, e, R, s, m, args, below, meth, c, D, Y, ad0, M0, K⟩ := X
  subst hr
  unfold zT_iret at h
  split at h
  · intro ad H locs lsA hW ho hl
    refine zW_know (fun h1 h2 => W.widen (zwid hW).1 (zwid hW).2 (W.iret C.1 C.2.1 C.2.2.2.1 (fun t ht _ => zQt.mk hW (r := some (.int _)) h (fun v hv => by cases hv; trivial) h1 h2 ht) hW.2.2.1.2.2 hd C.2.2.2.2.2.2.1))
  · exact h.elim
theorem zs_nret {ty : FieldType} (hr : ret = some ty) (hd : decode cc pc = .ok (.ireturn, 1)) : zSd X own nm cc nL ret pc (zT_nret ty (zKX X)) := by
  intro C M ls st h
  obtain ⟨p, l, e, R, s, m, args, below, meth, c, D, Y, ad0, M0, K⟩ := X
  subst hr
  unfold zT_nret at h
  split at h
  · intro ad H locs lsA hW ho hl
    refine zW_know (fun h1 h2 => W.widen (zwid hW).1 (zwid hW).2 (W.zret C.1 C.2.1 C.2.2.2.1 h.1 (fun t ht _ => zQt.mk hW (r := some (.int _)) h.2 (fun v hv => by cases hv; trivial) h1 h2 ht) hW.2.2.1.2.2 hd C.2.2.2.2.2.2.1))
  · exact h.elim
theorem zs_aret {cn : String} (hr : ret = some (.object cn)) (hd : decode cc pc = .ok (.areturn, 1)) : zSd X own nm cc nL ret pc (zT_aret (zKX X)) := by
  intro C M ls st h
  obtain ⟨p, l, e, R, s, m, args, below, meth, c, D, Y, ad0, M0, K⟩ := X
  subst hr
  unfold zT_aret at h
  split at h
  · intro ad H locs lsA hW ho hl
    refine zW_know (fun h1 h2 => W.widen (zwid hW).1 (zwid hW).2 (W.aret C.1 C.2.1 C.2.2.2.1 (Or.inl ⟨cn, rfl⟩) (Or.inr ⟨_, rfl⟩) (fun t ht _ => zQt.mk hW (r := some (.ref _)) h (fun v hv => by cases hv; exact ho.top.1) h1 h2 ht) hW.2.2.1.2.2 hd C.2.2.2.2.2.2.1))
  · intro ad H locs lsA hW ho hl
    refine zW_know (fun h1 h2 => W.widen (zwid hW).1 (zwid hW).2 (W.aret C.1 C.2.1 C.2.2.2.1 (Or.inl ⟨cn, rfl⟩) (Or.inl rfl) (fun t ht _ => zQt.mk hW (r := some .null) h (fun v hv => by cases hv; trivial) h1 h2 ht) hW.2.2.1.2.2 hd C.2.2.2.2.2.2.1))
  · exact h.elim
theorem zs_vret (hr : ret = none) (hd : decode cc pc = .ok (.return_, 1)) : zSd X own nm cc nL ret pc (zT_vret (zKX X)) := by
  intro C M ls st h
  obtain ⟨p, l, e, R, s, m, args, below, meth, c, D, Y, ad0, M0, K⟩ := X
  subst hr
  unfold zT_vret at h
  split at h
  · intro ad H locs lsA hW ho hl
    refine zW_know (fun h1 h2 => W.widen (zwid hW).1 (zwid hW).2 (W.vret C.1 C.2.1 C.2.2.2.1 (fun t ht _ => zQt.mk hW (r := none) h (fun v hv => by cases hv) h1 h2 ht) hW.2.2.1.2.2 hd C.2.2.2.2.2.2.1))
  · exact h.elim
/-- behind a call -/
theorem zcall {p : Program} {l : Launch} {e : Env} {R : Room} {s : State} {m : MethodId} {args : Array Value} {below : List Frame} {meth : Method} {c : Code} {D : va_G} {Y : Nat → ClassId} {ad0 ad : Nat → Nat} {M0 M : zMm} {K K1 : zKt} {H : Heap} {locs : List Loc} {lsA : Array Slot} {ls : zLo} {st0 : List Value} {rest : List Value} {mc ms : Nat} {a : Array Value}
    (hW : zWH D Y ad0 M0.1 s R ad M H locs) (hrest : zoL M.1 ls rest) (hl : lv_has lsA nL (zlcv ad 0 ls)) (hm1 : M.1.length + mc ≤ M0.1.length + R.cells) (hm2 : zss M.1 + ms ≤ zss M0.1 + R.slots)
    (hrun : va_Run p l e R s m args below meth c H locs (zdc M0.1 M.1) (zds M0.1 M.1) mc ms (F0 m pc lsA st0) (rest.map (zcv ad)) (zQt D Y K1 ad M H.size mc ms a) (zAA ad M.1 H.size))
    (kont : ∀ (r : Option Value) (M' : zMm), K1 r M' → zGD (p, l, e, R, s, m, args, below, meth, c, D, Y, ad0, M0, K) nL (pc + 3) M' ls (r.toList ++ rest)) :
    W p l e R s m args below meth c H locs (zdc M0.1 M.1) (zds M0.1 M.1) (MQ below (zQt D Y K ad0 M0 s.heap.size R.cells R.slots) args s R.cells R.slots (zAA ad0 M0.1 s.heap.size)) (F0 m pc lsA st0) := by
  refine zW_know (fun g1 g2 => ?_)
  intro T hT XX
  obtain ⟨v, st₀, t, T', L, h0, X', hL, e1, e2, ⟨⟨r, M', ad', hv, hK1, hro, hP1, hD1, hO1, hk1, hx1, hl1, hl2, hc1, hc2, hz1, hz2⟩, hF1, hF2⟩, st⟩ := hrun T hT XX
  have hfree : ∀ q, zAA ad M.1 H.size q → zAA ad0 M0.1 s.heap.size q := by
    intro q hq
    rcases hq with ⟨k, hk, rfl⟩ | hq
    · obtain ⟨j, -, hj⟩ := zwl_at (Y := Y) (ad := ad) hk
      exact hW.2.1.2 j _ hj
    · exact Or.inr (Nat.le_trans hW.2.2.1.1 hq)
  rw [h0] at hF1 hF2 hz1 hz2
  have b1 := hW.2.2.2.2.2.2.1
  have b2 := hW.2.2.2.2.2.2.2.1
  have hS' : va_S (zAA ad0 M0.1 s.heap.size) s.heap T'.heap (locs ++ L) := by
    refine ⟨Nat.le_trans hW.2.2.1.1 (by rw [e1]; exact hF1), fun q q1 q2 => ?_, fun q hq => ?_⟩
    · rw [e1, hF2 q (Nat.lt_of_lt_of_le q1 hW.2.2.1.1) (fun z => q2 (hfree q z))]
      exact hW.2.2.1.2.1 q q1 q2
    · rcases List.mem_append.mp hq with h | h
      · exact hW.2.2.1.2.2 q h
      · exact hfree _ (hL q h)
  have hW' : zWH D Y ad0 M0.1 s R ad' M' T'.heap (locs ++ L) := by
    refine ⟨by rw [e1]; exact hP1, hD1.weaken (fun _ q _ hq => hfree q.1 hq), hS', hO1, fun k hk => ?_, fun k hk => ?_, by omega, by omega, by omega, by omega⟩
    · obtain ⟨h1, h2⟩ := hW.2.2.2.2.1 k hk
      obtain ⟨h3, h4⟩ := hk1 k h1
      exact ⟨h3, h4.trans h2⟩
    · exact (hx1 k hk).trans (hW.2.2.2.2.2.1 k hk)
  have hsub : ∀ v, zov M.1 v → zov M'.1 v := by
    intro v hv
    cases v with
    | ref k => exact hv.elim (fun h => Or.inl (hk1 k h).1) Or.inr
    | _ => trivial
  have heq1 : ∀ k ∈ M.1, ad' k = ad k := fun k hk => (hk1 k hk).2
  have hG := kont r M' hK1 ad' T'.heap (locs ++ L) lsA hW' ⟨fun w hw => by
      rcases List.mem_append.mp hw with h | h
      · exact hro w (by cases r with
          | none => cases h
          | some z => rcases List.mem_cons.mp h with q | q
                      · rw [q]
                      · cases q)
      · exact hsub w (hrest.1 w h), fun i w hw => hsub w (hrest.2 i w hw)⟩ (zlv_eq heq1 hx1 hrest.2 hl)
  rw [List.map_append, zmap_eq heq1 hx1 hrest.1] at hG
  have hvl : v.toList = r.toList.map (zcv ad') := by
    cases hv
    cases r <;> rfl
  have hG2 := zW_tight (cells := zdc M0.1 M.1 + mc) (slots := zds M0.1 M.1 + ms) (by rw [e1]; unfold zdc at *; omega) (by rw [e1]; unfold zds at *; omega) hG
  obtain ⟨t2, a1, b1⟩ := hG2 T' rfl X'
  refine ⟨t2, st t2 ?_, b1⟩
  rw [hvl]
  exact a1
/-- ahead of a call: the callee's start holds -/
theorem zpre {p : Program} {l : Launch} {e : Env} {R : Room} {s : State} {m : MethodId} {args : Array Value} {below : List Frame} {meth : Method} {c : Code} {D : va_G} {Y : Nat → ClassId} {ad0 ad : Nat → Nat} {M0 M : zMm} {K : zKt} {H : Heap} {locs : List Loc} {avs : List Value}
    (C : zCX (p, l, e, R, s, m, args, below, meth, c, D, Y, ad0, M0, K) own nm cc nL ret) (hW : zWH D Y ad0 M0.1 s R ad M H locs) (hv : ∀ v ∈ avs, zov M.1 v) :
    PreS s H (va_Pc (avs.map (zcv ad)) (fun U => U.heap.size = H.size ∧ va_P D vwCl (zwl Y ad M) U.heap ∧ va_D (fun _ => True) (zwl Y ad M) ∧ va_K D vwCl (zTY Y) U ∧ zEX ad (zAA ad M.1 H.size) U ∧ zom M ∧ ∀ v ∈ avs, zov M.1 v)) (avs.map (zcv ad)) := by
  refine ⟨fun a U g mk q => ?_, fun U hU hWm => ⟨rfl, by rw [hU], by rw [hU]; exact hW.1, hW.2.1.weaken (fun _ _ _ _ => trivial), va_K.moved hWm.alike C.2.2.2.2.2.2.2.1, ?_, hW.2.2.2.1, hv⟩⟩
  · obtain ⟨q0, q1, qP, qD, qK, qE, qO, qV⟩ := q
    exact ⟨q0, q1, qP, qD, va_K.moved (u := U) (U := U.calling g mk a) (Vm.Alike.refl U.vm) qK, zEX.same (u := U) rfl rfl qE, qO, qV⟩
  · refine zEX.later hWm (fun q h1 h2 => ?_) (fun q h1 h2 => by rw [hU]; exact hW.2.2.1.2.1 q h1 h2) hW.2.2.2.2.2.1 C.2.2.2.2.2.2.2.2.1
    rcases h2 with ⟨k, hk, rfl⟩ | h2
    · obtain ⟨j, -, hj⟩ := zwl_at (Y := Y) (ad := ad) hk
      exact hW.2.1.2 j _ hj
    · have := hW.2.2.1.1
      omega
/-- what a call's transformer must give: the arguments on the stack, the callee's contract -/
def zCl (X : zCt) (avs : zMm → zLo → List Value → List Value → Prop) (T : zPP) (Cc : List Value → zMm → zKt → Prop) (mc ms : Nat) (P : zPP) : Prop :=
  ∀ M ls st, T M ls st → ∃ as rest, avs M ls st as ∧ st = as.reverse ++ rest ∧ rest.length ≤ 4 ∧ (mc = 0 ∨ M.1.length + mc ≤ zlc X) ∧ (ms = 0 ∨ zss M.1 + ms ≤ zls X) ∧ Cc as M (fun r M' => P M' ls (r.toList ++ rest))
variable {y : MethodName} {bytes : ByteArray} {maxL idx n fr lo mc ms : Nat} {rt : Option FieldType} {Cc : List Value → zMm → zKt → Prop} {T : zPP}
theorem zlim {M0 M : zMm} {R : Room} {mc ms : Nat} (h1 : mc = 0 ∨ M.1.length + mc ≤ M0.1.length + R.cells) (h2 : ms = 0 ∨ zss M.1 + ms ≤ zss M0.1 + R.slots) (g1 : M.1.length ≤ M0.1.length + R.cells) (g2 : zss M.1 ≤ zss M0.1 + R.slots) (b1 : M0.1.length ≤ M.1.length) (b2 : zss M0.1 ≤ zss M.1) : (M.1.length + mc ≤ M0.1.length + R.cells ∧ zss M.1 + ms ≤ zss M0.1 + R.slots) ∧ zdc M0.1 M.1 + mc ≤ R.cells ∧ zds M0.1 M.1 + ms ≤ R.slots := by
  unfold zdc zds
  rcases h1 with h1 | h1 <;> rcases h2 with h2 | h2 <;> omega
/-- a static method of any of our classes -/
theorem zs_S (hM : zMt X.2.1 X.2.2.2.2.2.2.2.2.2.2.1 X.2.2.2.2.2.2.2.2.2.2.2.1 y bytes maxL rt fr lo mc ms Cc) (hco : Cond.code y bytes maxL rt ∈ gT) (hlk : Cond.methodLink own idx y ∈ gT) (hst : Cond.static y ∈ gT) (hin : Cond.initialized y.cls ∈ gT)
    (hdn : y.cls ≠ "java/lang/invoke/MethodHandle" ∧ y.cls ≠ "java/lang/invoke/VarHandle" ∧ (parseMethodDescriptor y.desc).map (fun d => d.parameters.length) = some n) (hR : fr + 1 ≤ (zRX X).frames ∧ 8 + (maxL + 11) + lo ≤ (zRX X).locals) (hd : decode cc pc = .ok (.invokestatic idx, 3))
    (hT : zCl X (fun _ _ _ as => as.length = n) T Cc mc ms P) (k : zSd X own nm cc nL ret (pc + 3) P) : zSd X own nm cc nL ret pc T := by
  intro C M ls st h
  obtain ⟨as, rest, hlen, hst0, hr4, hm1, hm2, hC⟩ := hT M ls st h
  obtain ⟨p, l, e, R, s, m, args, below, meth, c, D, Y, ad0, M0, K⟩ := X
  intro ad H locs lsA hW ho hl
  subst hst0
  obtain ⟨⟨c1, c2⟩, c3⟩ := zlim (M0 := M0) (M := M) (R := R) hm1 hm2 hW.2.2.2.2.2.2.2.2.1 hW.2.2.2.2.2.2.2.2.2 hW.2.2.2.2.2.2.1 hW.2.2.2.2.2.2.2.1
  have hov : ∀ v ∈ as, zov M.1 v := fun v hv => ho.1 v (List.mem_append_left _ (List.mem_reverse.mpr hv))
  have horest : zoL M.1 ls rest := ⟨fun v hv => ho.1 v (List.mem_append_right _ hv), ho.2⟩
  have hws : ∀ w ∈ (Cond.code y bytes maxL rt :: gT), w ∈ gT := List.forall_mem_cons.mpr ⟨hco, fun _ h => h⟩
  rw [List.map_append, List.map_reverse]
  have hcat := zcat_le (rest.map (zcv ad))
  rw [List.length_map] at hcat
  refine zcall hW horest hl c1 c2 (va_runS (Ts := gT) (As := as.map (zcv ad)) ⟨C.1, C.2.1, C.2.2.1, C.2.2.2.2.1, C.2.2.2.2.2.1⟩ (hM ad M as _ H.size hC) ⟨callB_of n C.2.2.2.2.2.1 (gT_good hws) rfl rfl rfl (C.2.2.2.2.2.1 _ hin) (C.2.2.2.2.2.1 _ hlk) hdn hR, C.2.2.2.2.2.1 _ hst⟩ (zpre C hW hov) rfl (by rw [List.length_map]; exact hlen) hl.1 rfl (lv_room (by omega)) hd c3) (fun r M' hK => k C M' ls _ hK)
theorem zs_SN {host : String} (hM : zMt X.2.1 X.2.2.2.2.2.2.2.2.2.2.1 X.2.2.2.2.2.2.2.2.2.2.2.1 y bytes maxL rt fr lo mc ms Cc) (hco : Cond.code y bytes maxL rt ∈ gT) (hlk : (own, idx, y, host) ∈ zNw) (hst : Cond.static y ∈ gT) (hin : Cond.initialized y.cls ∈ gT)
    (hdn : y.cls ≠ "java/lang/invoke/MethodHandle" ∧ y.cls ≠ "java/lang/invoke/VarHandle" ∧ (parseMethodDescriptor y.desc).map (fun d => d.parameters.length) = some n) (hR : fr + 1 ≤ (zRX X).frames ∧ 8 + (maxL + 11) + lo ≤ (zRX X).locals) (hd : decode cc pc = .ok (.invokestatic idx, 3))
    (hT : zCl X (fun _ _ _ as => as.length = n) T Cc mc ms P) (k : zSd X own nm cc nL ret (pc + 3) P) : zSd X own nm cc nL ret pc T := by
  intro C M ls st h
  obtain ⟨as, rest, hlen, hst0, hr4, hm1, hm2, hC⟩ := hT M ls st h
  obtain ⟨p, l, e, R, s, m, args, below, meth, c, D, Y, ad0, M0, K⟩ := X
  intro ad H locs lsA hW ho hl
  subst hst0
  obtain ⟨⟨c1, c2⟩, c3⟩ := zlim (M0 := M0) (M := M) (R := R) hm1 hm2 hW.2.2.2.2.2.2.2.2.1 hW.2.2.2.2.2.2.2.2.2 hW.2.2.2.2.2.2.1 hW.2.2.2.2.2.2.2.1
  have hov : ∀ v ∈ as, zov M.1 v := fun v hv => ho.1 v (List.mem_append_left _ (List.mem_reverse.mpr hv))
  have horest : zoL M.1 ls rest := ⟨fun v hv => ho.1 v (List.mem_append_right _ hv), ho.2⟩
  have hws : ∀ w ∈ (Cond.code y bytes maxL rt :: gT), w ∈ gT := List.forall_mem_cons.mpr ⟨hco, fun _ h => h⟩
  rw [List.map_append, List.map_reverse]
  have hcat := zcat_le (rest.map (zcv ad))
  rw [List.length_map] at hcat
  refine zcall hW horest hl c1 c2 (va_runSN (Ts := gT) (As := as.map (zcv ad)) ⟨C.1, C.2.1, C.2.2.1, C.2.2.2.2.1, C.2.2.2.2.2.1⟩ (hM ad M as _ H.size hC) ⟨va_cnB n C.2.2.2.2.2.1 (gT_good hws) rfl rfl rfl (C.2.2.2.2.2.2.2.2.1.1 _ hlk) (C.2.2.2.2.2.1 _ hin) hdn hR, C.2.2.2.2.2.1 _ hst, trivial⟩ (zpre C hW hov) rfl (by rw [List.length_map]; exact hlen) hl.1 rfl (lv_room (by omega)) hd c3) (fun r M' hK => k C M' ls _ hK)
/-- a method of an object of the memory -/
theorem zs_V {ci nf : Nat} {Tc : u_T} {Cn : String} (hc : vwCl[ci]? = some (Cn, Tc, nf)) (hcn : y.cls = Cn) (hM : zMt X.2.1 X.2.2.2.2.2.2.2.2.2.2.1 X.2.2.2.2.2.2.2.2.2.2.2.1 y bytes maxL rt fr lo mc ms Cc) (hco : Cond.code y bytes maxL rt ∈ gT) (hlk : Cond.methodLink own idx y ∈ gT) (him : Cond.instanceMethod y ∈ gT) (hse : Cond.selects Cn y y ∈ gT) (hin : Cond.initialized y.cls ∈ gT)
    (hdn : y.cls ≠ "java/lang/invoke/MethodHandle" ∧ y.cls ≠ "java/lang/invoke/VarHandle" ∧ (parseMethodDescriptor y.desc).map (fun d => d.parameters.length) = some n) (hR : fr + 1 ≤ (zRX X).frames ∧ 8 + (maxL + 11) + lo ≤ (zRX X).locals) (hd : decode cc pc = .ok (.invokevirtual idx, 3))
    (hT : zCl X (fun _ _ _ as => ∃ kk as', as = .ref kk :: as' ∧ as'.length = n ∧ zsh kk = (5, ci, nf)) T Cc mc ms P) (k : zSd X own nm cc nL ret (pc + 3) P) : zSd X own nm cc nL ret pc T := by
  intro C M ls st h
  obtain ⟨as, rest, ⟨kk, as', rfl, hlen, hsh⟩, hst0, hr4, hm1, hm2, hC⟩ := hT M ls st h
  obtain ⟨p, l, e, R, s, m, args, below, meth, c, D, Y, ad0, M0, K⟩ := X
  intro ad H locs lsA hW ho hl
  subst hst0
  obtain ⟨⟨c1, c2⟩, c3⟩ := zlim (M0 := M0) (M := M) (R := R) hm1 hm2 hW.2.2.2.2.2.2.2.2.1 hW.2.2.2.2.2.2.2.2.2 hW.2.2.2.2.2.2.1 hW.2.2.2.2.2.2.2.1
  have hov : ∀ v ∈ (Value.ref kk :: as'), zov M.1 v := fun v hv => ho.1 v (List.mem_append_left _ (List.mem_reverse.mpr hv))
  have horest : zoL M.1 ls rest := ⟨fun v hv => ho.1 v (List.mem_append_right _ hv), ho.2⟩
  have hws : ∀ w ∈ (Cond.code y bytes maxL rt :: gT), w ∈ gT := List.forall_mem_cons.mpr ⟨hco, fun _ h => h⟩
  have hkL : kk ∈ M.1 := zov_in (hov _ List.mem_cons_self) (zlt9 hsh)
  obtain ⟨q, hq, hw⟩ := zwl_at (Y := Y) (ad := ad) hkL
  rw [zen_obj hsh] at hw
  rw [List.map_append, List.map_reverse]
  have hcat := zcat_le (rest.map (zcv ad))
  rw [List.length_map] at hcat
  have hpre := zpre C hW hov
  refine zcall hW horest hl c1 c2 (va_runV (Ts := gT) (b := ad kk) (As := as'.map (zcv ad)) (rest := rest.map (zcv ad)) ⟨C.1, C.2.1, C.2.2.1, C.2.2.2.2.1, C.2.2.2.2.2.1⟩ (hM ad M _ _ H.size hC) ⟨callB_of n C.2.2.2.2.2.1 (gT_good hws) rfl rfl rfl (C.2.2.2.2.2.1 _ hin) (C.2.2.2.2.2.1 _ hlk) hdn hR, C.2.2.2.2.2.1 _ him, C.2.2.2.2.2.1 _ hse⟩ ⟨hpre.1, va_recv C.2.2.2.2.2.2.2.1 hW.1 hc hw, hpre.2⟩ rfl (by rw [List.length_map]; exact hlen) hl.1 (by rw [List.map_cons, List.reverse_cons, List.append_assoc]; rfl) (lv_room (by omega)) hd c3) (fun r M' hK => k C M' ls _ hK)
/-- a constructor -/
theorem zs_I (hni : y.name = "<init>") (hM : zMt X.2.1 X.2.2.2.2.2.2.2.2.2.2.1 X.2.2.2.2.2.2.2.2.2.2.2.1 y bytes maxL none fr lo mc ms Cc) (hco : Cond.code y bytes maxL none ∈ gT) (hlk : Cond.methodLink own idx y ∈ gT) (him : Cond.instanceMethod y ∈ gT) (hin : Cond.initialized y.cls ∈ gT)
    (hdn : y.cls ≠ "java/lang/invoke/MethodHandle" ∧ y.cls ≠ "java/lang/invoke/VarHandle" ∧ (parseMethodDescriptor y.desc).map (fun d => d.parameters.length) = some n) (hR : fr + 1 ≤ (zRX X).frames ∧ 8 + (maxL + 11) + lo ≤ (zRX X).locals) (hd : decode cc pc = .ok (.invokespecial idx, 3))
    (hT : zCl X (fun _ _ _ as => ∃ kk as', as = .ref kk :: as' ∧ as'.length = n) T Cc mc ms P) (k : zSd X own nm cc nL ret (pc + 3) P) : zSd X own nm cc nL ret pc T := by
  intro C M ls st h
  obtain ⟨as, rest, ⟨kk, as', rfl, hlen⟩, hst0, hr4, hm1, hm2, hC⟩ := hT M ls st h
  obtain ⟨p, l, e, R, s, m, args, below, meth, c, D, Y, ad0, M0, K⟩ := X
  intro ad H locs lsA hW ho hl
  subst hst0
  obtain ⟨⟨c1, c2⟩, c3⟩ := zlim (M0 := M0) (M := M) (R := R) hm1 hm2 hW.2.2.2.2.2.2.2.2.1 hW.2.2.2.2.2.2.2.2.2 hW.2.2.2.2.2.2.1 hW.2.2.2.2.2.2.2.1
  have hov : ∀ v ∈ (Value.ref kk :: as'), zov M.1 v := fun v hv => ho.1 v (List.mem_append_left _ (List.mem_reverse.mpr hv))
  have horest : zoL M.1 ls rest := ⟨fun v hv => ho.1 v (List.mem_append_right _ hv), ho.2⟩
  have hws : ∀ w ∈ (Cond.code y bytes maxL none :: gT), w ∈ gT := List.forall_mem_cons.mpr ⟨hco, fun _ h => h⟩
  rw [List.map_append, List.map_reverse]
  have hcat := zcat_le (rest.map (zcv ad))
  rw [List.length_map] at hcat
  refine zcall hW horest hl c1 c2 (va_runI (Ts := gT) (b := ad kk) (As := as'.map (zcv ad)) (rest := rest.map (zcv ad)) ⟨C.1, C.2.1, C.2.2.1, C.2.2.2.2.1, C.2.2.2.2.2.1⟩ (hM ad M _ _ H.size hC) ⟨callB_of n C.2.2.2.2.2.1 (gT_good hws) rfl rfl rfl (C.2.2.2.2.2.1 _ hin) (C.2.2.2.2.2.1 _ hlk) hdn hR, hni, C.2.2.2.2.2.1 _ him⟩ (zpre C hW hov) rfl (by rw [List.length_map]; exact hlen) hl.1 (by rw [List.map_cons, List.reverse_cons, List.append_assoc]; rfl) (lv_room (by omega)) hd c3) (fun r M' hK => k C M' ls _ hK)
theorem zs_IN {host : String} (hni : y.name = "<init>") (hM : zMt X.2.1 X.2.2.2.2.2.2.2.2.2.2.1 X.2.2.2.2.2.2.2.2.2.2.2.1 y bytes maxL none fr lo mc ms Cc) (hco : Cond.code y bytes maxL none ∈ gT) (hlk : (own, idx, y, host) ∈ zNw) (him : Cond.instanceMethod y ∈ gT) (hin : Cond.initialized y.cls ∈ gT)
    (hdn : y.cls ≠ "java/lang/invoke/MethodHandle" ∧ y.cls ≠ "java/lang/invoke/VarHandle" ∧ (parseMethodDescriptor y.desc).map (fun d => d.parameters.length) = some n) (hR : fr + 1 ≤ (zRX X).frames ∧ 8 + (maxL + 11) + lo ≤ (zRX X).locals) (hd : decode cc pc = .ok (.invokespecial idx, 3))
    (hT : zCl X (fun _ _ _ as => ∃ kk as', as = .ref kk :: as' ∧ as'.length = n) T Cc mc ms P) (k : zSd X own nm cc nL ret (pc + 3) P) : zSd X own nm cc nL ret pc T := by
  intro C M ls st h
  obtain ⟨as, rest, ⟨kk, as', rfl, hlen⟩, hst0, hr4, hm1, hm2, hC⟩ := hT M ls st h
  obtain ⟨p, l, e, R, s, m, args, below, meth, c, D, Y, ad0, M0, K⟩ := X
  intro ad H locs lsA hW ho hl
  subst hst0
  obtain ⟨⟨c1, c2⟩, c3⟩ := zlim (M0 := M0) (M := M) (R := R) hm1 hm2 hW.2.2.2.2.2.2.2.2.1 hW.2.2.2.2.2.2.2.2.2 hW.2.2.2.2.2.2.1 hW.2.2.2.2.2.2.2.1
  have hov : ∀ v ∈ (Value.ref kk :: as'), zov M.1 v := fun v hv => ho.1 v (List.mem_append_left _ (List.mem_reverse.mpr hv))
  have horest : zoL M.1 ls rest := ⟨fun v hv => ho.1 v (List.mem_append_right _ hv), ho.2⟩
  have hws : ∀ w ∈ (Cond.code y bytes maxL none :: gT), w ∈ gT := List.forall_mem_cons.mpr ⟨hco, fun _ h => h⟩
  rw [List.map_append, List.map_reverse]
  have hcat := zcat_le (rest.map (zcv ad))
  rw [List.length_map] at hcat
  refine zcall hW horest hl c1 c2 (va_runIN (Ts := gT) (b := ad kk) (As := as'.map (zcv ad)) (rest := rest.map (zcv ad)) ⟨C.1, C.2.1, C.2.2.1, C.2.2.2.2.1, C.2.2.2.2.2.1⟩ (hM ad M _ _ H.size hC) ⟨va_cnB n C.2.2.2.2.2.1 (gT_good hws) rfl rfl rfl (C.2.2.2.2.2.2.2.2.1.1 _ hlk) (C.2.2.2.2.2.1 _ hin) hdn hR, hni, C.2.2.2.2.2.1 _ him⟩ (zpre C hW hov) rfl (by rw [List.length_map]; exact hlen) hl.1 (by rw [List.map_cons, List.reverse_cons, List.append_assoc]; rfl) (lv_room (by omega)) hd c3) (fun r M' hK => k C M' ls _ hK)
end ZC
end
section
/-! MAKING, Object's constructor, Math, what stands outside -/
/-- a new row in the memory: zero, null -/
def zrw {α : Type} (f : Nat → Nat → α) (k : Nat) (v : α) : Nat → Nat → α := fun k' => if k' = k then (fun _ => v) else f k'
theorem zrw_s {α : Type} {f : Nat → Nat → α} {k : Nat} {v : α} : zrw f k v k = fun _ => v := by simp [zrw]
theorem zrw_n {α : Type} {f : Nat → Nat → α} {k k' : Nat} {v : α} (h : k' ≠ k) : zrw f k v k' = f k' := by simp [zrw, h]
def znw (M : zMm) (k : Nat) : zMm := (M.1 ++ [k], zrw M.2.1 k 0, zrw M.2.2.1 k 0, zrw M.2.2.2 k none)
theorem zss_app (L : List Nat) (k : Nat) : zss (L ++ [k]) = zss L + zsz k := by simp [zss]
theorem zen_new {Y : Nat → ClassId} {ad : Nat → Nat} {M : zMm} (hO : zom M) {k k' q : Nat} (hk : k ∉ M.1) (hk' : k' ∈ M.1) : zen Y (va_up ad k q) (znw M k) k' = zen Y ad M k' := by
  have hne : k' ≠ k := fun e => hk (e ▸ hk')
  have h1 : (znw M k).2.1 k' = M.2.1 k' := zrw_n hne
  have h2 : (znw M k).2.2.1 k' = M.2.2.1 k' := zrw_n hne
  have h3 : (znw M k).2.2.2 k' = M.2.2.2 k' := zrw_n hne
  have h4 : ∀ j, ((M.2.2.2 k' j).map (va_up ad k q)) = (M.2.2.2 k' j).map ad := by
    intro j
    cases hj : M.2.2.2 k' j with
    | none => rfl
    | some t =>
      have ht : t ≠ k := fun e => hk (e ▸ hO.2.2 k' hk' j t hj)
      simp [va_up, ht]
  have h5 : ∀ j t, zfv (va_up ad k q) (znw M k) k' j t = zfv ad M k' j t := by
    intro j t
    unfold zfv
    rw [h1, h2, h3, h4]
  unfold zen zfl
  rw [h1, h2, h3]
  simp only [h4, h5]
theorem zwl_new {Y : Nat → ClassId} {ad : Nat → Nat} {M : zMm} (hO : zom M) {k q : Nat} (hk : k ∉ M.1) {e : va_E} (he : zen Y (va_up ad k q) (znw M k) k = e) : zwl Y (va_up ad k q) (znw M k) = zwl Y ad M ++ [(q, e)] := by
  unfold zwl
  rw [show (znw M k).1 = M.1 ++ [k] from rfl, List.map_append]
  congr 1
  · refine List.map_congr_left fun k' hk' => ?_
    have hne : k' ≠ k := fun e => hk (e ▸ hk')
    rw [zen_new hO hk hk', zup_n hne]
  · simp only [List.map_cons, List.map_nil]
    rw [he, zup_s]
theorem zom_new {M : zMm} (hO : zom M) {k : Nat} (hk : k ∉ M.1) (hk2 : k < 2000) : zom (znw M k) := by
  refine ⟨?_, fun k' h => ?_, fun k' h j t ht => ?_⟩
  · show (M.1 ++ [k]).Nodup
    rw [List.nodup_append]
    refine ⟨hO.1, by simp, fun a ha b hb => ?_⟩
    have : b = k := by simpa using hb
    subst this
    exact fun e => hk (e ▸ ha)
  · rcases List.mem_append.mp (show k' ∈ M.1 ++ [k] from h) with h | h
    · exact hO.2.1 k' h
    · have : k' = k := by simpa using h
      omega
  · rcases List.mem_append.mp (show k' ∈ M.1 ++ [k] from h) with h | h
    · have hne : k' ≠ k := fun e => hk (e ▸ h)
      have h3 : (znw M k).2.2.2 k' = M.2.2.2 k' := zrw_n hne
      rw [h3] at ht
      exact List.mem_append_left _ (hO.2.2 k' h j t ht)
    · have : k' = k := by simpa using h
      subst this
      have h3 : (znw M k').2.2.2 k' = fun _ => none := zrw_s
      rw [h3] at ht
      cases ht
theorem zWH.new {D : va_G} {Y : Nat → ClassId} {ad0 ad : Nat → Nat} {L0 : List Nat} {s : State} {R : Room} {M : zMm} {H H1 : Heap} {locs : List Loc} {k q : Nat} {e : va_E} (h : zWH D Y ad0 L0 s R ad M H locs) (hk : k ∉ M.1) (hk2 : k < 2000) (he : zen Y (va_up ad k q) (znw M k) k = e) (hl1 : M.1.length + 1 ≤ L0.length + R.cells) (hl2 : zss M.1 + zsz k ≤ zss L0 + R.slots)
    (hP : va_P D vwCl (zwl Y ad M ++ [(q, e)]) H1) (hD : va_D (zAA ad0 L0 s.heap.size) (zwl Y ad M ++ [(q, e)])) (hS : va_S (zAA ad0 L0 s.heap.size) s.heap H1 locs) : zWH D Y ad0 L0 s R (va_up ad k q) (znw M k) H1 locs := by
  have e1 := zwl_new (Y := Y) (ad := ad) h.2.2.2.1 hk he
  refine ⟨by rw [e1]; exact hP, by rw [e1]; exact hD, hS, zom_new h.2.2.2.1 hk hk2, fun k' hk' => ?_, fun k' hk' => ?_, ?_, ?_, ?_, ?_⟩
  · obtain ⟨h1, h2⟩ := h.2.2.2.2.1 k' hk'
    have hne : k' ≠ k := fun e => hk (e ▸ h1)
    exact ⟨List.mem_append_left _ h1, by rw [zup_n hne]; exact h2⟩
  · rw [zup_n (by omega)]
    exact h.2.2.2.2.2.1 k' hk'
  · have := h.2.2.2.2.2.2.1
    show _ ≤ (M.1 ++ [k]).length
    simp
    omega
  · have := h.2.2.2.2.2.2.2.1
    show _ ≤ zss (M.1 ++ [k])
    rw [zss_app]
    omega
  · show (M.1 ++ [k]).length ≤ _
    simp
    omega
  · show zss (M.1 ++ [k]) ≤ _
    rw [zss_app]
    omega
theorem zdc_new {L0 L : List Nat} {k : Nat} (h : L0.length ≤ L.length) : zdc L0 (L ++ [k]) = zdc L0 L + 1 := by
  unfold zdc
  simp
  omega
theorem zds_new {L0 L : List Nat} {k : Nat} (h : zss L0 ≤ zss L) : zds L0 (L ++ [k]) = zds L0 L + zsz k := by
  unfold zds
  rw [zss_app]
  omega
section ZM
variable {X : zCt} {own nm : String} {cc : ByteArray} {nL : Nat} {ret : Option FieldType} {pc : Nat} {P : zPP}
/-- 'new': any free number of the right shape may be taken -/
def zT_new (ci n lc lz : Nat) (P : zPP) : zPP := fun M ls st => ∃ k, k ∉ M.1 ∧ zsh k = (5, ci, n) ∧ M.1.length + 1 ≤ lc ∧ zss M.1 + n ≤ lz ∧ P (znw M k) ls (.ref k :: st)
def zT_newa (tag lc lz : Nat) (P : zPP) : zPP := fun M ls st => match st with
  | .int x :: r => ∃ k, k ∉ M.1 ∧ zsh k = (tag, x.toNatClampNeg, 0) ∧ ¬ x < 0 ∧ x.toNatClampNeg ≤ 1000 ∧ M.1.length + 1 ≤ lc ∧ zss M.1 + x.toNatClampNeg ≤ lz ∧ P (znw M k) ls (.ref k :: r)
  | _ => False
theorem zsz_obj {k c n : Nat} (h : zsh k = (5, c, n)) : zsz k = n := by
  unfold zsz
  rw [h]
  rfl
/-- the frame behind a making -/
theorem zmk {p : Program} {l : Launch} {e : Env} {R : Room} {s : State} {m : MethodId} {args : Array Value} {below : List Frame} {meth : Method} {c : Code} {D : va_G} {Y : Nat → ClassId} {ad0 ad : Nat → Nat} {M0 M : zMm} {K : zKt} {H H1 : Heap} {locs : List Loc} {lsA : Array Slot} {ls : zLo} {r : List Value} {k q pc' : Nat} {en : va_E}
    (hG : zGD (p, l, e, R, s, m, args, below, meth, c, D, Y, ad0, M0, K) nL pc' (znw M k) ls (.ref k :: r)) (hW : zWH D Y ad0 M0.1 s R ad M H locs) (ho : zoL M.1 ls r) (hl : lv_has lsA nL (zlcv ad 0 ls)) (hk : k ∉ M.1) (hk2 : k < 2000) (he : zen Y (va_up ad k q) (znw M k) k = en) (hl1 : M.1.length + 1 ≤ M0.1.length + R.cells) (hl2 : zss M.1 + zsz k ≤ zss M0.1 + R.slots)
    (hP : va_P D vwCl (zwl Y ad M ++ [(q, en)]) H1) (hD : va_D (zAA ad0 M0.1 s.heap.size) (zwl Y ad M ++ [(q, en)])) (hS : va_S (zAA ad0 M0.1 s.heap.size) s.heap H1 locs) :
    W p l e R s m args below meth c H1 locs (zdc M0.1 M.1 + 1) (zds M0.1 M.1 + zsz k) (MQ below (zQt D Y K ad0 M0 s.heap.size R.cells R.slots) args s R.cells R.slots (zAA ad0 M0.1 s.heap.size)) (F0 m pc' lsA (.ref q :: r.map (zcv ad))) := by
  have h1 : ∀ k' ∈ M.1, va_up ad k q k' = ad k' := fun k' h => zup_n (fun e => hk (e ▸ h))
  have h2 : ∀ k', 2000 ≤ k' → va_up ad k q k' = ad k' := fun k' h => zup_n (by omega)
  have hup : ∀ v, zov M.1 v → zov (M.1 ++ [k]) v := by
    intro v hv
    cases v with
    | ref t => exact hv.elim (fun h => Or.inl (List.mem_append_left _ h)) Or.inr
    | _ => trivial
  have hG2 := hG (va_up ad k q) H1 locs lsA (hW.new hk hk2 he hl1 hl2 hP hD hS) ⟨fun v hv => by
      rcases List.mem_cons.mp hv with rfl | hv
      · exact Or.inl (List.mem_append_right _ List.mem_cons_self)
      · exact hup v (ho.1 v hv), fun i v hv => hup v (ho.2 i v hv)⟩ (zlv_eq h1 h2 ho.2 hl)
  rw [List.map_cons, zmap_eq h1 h2 ho.1] at hG2
  have e3 : zcv (va_up ad k q) (.ref k) = .ref q := by
    show Value.ref (va_up ad k q k) = _
    rw [zup_s]
  rw [e3] at hG2
  have e4 : zdc M0.1 (znw M k).1 = zdc M0.1 M.1 + 1 := zdc_new hW.2.2.2.2.2.2.1
  have e5 : zds M0.1 (znw M k).1 = zds M0.1 M.1 + zsz k := zds_new hW.2.2.2.2.2.2.2.1
  rw [e4, e5] at hG2
  exact hG2
theorem zs_new {ci n idx lc lz : Nat} {Cn : String} {T : u_T} {ty0 : Nat → FieldType} (hc : vwCl[ci]? = some (Cn, T, n)) (hin : ∀ w ∈ u_ws Cn T n, w ∈ gT) (hty : ∀ k, k < n → parseFieldDescriptor (T k).2.2.1 = some (ty0 k)) (hcl : Cond.classLink own idx Cn ∈ gT) (hit : Cond.instantiable Cn n ∈ gT) (hini : Cond.initialized Cn ∈ gT) (hdf : ∀ j, j < n → defaultValue (ty0 j) = (match zft ci j with | 0 => .int 0 | 1 => .long 0 | _ => .null)) (h1 : lc = zlc X) (h2 : lz = zls X) (hd : decode cc pc = .ok (.new idx, 3)) (kk : zSd X own nm cc nL ret (pc + 3) P) : zSd X own nm cc nL ret pc (zT_new ci n lc lz P) := by
  intro C M ls st h
  obtain ⟨k, hk, hsh, g1, g2, hp⟩ := h
  subst h1 h2
  have hG := kk C _ ls _ hp
  obtain ⟨p, l, e, R, s, m, args, below, meth, c, D, Y, ad0, M0, K⟩ := X
  intro ad H locs lsA hW ho hl
  have g1' : M.1.length + 1 ≤ M0.1.length + R.cells := g1
  have g2' : zss M.1 + n ≤ zss M0.1 + R.slots := g2
  have b1 := hW.2.2.2.2.2.2.1
  have b2 := hW.2.2.2.2.2.2.2.1
  have hz := zsz_obj hsh
  have hen : ∀ q, zen Y (va_up ad k q) (znw M k) k = .inr (ci, zfl (va_up ad k q) (znw M k) k ci n) := fun q => zen_obj hsh
  have hfl : ∀ q, zfl (va_up ad k q) (znw M k) k ci n = zfl ad (znw M k) k ci n := by
    intro q
    unfold zfl
    refine List.map_congr_left fun j _ => ?_
    unfold zfv
    rw [show (znw M k).2.2.2 k = fun _ => none from zrw_s]
    rfl
  refine va_new (fs := zfl ad (znw M k) k ci n) C.1 C.2.1 C.2.2.2.2.2.1 hin ty0 hty C.2.2.2.2.1 (C.2.2.2.2.2.1 _ hcl) (C.2.2.2.2.2.1 _ hit) (C.2.2.2.2.2.1 _ hini) C.2.2.2.2.2.2.2.1 hW.1 hW.2.1 hW.2.2.1 (fun q h => Or.inr h) hc ?_ (by unfold zdc; omega) (by unfold zds; omega) hd (fun q H1 hP hD hS => ?_)
  · intro j hj
    have hv : vp_V (zfl ad (znw M k) k ci n) j = zfv ad (znw M k) k j (zft ci j) := by
      unfold vp_V
      rw [List.getD_eq_getElem?_getD, zfl_get hj]
      rfl
    rw [hdf j hj, hv]
    unfold zfv
    rw [show (znw M k).2.1 k = fun _ => 0 from zrw_s, show (znw M k).2.2.1 k = fun _ => 0 from zrw_s, show (znw M k).2.2.2 k = fun _ => none from zrw_s]
    generalize zft ci j = t
    rcases t with _ | _ | t <;> rfl
  · have hr := zmk (q := q) (en := .inr (ci, zfl ad (znw M k) k ci n)) hG hW ho hl hk (zsh_lt hsh (by decide)) (by rw [hen q, hfl q]) g1' (by rw [hz]; exact g2') hP hD hS
    rw [hz] at hr
    exact hr
theorem zcls {s : State} {a b : ClassId} {ty : FieldType} (h1 : s.vm.findClass ("[" ++ ty.toString) = some a) (h2 : s.vm.findClass ("[" ++ ty.toString) = some b) : a = b := Option.some.inj (h1.symm.trans h2)
theorem zs_newI {lc lz : Nat} (hac : Cond.arrayClass .int ∈ gT) (h1 : lc = zlc X) (h2 : lz = zls X) (hd : decode cc pc = .ok (.newarray .int, 2)) (kk : zSd X own nm cc nL ret (pc + 2) P) : zSd X own nm cc nL ret pc (zT_newa 0 lc lz P) := by
  intro C M ls st h
  unfold zT_newa at h
  split at h
  · next x r =>
    obtain ⟨k, hk, hsh, hx0, hx1, g1, g2, hp⟩ := h
    subst h1 h2
    have hG := kk C _ ls _ hp
    obtain ⟨p, l, e, R, s, m, args, below, meth, c, D, Y, ad0, M0, K⟩ := X
    intro ad H locs lsA hW ho hl
    have g1' : M.1.length + 1 ≤ M0.1.length + R.cells := g1
    have g2' : zss M.1 + x.toNatClampNeg ≤ zss M0.1 + R.slots := g2
    have b1 := hW.2.2.2.2.2.2.1
    have b2 := hW.2.2.2.2.2.2.2.1
    have hz : zsz k = x.toNatClampNeg := by unfold zsz; rw [hsh]; rfl
    refine va_newa (a0 := (x.toNatClampNeg, .inl (fun _ => 0))) (atype := .int) (ty := .int) C.1 C.2.1 (C.2.2.2.2.2.1 _ hac) rfl C.2.2.2.2.2.2.2.1 hW.1 hW.2.1 hW.2.2.1 (fun q h => Or.inr h) (fun cA => rfl) hx0 rfl (by show x.toNatClampNeg * 4 ≤ _; omega) (by unfold zdc; omega) (by unfold zds; omega) hd (fun q cA H1 hK hP hD hS => ?_)
    have hcA : cA = Y 0 := zcls (ty := .int) (hK.2 5 (cA, .int) rfl).2 (hK.2 0 (Y 0, .int) rfl).2
    subst hcA
    have hr := zmk (q := q) (en := .inl (Y 0, x.toNatClampNeg, .inl (fun _ => 0))) hG hW ho.top.2 hl hk (zsh_lt hsh (by decide)) (by rw [zen_0 (by rw [hsh]), hsh, show (znw M k).2.1 k = fun _ => 0 from zrw_s]) g1' (by rw [hz]; exact g2') hP hD hS
    rw [hz] at hr
    exact hr
  · exact h.elim
theorem zs_newZ {lc lz : Nat} (hac : Cond.arrayClass .boolean ∈ gT) (h1 : lc = zlc X) (h2 : lz = zls X) (hd : decode cc pc = .ok (.newarray .boolean, 2)) (kk : zSd X own nm cc nL ret (pc + 2) P) : zSd X own nm cc nL ret pc (zT_newa 1 lc lz P) := by
  intro C M ls st h
  unfold zT_newa at h
  split at h
  · next x r =>
    obtain ⟨k, hk, hsh, hx0, hx1, g1, g2, hp⟩ := h
    subst h1 h2
    have hG := kk C _ ls _ hp
    obtain ⟨p, l, e, R, s, m, args, below, meth, c, D, Y, ad0, M0, K⟩ := X
    intro ad H locs lsA hW ho hl
    have g1' : M.1.length + 1 ≤ M0.1.length + R.cells := g1
    have g2' : zss M.1 + x.toNatClampNeg ≤ zss M0.1 + R.slots := g2
    have b1 := hW.2.2.2.2.2.2.1
    have b2 := hW.2.2.2.2.2.2.2.1
    have hz : zsz k = x.toNatClampNeg := by unfold zsz; rw [hsh]; rfl
    refine va_newa (a0 := (x.toNatClampNeg, .inl (fun _ => 0))) (atype := .boolean) (ty := .boolean) C.1 C.2.1 (C.2.2.2.2.2.1 _ hac) rfl C.2.2.2.2.2.2.2.1 hW.1 hW.2.1 hW.2.2.1 (fun q h => Or.inr h) (fun cA => rfl) hx0 rfl (by show x.toNatClampNeg * 1 ≤ _; omega) (by unfold zdc; omega) (by unfold zds; omega) hd (fun q cA H1 hK hP hD hS => ?_)
    have hcA : cA = Y 1 := zcls (ty := .boolean) (hK.2 5 (cA, .boolean) rfl).2 (hK.2 1 (Y 1, .boolean) rfl).2
    subst hcA
    have hr := zmk (q := q) (en := .inl (Y 1, x.toNatClampNeg, .inl (fun _ => 0))) hG hW ho.top.2 hl hk (zsh_lt hsh (by decide)) (by rw [zen_1 (by rw [hsh]), hsh, show (znw M k).2.1 k = fun _ => 0 from zrw_s]) g1' (by rw [hz]; exact g2') hP hD hS
    rw [hz] at hr
    exact hr
  · exact h.elim
theorem zs_newB {lc lz : Nat} (hac : Cond.arrayClass .byte ∈ gT) (h1 : lc = zlc X) (h2 : lz = zls X) (hd : decode cc pc = .ok (.newarray .byte, 2)) (kk : zSd X own nm cc nL ret (pc + 2) P) : zSd X own nm cc nL ret pc (zT_newa 2 lc lz P) := by
  intro C M ls st h
  unfold zT_newa at h
  split at h
  · next x r =>
    obtain ⟨k, hk, hsh, hx0, hx1, g1, g2, hp⟩ := h
    subst h1 h2
    have hG := kk C _ ls _ hp
    obtain ⟨p, l, e, R, s, m, args, below, meth, c, D, Y, ad0, M0, K⟩ := X
    intro ad H locs lsA hW ho hl
    have g1' : M.1.length + 1 ≤ M0.1.length + R.cells := g1
    have g2' : zss M.1 + x.toNatClampNeg ≤ zss M0.1 + R.slots := g2
    have b1 := hW.2.2.2.2.2.2.1
    have b2 := hW.2.2.2.2.2.2.2.1
    have hz : zsz k = x.toNatClampNeg := by unfold zsz; rw [hsh]; rfl
    refine va_newa (a0 := (x.toNatClampNeg, .inl (fun _ => 0))) (atype := .byte) (ty := .byte) C.1 C.2.1 (C.2.2.2.2.2.1 _ hac) rfl C.2.2.2.2.2.2.2.1 hW.1 hW.2.1 hW.2.2.1 (fun q h => Or.inr h) (fun cA => rfl) hx0 rfl (by show x.toNatClampNeg * 1 ≤ _; omega) (by unfold zdc; omega) (by unfold zds; omega) hd (fun q cA H1 hK hP hD hS => ?_)
    have hcA : cA = Y 2 := zcls (ty := .byte) (hK.2 5 (cA, .byte) rfl).2 (hK.2 2 (Y 2, .byte) rfl).2
    subst hcA
    have hr := zmk (q := q) (en := .inl (Y 2, x.toNatClampNeg, .inl (fun _ => 0))) hG hW ho.top.2 hl hk (zsh_lt hsh (by decide)) (by rw [zen_2 (by rw [hsh]), hsh, show (znw M k).2.1 k = fun _ => 0 from zrw_s]) g1' (by rw [hz]; exact g2') hP hD hS
    rw [hz] at hr
    exact hr
  · exact h.elim
theorem zs_newJ {lc lz : Nat} (hac : Cond.arrayClass .long ∈ gT) (h1 : lc = zlc X) (h2 : lz = zls X) (hd : decode cc pc = .ok (.newarray .long, 2)) (kk : zSd X own nm cc nL ret (pc + 2) P) : zSd X own nm cc nL ret pc (zT_newa 3 lc lz P) := by
  intro C M ls st h
  unfold zT_newa at h
  split at h
  · next x r =>
    obtain ⟨k, hk, hsh, hx0, hx1, g1, g2, hp⟩ := h
    subst h1 h2
    have hG := kk C _ ls _ hp
    obtain ⟨p, l, e, R, s, m, args, below, meth, c, D, Y, ad0, M0, K⟩ := X
    intro ad H locs lsA hW ho hl
    have g1' : M.1.length + 1 ≤ M0.1.length + R.cells := g1
    have g2' : zss M.1 + x.toNatClampNeg ≤ zss M0.1 + R.slots := g2
    have b1 := hW.2.2.2.2.2.2.1
    have b2 := hW.2.2.2.2.2.2.2.1
    have hz : zsz k = x.toNatClampNeg := by unfold zsz; rw [hsh]; rfl
    refine va_newa (a0 := (x.toNatClampNeg, .inr (.inl (fun _ => 0)))) (atype := .long) (ty := .long) C.1 C.2.1 (C.2.2.2.2.2.1 _ hac) rfl C.2.2.2.2.2.2.2.1 hW.1 hW.2.1 hW.2.2.1 (fun q h => Or.inr h) (fun cA => rfl) hx0 rfl (by show x.toNatClampNeg * 8 ≤ _; omega) (by unfold zdc; omega) (by unfold zds; omega) hd (fun q cA H1 hK hP hD hS => ?_)
    have hcA : cA = Y 3 := zcls (ty := .long) (hK.2 5 (cA, .long) rfl).2 (hK.2 3 (Y 3, .long) rfl).2
    subst hcA
    have hr := zmk (q := q) (en := .inl (Y 3, x.toNatClampNeg, .inr (.inl (fun _ => 0)))) hG hW ho.top.2 hl hk (zsh_lt hsh (by decide)) (by rw [zen_3 (by rw [hsh]), hsh, show (znw M k).2.2.1 k = fun _ => 0 from zrw_s]) g1' (by rw [hz]; exact g2') hP hD hS
    rw [hz] at hr
    exact hr
  · exact h.elim
theorem zs_newq {idx lc lz : Nat} (hcl : Cond.classLink own idx RX6 ∈ gT) (h1 : lc = zlc X) (h2 : lz = zls X) (hd : decode cc pc = .ok (.anewarray idx, 3)) (kk : zSd X own nm cc nL ret (pc + 3) P) : zSd X own nm cc nL ret pc (zT_newa 4 lc lz P) := by
  intro C M ls st h
  unfold zT_newa at h
  split at h
  · next x r =>
    obtain ⟨k, hk, hsh, hx0, hx1, g1, g2, hp⟩ := h
    subst h1 h2
    have hG := kk C _ ls _ hp
    obtain ⟨p, l, e, R, s, m, args, below, meth, c, D, Y, ad0, M0, K⟩ := X
    intro ad H locs lsA hW ho hl
    have g1' : M.1.length + 1 ≤ M0.1.length + R.cells := g1
    have g2' : zss M.1 + x.toNatClampNeg ≤ zss M0.1 + R.slots := g2
    have b1 := hW.2.2.2.2.2.2.1
    have b2 := hW.2.2.2.2.2.2.2.1
    have hz : zsz k = x.toNatClampNeg := by unfold zsz; rw [hsh]; rfl
    refine va_newq C.1 C.2.1 C.2.2.2.2.1 (C.2.2.2.2.2.1 _ hcl) C.2.2.2.2.2.2.2.2.1.2.2.2.1 C.2.2.2.2.2.2.2.1 hW.1 hW.2.1 hW.2.2.1 (fun q h => Or.inr h) hx0 rfl (by omega) (by unfold zdc; omega) (by unfold zds; omega) hd (fun q cA H1 hK hP hD hS => ?_)
    have hcA : cA = Y 4 := by
      obtain ⟨kA, comp, -, -, -, w1⟩ := (hK.2 5 (cA, .object RX6) rfl).2
      obtain ⟨kA', comp', -, -, -, w2⟩ := (hK.2 4 (Y 4, .object RX6) rfl).2
      exact zcls (ty := .object RX6) w1 w2
    subst hcA
    have hr := zmk (q := q) (en := .inl (Y 4, x.toNatClampNeg, .inr (.inr (.inr (.inr (fun _ => none)))))) hG hW ho.top.2 hl hk (zsh_lt hsh (by decide)) (by rw [zen_4 (by rw [hsh]), hsh, show (znw M k).2.2.2 k = fun _ => none from zrw_s]; rfl) g1' (by rw [hz]; exact g2') hP hD hS
    rw [hz] at hr
    exact hr
  · exact h.elim
/-- Object's constructor -/
def zT_oi (P : zPP) : zPP := fun M ls st => match st with
  | .ref _ :: r => r.length ≤ 4 ∧ P M ls r
  | _ => False
theorem zs_oi {idx : Nat} (hlk : Cond.methodLink own idx objectInit ∈ gT) (him : Cond.instanceMethod objectInit ∈ gT) (hco : Cond.code objectInit ⟨#[0xb1]⟩ 1 none ∈ gT) (hR : 1 ≤ (zRX X).frames ∧ 20 ≤ (zRX X).locals) (hd : decode cc pc = .ok (.invokespecial idx, 3)) (k : zSd X own nm cc nL ret (pc + 3) P) : zSd X own nm cc nL ret pc (zT_oi P) := by
  intro C M ls st h
  obtain ⟨p, l, e, R, s, m, args, below, meth, c, D, Y, ad0, M0, K⟩ := X
  unfold zT_oi at h
  split at h
  · next kk r =>
    intro ad H locs lsA hW ho hl
    have hR1 : 1 ≤ R.frames := hR.1
    have hR2 : 20 ≤ R.locals := hR.2
    have hcat := zcat_le (r.map (zcv ad))
    rw [List.length_map] at hcat
    have hroom : 2 * (F0 m pc lsA (Value.ref (ad kk) :: r.map (zcv ad))).monitorRoom + ((r.map (zcv ad)).map fun v => v.category).sum ≤ 8 := lv_room (by have := h.1; omega)
    exact W.objInit C.1 C.2.1 C.2.2.2.2.1 (C.2.2.2.2.2.1 _ hlk) (C.2.2.2.2.2.1 _ him) (C.2.2.2.2.2.1 _ hco) rfl (hl.1.trans C.2.2.1.symm) rfl hd hR1 (Nat.le_trans (Nat.add_le_add_right hroom 12) hR2) (k C M ls _ h.2 ad H locs lsA hW ho.top.2 hl)
  · exact h.elim
def zT_mm (f : Int32 → Int32 → Int32) (P : zPP) : zPP := fun M ls st => match st with
  | .int y :: .int x :: r => r.length ≤ 4 ∧ P M ls (.int (f x y) :: r)
  | _ => False
theorem zs_min {idx : Nat} (hlk : Cond.methodLink own idx Lib.Math.min.name ∈ gT) (hst : Cond.static Lib.Math.min.name ∈ gT) (hin : Cond.initialized "java/lang/Math" ∈ gT) (hco : Cond.code Lib.Math.min.name Lib.Math.min.code 2 (some .int) ∈ gT) (hR : 1 ≤ (zRX X).frames ∧ 21 ≤ (zRX X).locals) (hd : decode cc pc = .ok (.invokestatic idx, 3)) (k : zSd X own nm cc nL ret (pc + 3) P) : zSd X own nm cc nL ret pc (zT_mm (fun x y => if y < x then y else x) P) := by
  intro C M ls st h
  obtain ⟨p, l, e, R, s, m, args, below, meth, c, D, Y, ad0, M0, K⟩ := X
  unfold zT_mm at h
  split at h
  · next x y r =>
    intro ad H locs lsA hW ho hl
    have hR1 : 1 ≤ R.frames := hR.1
    have hR2 : 21 ≤ R.locals := hR.2
    have hcat := zcat_le (r.map (zcv ad))
    rw [List.length_map] at hcat
    exact va_mmin C.1 C.2.1 (C.2.2.1.trans hl.1.symm) C.2.2.2.2.1 (C.2.2.2.2.2.1 _ hlk) (C.2.2.2.2.2.1 _ hst) (C.2.2.2.2.2.1 _ hin) (C.2.2.2.2.2.1 _ hco) hR1 (by have := h.1; omega) (zwid hW).1 (zwid hW).2 hd (k C M ls _ h.2 ad H locs lsA hW (ho.top.2.top.2.push trivial) hl)
  · exact h.elim
theorem zs_max {idx : Nat} (hlk : Cond.methodLink own idx Lib.Math.max.name ∈ gT) (hst : Cond.static Lib.Math.max.name ∈ gT) (hin : Cond.initialized "java/lang/Math" ∈ gT) (hco : Cond.code Lib.Math.max.name Lib.Math.max.code 2 (some .int) ∈ gT) (hR : 1 ≤ (zRX X).frames ∧ 21 ≤ (zRX X).locals) (hd : decode cc pc = .ok (.invokestatic idx, 3)) (k : zSd X own nm cc nL ret (pc + 3) P) : zSd X own nm cc nL ret pc (zT_mm (fun x y => if x < y then y else x) P) := by
  intro C M ls st h
  obtain ⟨p, l, e, R, s, m, args, below, meth, c, D, Y, ad0, M0, K⟩ := X
  unfold zT_mm at h
  split at h
  · next x y r =>
    intro ad H locs lsA hW ho hl
    have hR1 : 1 ≤ R.frames := hR.1
    have hR2 : 21 ≤ R.locals := hR.2
    have hcat := zcat_le (r.map (zcv ad))
    rw [List.length_map] at hcat
    exact va_mmax C.1 C.2.1 (C.2.2.1.trans hl.1.symm) C.2.2.2.2.1 (C.2.2.2.2.2.1 _ hlk) (C.2.2.2.2.2.1 _ hst) (C.2.2.2.2.2.1 _ hin) (C.2.2.2.2.2.1 _ hco) hR1 (by have := h.1; omega) (zwid hW).1 (zwid hW).2 hd (k C M ls _ h.2 ad H locs lsA hW (ho.top.2.top.2.push trivial) hl)
  · exact h.elim
/-- the two tables of sides -/
theorem zs_sx (hown : own = RX5) (hd : decode cc pc = .ok (.getstatic 89, 3)) (k : zSd X own nm cc nL ret (pc + 3) P) : zSd X own nm cc nL ret pc (zT_push (.ref 2001) P) := by
  intro C M ls st h
  obtain ⟨p, l, e, R, s, m, args, below, meth, c, D, Y, ad0, M0, K⟩ := X
  subst hown
  intro ad H locs lsA hW ho hl
  obtain ⟨x1, x2, x3, x4, x5, x6, x7, x8, x9⟩ := C.2.2.2.2.2.2.2.2.1
  have hG := k C M ls _ h ad H locs lsA hW (ho.push (Or.inr (by decide))) hl
  rw [List.map_cons, show zcv ad (.ref 2001) = .ref (ad0 2001) from by show Value.ref (ad 2001) = _; rw [hW.2.2.2.2.2.1 2001 (by decide)]] at hG
  exact va_getsN C.1 C.2.1 x5 hW.2.2.1 C.2.2.2.2.1 (va_Nw.use rfl x2) (fun _ h => h) hd hG
theorem zs_sy (hown : own = RX5) (hd : decode cc pc = .ok (.getstatic 92, 3)) (k : zSd X own nm cc nL ret (pc + 3) P) : zSd X own nm cc nL ret pc (zT_push (.ref 2002) P) := by
  intro C M ls st h
  obtain ⟨p, l, e, R, s, m, args, below, meth, c, D, Y, ad0, M0, K⟩ := X
  subst hown
  intro ad H locs lsA hW ho hl
  obtain ⟨x1, x2, x3, x4, x5, x6, x7, x8, x9⟩ := C.2.2.2.2.2.2.2.2.1
  have hG := k C M ls _ h ad H locs lsA hW (ho.push (Or.inr (by decide))) hl
  rw [List.map_cons, show zcv ad (.ref 2002) = .ref (ad0 2002) from by show Value.ref (ad 2002) = _; rw [hW.2.2.2.2.2.1 2002 (by decide)]] at hG
  exact va_getsN C.1 C.2.1 x7 hW.2.2.1 C.2.2.2.2.1 (va_Nw.use rfl x3) (fun _ h => h) hd hG
def zT_ialX (kx : Nat) (f : Nat → Int32) (P : zPP) : zPP := fun M ls st => match st with
  | .int i :: .ref k :: r => k = kx ∧ vp_in i 4 ∧ P M ls (.int (f i.toNatClampNeg) :: r)
  | _ => False
theorem zs_ialX (hd : decode cc pc = .ok (.iaload, 1)) (k : zSd X own nm cc nL ret (pc + 1) P) : zSd X own nm cc nL ret pc (zT_ialX 2001 zXs P) := by
  intro C M ls st h
  obtain ⟨p, l, e, R, s, m, args, below, meth, c, D, Y, ad0, M0, K⟩ := X
  unfold zT_ialX at h
  split at h
  · next i kk r =>
    intro ad H locs lsA hW ho hl
    obtain ⟨rfl, h2, h3⟩ := h
    obtain ⟨x1, x2, x3, x4, x5, x6, x7, x8, x9⟩ := C.2.2.2.2.2.2.2.2.1
    have hG := k C M ls _ h3 ad H locs lsA hW (ho.top.2.top.2.push trivial) hl
    show W p l e R s m args below meth c H locs _ _ _ (F0 m pc lsA (.int i :: .ref (ad 2001) :: _))
    rw [hW.2.2.2.2.2.1 2001 (by decide)]
    exact va_ti C.1 C.2.1 x6 hW.2.2.1 h2 rfl hd hG
  · exact h.elim
theorem zs_ialY (hd : decode cc pc = .ok (.iaload, 1)) (k : zSd X own nm cc nL ret (pc + 1) P) : zSd X own nm cc nL ret pc (zT_ialX 2002 zYs P) := by
  intro C M ls st h
  obtain ⟨p, l, e, R, s, m, args, below, meth, c, D, Y, ad0, M0, K⟩ := X
  unfold zT_ialX at h
  split at h
  · next i kk r =>
    intro ad H locs lsA hW ho hl
    obtain ⟨rfl, h2, h3⟩ := h
    obtain ⟨x1, x2, x3, x4, x5, x6, x7, x8, x9⟩ := C.2.2.2.2.2.2.2.2.1
    have hG := k C M ls _ h3 ad H locs lsA hW (ho.top.2.top.2.push trivial) hl
    show W p l e R s m args below meth c H locs _ _ _ (F0 m pc lsA (.int i :: .ref (ad 2002) :: _))
    rw [hW.2.2.2.2.2.1 2002 (by decide)]
    exact va_ti C.1 C.2.1 x8 hW.2.2.1 h2 rfl hd hG
  · exact h.elim
theorem zs_ldcS (i : Nat) (hi : i < 8) {idx : Nat} (hx : idx = zSi i) (hown : own = RX3) (hd : decode cc pc = .ok (.ldc idx, 2)) (k : zSd X own nm cc nL ret (pc + 2) P) : zSd X own nm cc nL ret pc (zT_push (.ref (2010 + i)) P) := by
  intro C M ls st h
  obtain ⟨p, l, e, R, s, m, args, below, meth, c, D, Y, ad0, M0, K⟩ := X
  subst hown hx
  intro ad H locs lsA hW ho hl
  obtain ⟨x1, x2, x3, x4, x5, x6, x7, x8, x9, x10, x11⟩ := C.2.2.2.2.2.2.2.2.1
  have hG := k C M ls _ h ad H locs lsA hW (ho.push (Or.inr (Nat.le_trans (by decide) (Nat.le_add_right 2010 i)))) hl
  rw [List.map_cons, show zcv ad (.ref (2010 + i)) = .ref (ad0 (2010 + i)) from by show Value.ref (ad (2010 + i)) = _; rw [hW.2.2.2.2.2.1 (2010 + i) (by omega)]] at hG
  exact va_ldcS C.1 C.2.1 C.2.2.2.2.1 (x10 i hi) hd hG
end ZM
end
section
/-! CALLS by the number of their arguments -/
def zT_S1 (lim : zMm → Prop) (Cc : List Value → zMm → zKt → Prop) (P : zPP) : zPP := fun M ls st => match st with
  | a1 :: r => lim M ∧ r.length ≤ 4 ∧ Cc [a1] M (fun q M' => P M' ls (q.toList ++ r))
  | _ => False
theorem zCl_S1 {X : zCt} {lim : zMm → Prop} {Cc : List Value → zMm → zKt → Prop} {mc ms : Nat} {P : zPP} (hl : ∀ M, lim M → (mc = 0 ∨ M.1.length + mc ≤ zlc X) ∧ (ms = 0 ∨ zss M.1 + ms ≤ zls X)) : zCl X (fun _ _ _ as => as.length = 1) (zT_S1 lim Cc P) Cc mc ms P := by
  intro M ls st h
  unfold zT_S1 at h
  split at h
  · exact ⟨_, _, rfl, rfl, h.2.1, (hl M h.1).1, (hl M h.1).2, h.2.2⟩
  · exact h.elim
def zT_S2 (lim : zMm → Prop) (Cc : List Value → zMm → zKt → Prop) (P : zPP) : zPP := fun M ls st => match st with
  | a2 :: a1 :: r => lim M ∧ r.length ≤ 4 ∧ Cc [a1, a2] M (fun q M' => P M' ls (q.toList ++ r))
  | _ => False
theorem zCl_S2 {X : zCt} {lim : zMm → Prop} {Cc : List Value → zMm → zKt → Prop} {mc ms : Nat} {P : zPP} (hl : ∀ M, lim M → (mc = 0 ∨ M.1.length + mc ≤ zlc X) ∧ (ms = 0 ∨ zss M.1 + ms ≤ zls X)) : zCl X (fun _ _ _ as => as.length = 2) (zT_S2 lim Cc P) Cc mc ms P := by
  intro M ls st h
  unfold zT_S2 at h
  split at h
  · exact ⟨_, _, rfl, rfl, h.2.1, (hl M h.1).1, (hl M h.1).2, h.2.2⟩
  · exact h.elim
def zT_S3 (lim : zMm → Prop) (Cc : List Value → zMm → zKt → Prop) (P : zPP) : zPP := fun M ls st => match st with
  | a3 :: a2 :: a1 :: r => lim M ∧ r.length ≤ 4 ∧ Cc [a1, a2, a3] M (fun q M' => P M' ls (q.toList ++ r))
  | _ => False
theorem zCl_S3 {X : zCt} {lim : zMm → Prop} {Cc : List Value → zMm → zKt → Prop} {mc ms : Nat} {P : zPP} (hl : ∀ M, lim M → (mc = 0 ∨ M.1.length + mc ≤ zlc X) ∧ (ms = 0 ∨ zss M.1 + ms ≤ zls X)) : zCl X (fun _ _ _ as => as.length = 3) (zT_S3 lim Cc P) Cc mc ms P := by
  intro M ls st h
  unfold zT_S3 at h
  split at h
  · exact ⟨_, _, rfl, rfl, h.2.1, (hl M h.1).1, (hl M h.1).2, h.2.2⟩
  · exact h.elim
def zT_V0 (lim : zMm → Prop) (ci nf : Nat) (Cc : List Value → zMm → zKt → Prop) (P : zPP) : zPP := fun M ls st => match st with
  | .ref k :: r => zsh k = (5, ci, nf) ∧ lim M ∧ r.length ≤ 4 ∧ Cc [.ref k] M (fun q M' => P M' ls (q.toList ++ r))
  | _ => False
theorem zCl_V0 {X : zCt} {lim : zMm → Prop} {ci nf : Nat} {Cc : List Value → zMm → zKt → Prop} {mc ms : Nat} {P : zPP} (hl : ∀ M, lim M → (mc = 0 ∨ M.1.length + mc ≤ zlc X) ∧ (ms = 0 ∨ zss M.1 + ms ≤ zls X)) : zCl X (fun _ _ _ as => ∃ kk as', as = .ref kk :: as' ∧ as'.length = 0 ∧ zsh kk = (5, ci, nf)) (zT_V0 lim ci nf Cc P) Cc mc ms P := by
  intro M ls st h
  unfold zT_V0 at h
  split at h
  · exact ⟨_, _, ⟨_, _, rfl, rfl, h.1⟩, rfl, h.2.2.1, (hl M h.2.1).1, (hl M h.2.1).2, h.2.2.2⟩
  · exact h.elim
def zT_V1 (lim : zMm → Prop) (ci nf : Nat) (Cc : List Value → zMm → zKt → Prop) (P : zPP) : zPP := fun M ls st => match st with
  | a1 :: .ref k :: r => zsh k = (5, ci, nf) ∧ lim M ∧ r.length ≤ 4 ∧ Cc [.ref k, a1] M (fun q M' => P M' ls (q.toList ++ r))
  | _ => False
theorem zCl_V1 {X : zCt} {lim : zMm → Prop} {ci nf : Nat} {Cc : List Value → zMm → zKt → Prop} {mc ms : Nat} {P : zPP} (hl : ∀ M, lim M → (mc = 0 ∨ M.1.length + mc ≤ zlc X) ∧ (ms = 0 ∨ zss M.1 + ms ≤ zls X)) : zCl X (fun _ _ _ as => ∃ kk as', as = .ref kk :: as' ∧ as'.length = 1 ∧ zsh kk = (5, ci, nf)) (zT_V1 lim ci nf Cc P) Cc mc ms P := by
  intro M ls st h
  unfold zT_V1 at h
  split at h
  · exact ⟨_, _, ⟨_, _, rfl, rfl, h.1⟩, rfl, h.2.2.1, (hl M h.2.1).1, (hl M h.2.1).2, h.2.2.2⟩
  · exact h.elim
def zT_V2 (lim : zMm → Prop) (ci nf : Nat) (Cc : List Value → zMm → zKt → Prop) (P : zPP) : zPP := fun M ls st => match st with
  | a2 :: a1 :: .ref k :: r => zsh k = (5, ci, nf) ∧ lim M ∧ r.length ≤ 4 ∧ Cc [.ref k, a1, a2] M (fun q M' => P M' ls (q.toList ++ r))
  | _ => False
theorem zCl_V2 {X : zCt} {lim : zMm → Prop} {ci nf : Nat} {Cc : List Value → zMm → zKt → Prop} {mc ms : Nat} {P : zPP} (hl : ∀ M, lim M → (mc = 0 ∨ M.1.length + mc ≤ zlc X) ∧ (ms = 0 ∨ zss M.1 + ms ≤ zls X)) : zCl X (fun _ _ _ as => ∃ kk as', as = .ref kk :: as' ∧ as'.length = 2 ∧ zsh kk = (5, ci, nf)) (zT_V2 lim ci nf Cc P) Cc mc ms P := by
  intro M ls st h
  unfold zT_V2 at h
  split at h
  · exact ⟨_, _, ⟨_, _, rfl, rfl, h.1⟩, rfl, h.2.2.1, (hl M h.2.1).1, (hl M h.2.1).2, h.2.2.2⟩
  · exact h.elim
def zT_V3 (lim : zMm → Prop) (ci nf : Nat) (Cc : List Value → zMm → zKt → Prop) (P : zPP) : zPP := fun M ls st => match st with
  | a3 :: a2 :: a1 :: .ref k :: r => zsh k = (5, ci, nf) ∧ lim M ∧ r.length ≤ 4 ∧ Cc [.ref k, a1, a2, a3] M (fun q M' => P M' ls (q.toList ++ r))
  | _ => False
theorem zCl_V3 {X : zCt} {lim : zMm → Prop} {ci nf : Nat} {Cc : List Value → zMm → zKt → Prop} {mc ms : Nat} {P : zPP} (hl : ∀ M, lim M → (mc = 0 ∨ M.1.length + mc ≤ zlc X) ∧ (ms = 0 ∨ zss M.1 + ms ≤ zls X)) : zCl X (fun _ _ _ as => ∃ kk as', as = .ref kk :: as' ∧ as'.length = 3 ∧ zsh kk = (5, ci, nf)) (zT_V3 lim ci nf Cc P) Cc mc ms P := by
  intro M ls st h
  unfold zT_V3 at h
  split at h
  · exact ⟨_, _, ⟨_, _, rfl, rfl, h.1⟩, rfl, h.2.2.1, (hl M h.2.1).1, (hl M h.2.1).2, h.2.2.2⟩
  · exact h.elim
def zT_V4 (lim : zMm → Prop) (ci nf : Nat) (Cc : List Value → zMm → zKt → Prop) (P : zPP) : zPP := fun M ls st => match st with
  | a4 :: a3 :: a2 :: a1 :: .ref k :: r => zsh k = (5, ci, nf) ∧ lim M ∧ r.length ≤ 4 ∧ Cc [.ref k, a1, a2, a3, a4] M (fun q M' => P M' ls (q.toList ++ r))
  | _ => False
theorem zCl_V4 {X : zCt} {lim : zMm → Prop} {ci nf : Nat} {Cc : List Value → zMm → zKt → Prop} {mc ms : Nat} {P : zPP} (hl : ∀ M, lim M → (mc = 0 ∨ M.1.length + mc ≤ zlc X) ∧ (ms = 0 ∨ zss M.1 + ms ≤ zls X)) : zCl X (fun _ _ _ as => ∃ kk as', as = .ref kk :: as' ∧ as'.length = 4 ∧ zsh kk = (5, ci, nf)) (zT_V4 lim ci nf Cc P) Cc mc ms P := by
  intro M ls st h
  unfold zT_V4 at h
  split at h
  · exact ⟨_, _, ⟨_, _, rfl, rfl, h.1⟩, rfl, h.2.2.1, (hl M h.2.1).1, (hl M h.2.1).2, h.2.2.2⟩
  · exact h.elim
def zT_V5 (lim : zMm → Prop) (ci nf : Nat) (Cc : List Value → zMm → zKt → Prop) (P : zPP) : zPP := fun M ls st => match st with
  | a5 :: a4 :: a3 :: a2 :: a1 :: .ref k :: r => zsh k = (5, ci, nf) ∧ lim M ∧ r.length ≤ 4 ∧ Cc [.ref k, a1, a2, a3, a4, a5] M (fun q M' => P M' ls (q.toList ++ r))
  | _ => False
theorem zCl_V5 {X : zCt} {lim : zMm → Prop} {ci nf : Nat} {Cc : List Value → zMm → zKt → Prop} {mc ms : Nat} {P : zPP} (hl : ∀ M, lim M → (mc = 0 ∨ M.1.length + mc ≤ zlc X) ∧ (ms = 0 ∨ zss M.1 + ms ≤ zls X)) : zCl X (fun _ _ _ as => ∃ kk as', as = .ref kk :: as' ∧ as'.length = 5 ∧ zsh kk = (5, ci, nf)) (zT_V5 lim ci nf Cc P) Cc mc ms P := by
  intro M ls st h
  unfold zT_V5 at h
  split at h
  · exact ⟨_, _, ⟨_, _, rfl, rfl, h.1⟩, rfl, h.2.2.1, (hl M h.2.1).1, (hl M h.2.1).2, h.2.2.2⟩
  · exact h.elim
def zT_V6 (lim : zMm → Prop) (ci nf : Nat) (Cc : List Value → zMm → zKt → Prop) (P : zPP) : zPP := fun M ls st => match st with
  | a6 :: a5 :: a4 :: a3 :: a2 :: a1 :: .ref k :: r => zsh k = (5, ci, nf) ∧ lim M ∧ r.length ≤ 4 ∧ Cc [.ref k, a1, a2, a3, a4, a5, a6] M (fun q M' => P M' ls (q.toList ++ r))
  | _ => False
theorem zCl_V6 {X : zCt} {lim : zMm → Prop} {ci nf : Nat} {Cc : List Value → zMm → zKt → Prop} {mc ms : Nat} {P : zPP} (hl : ∀ M, lim M → (mc = 0 ∨ M.1.length + mc ≤ zlc X) ∧ (ms = 0 ∨ zss M.1 + ms ≤ zls X)) : zCl X (fun _ _ _ as => ∃ kk as', as = .ref kk :: as' ∧ as'.length = 6 ∧ zsh kk = (5, ci, nf)) (zT_V6 lim ci nf Cc P) Cc mc ms P := by
  intro M ls st h
  unfold zT_V6 at h
  split at h
  · exact ⟨_, _, ⟨_, _, rfl, rfl, h.1⟩, rfl, h.2.2.1, (hl M h.2.1).1, (hl M h.2.1).2, h.2.2.2⟩
  · exact h.elim
def zT_I0 (lim : zMm → Prop) (Cc : List Value → zMm → zKt → Prop) (P : zPP) : zPP := fun M ls st => match st with
  | .ref k :: r => lim M ∧ r.length ≤ 4 ∧ Cc [.ref k] M (fun q M' => P M' ls (q.toList ++ r))
  | _ => False
theorem zCl_I0 {X : zCt} {lim : zMm → Prop} {Cc : List Value → zMm → zKt → Prop} {mc ms : Nat} {P : zPP} (hl : ∀ M, lim M → (mc = 0 ∨ M.1.length + mc ≤ zlc X) ∧ (ms = 0 ∨ zss M.1 + ms ≤ zls X)) : zCl X (fun _ _ _ as => ∃ kk as', as = .ref kk :: as' ∧ as'.length = 0) (zT_I0 lim Cc P) Cc mc ms P := by
  intro M ls st h
  unfold zT_I0 at h
  split at h
  · exact ⟨_, _, ⟨_, _, rfl, rfl⟩, rfl, h.2.1, (hl M h.1).1, (hl M h.1).2, h.2.2⟩
  · exact h.elim
def zT_I1 (lim : zMm → Prop) (Cc : List Value → zMm → zKt → Prop) (P : zPP) : zPP := fun M ls st => match st with
  | a1 :: .ref k :: r => lim M ∧ r.length ≤ 4 ∧ Cc [.ref k, a1] M (fun q M' => P M' ls (q.toList ++ r))
  | _ => False
theorem zCl_I1 {X : zCt} {lim : zMm → Prop} {Cc : List Value → zMm → zKt → Prop} {mc ms : Nat} {P : zPP} (hl : ∀ M, lim M → (mc = 0 ∨ M.1.length + mc ≤ zlc X) ∧ (ms = 0 ∨ zss M.1 + ms ≤ zls X)) : zCl X (fun _ _ _ as => ∃ kk as', as = .ref kk :: as' ∧ as'.length = 1) (zT_I1 lim Cc P) Cc mc ms P := by
  intro M ls st h
  unfold zT_I1 at h
  split at h
  · exact ⟨_, _, ⟨_, _, rfl, rfl⟩, rfl, h.2.1, (hl M h.1).1, (hl M h.1).2, h.2.2⟩
  · exact h.elim
def zT_I2 (lim : zMm → Prop) (Cc : List Value → zMm → zKt → Prop) (P : zPP) : zPP := fun M ls st => match st with
  | a2 :: a1 :: .ref k :: r => lim M ∧ r.length ≤ 4 ∧ Cc [.ref k, a1, a2] M (fun q M' => P M' ls (q.toList ++ r))
  | _ => False
theorem zCl_I2 {X : zCt} {lim : zMm → Prop} {Cc : List Value → zMm → zKt → Prop} {mc ms : Nat} {P : zPP} (hl : ∀ M, lim M → (mc = 0 ∨ M.1.length + mc ≤ zlc X) ∧ (ms = 0 ∨ zss M.1 + ms ≤ zls X)) : zCl X (fun _ _ _ as => ∃ kk as', as = .ref kk :: as' ∧ as'.length = 2) (zT_I2 lim Cc P) Cc mc ms P := by
  intro M ls st h
  unfold zT_I2 at h
  split at h
  · exact ⟨_, _, ⟨_, _, rfl, rfl⟩, rfl, h.2.1, (hl M h.1).1, (hl M h.1).2, h.2.2⟩
  · exact h.elim
def zok (_ : zMm) : Prop := True
def zlm (mc ms lc lz : Nat) (M : zMm) : Prop := M.1.length + mc ≤ lc ∧ zss M.1 + ms ≤ lz
theorem zok_l {X : zCt} (M : zMm) (_ : zok M) : ((0 : Nat) = 0 ∨ M.1.length + 0 ≤ zlc X) ∧ ((0 : Nat) = 0 ∨ zss M.1 + 0 ≤ zls X) := ⟨Or.inl rfl, Or.inl rfl⟩
theorem zlm_l {X : zCt} {mc ms : Nat} (M : zMm) (h : zlm mc ms (zlc X) (zls X) M) : (mc = 0 ∨ M.1.length + mc ≤ zlc X) ∧ (ms = 0 ∨ zss M.1 + ms ≤ zls X) := ⟨Or.inr h.1, Or.inr h.2⟩
theorem zrm {X : zCt} {fr lo mc ms fr1 lo1 maxL : Nat} (h : zRX X = { frames := fr, cells := mc, slots := ms, locals := lo }) (h1 : fr1 + 1 ≤ fr) (h2 : 8 + (maxL + 11) + lo1 ≤ lo) : fr1 + 1 ≤ (zRX X).frames ∧ 8 + (maxL + 11) + lo1 ≤ (zRX X).locals := by
  rw [h]
  exact ⟨h1, h2⟩
theorem zrm1 {X : zCt} {fr lo mc ms : Nat} (h : zRX X = { frames := fr, cells := mc, slots := ms, locals := lo }) {a b : Nat} (h1 : a ≤ fr) (h2 : b ≤ lo) : a ≤ (zRX X).frames ∧ b ≤ (zRX X).locals := by
  rw [h]
  exact ⟨h1, h2⟩
/-- all heads of loops at once: Inv n h at the head h; each turn comes to a head with a smaller n, or to the end -/
theorem zloop {X : zCt} {own nm : String} {cc : ByteArray} {nL : Nat} {ret : Option FieldType} {heads : List Nat} (B : (Nat → zPP) → Nat → zPP) (Inv : Nat → Nat → zPP) (hB : ∀ J : Nat → zPP, (∀ h ∈ heads, zSd X own nm cc nL ret h (J h)) → ∀ h ∈ heads, zSd X own nm cc nL ret h (B J h))
    (hI : ∀ n, ∀ h ∈ heads, ∀ M ls st, Inv n h M ls st → B (fun h' M' ls' st' => ∃ n', n' < n ∧ Inv n' h' M' ls' st') h M ls st) : ∀ h ∈ heads, zSd X own nm cc nL ret h (fun M ls st => ∃ n, Inv n h M ls st) := by
  have key : ∀ n, ∀ h ∈ heads, zSd X own nm cc nL ret h (fun M ls st => ∃ n', n' < n ∧ Inv n' h M ls st) := by
    intro n
    induction n with
    | zero => exact fun h _ C M ls st ⟨n', h1, _⟩ => absurd h1 (Nat.not_lt_zero _)
    | succ n ih =>
      intro h hh C M ls st ⟨n', h1, h2⟩
      refine hB (fun h' M' ls' st' => ∃ k, k < n' ∧ Inv k h' M' ls' st') (fun h' hh' C' M' ls' st' ⟨k, k1, k2⟩ => ih h' hh' C' M' ls' st' ⟨k, by omega, k2⟩) h hh C M ls st (hI n' h hh M ls st h2)
  exact fun h hh C M ls st ⟨n, hn⟩ => key (n + 1) h hh C M ls st ⟨n, Nat.lt_succ_self n, hn⟩
end
section
/-! DeltaRuns within -/
theorem zd_X7_within_0 : decode cX7_within 0 = .ok (.iload_n 0, 1) := by decide +kernel
theorem zd_X7_within_1 : decode cX7_within 1 = .ok (.iload_n 1, 1) := by decide +kernel
theorem zd_X7_within_2 : decode cX7_within 2 = .ok (.if_icmp .lt 12, 3) := by decide +kernel
theorem zd_X7_within_5 : decode cX7_within 5 = .ok (.iload_n 0, 1) := by decide +kernel
theorem zd_X7_within_6 : decode cX7_within 6 = .ok (.iload_n 2, 1) := by decide +kernel
theorem zd_X7_within_7 : decode cX7_within 7 = .ok (.if_icmp .gt 7, 3) := by decide +kernel
theorem zd_X7_within_10 : decode cX7_within 10 = .ok (.iconst 1, 1) := by decide +kernel
theorem zd_X7_within_11 : decode cX7_within 11 = .ok (.goto 4, 3) := by decide +kernel
theorem zd_X7_within_14 : decode cX7_within 14 = .ok (.iconst 0, 1) := by decide +kernel
theorem zd_X7_within_15 : decode cX7_within 15 = .ok (.ireturn, 1) := by decide +kernel
def zb_X7_within_15 (K : zKt) (J : Nat → zPP) : zPP := zT_nret .boolean K
theorem zbs_X7_within_15 {X : zCt} (hR : zRX X = { frames := 0, cells := 0, slots := 0, locals := 0 }) (J : Nat → zPP) (hJ : ∀ h ∈ ([] : List Nat), zSd X RX7 "within" cX7_within 3 (some .boolean) h (J h)) : zSd X RX7 "within" cX7_within 3 (some .boolean) 15 (zb_X7_within_15 (zKX X) J) := zs_nret rfl zd_X7_within_15
def zb_X7_within_14 (K : zKt) (J : Nat → zPP) : zPP := zT_push (.int 0) (zb_X7_within_15 K J)
theorem zbs_X7_within_14 {X : zCt} (hR : zRX X = { frames := 0, cells := 0, slots := 0, locals := 0 }) (J : Nat → zPP) (hJ : ∀ h ∈ ([] : List Nat), zSd X RX7 "within" cX7_within 3 (some .boolean) h (J h)) : zSd X RX7 "within" cX7_within 3 (some .boolean) 14 (zb_X7_within_14 (zKX X) J) := zs_iconst zd_X7_within_14 (by decide) (zbs_X7_within_15 hR J hJ)
def zb_X7_within_0 (K : zKt) (J : Nat → zPP) : zPP := zT_ild 0 (zT_ild 1 (zT_if2 (fun x y => x < y) (zb_X7_within_14 K J) (zT_ild 0 (zT_ild 2 (zT_if2 (fun x y => y < x) (zb_X7_within_14 K J) (zT_push (.int 1) (zb_X7_within_15 K J)))))))
theorem zbs_X7_within_0 {X : zCt} (hR : zRX X = { frames := 0, cells := 0, slots := 0, locals := 0 }) (J : Nat → zPP) (hJ : ∀ h ∈ ([] : List Nat), zSd X RX7 "within" cX7_within 3 (some .boolean) h (J h)) : zSd X RX7 "within" cX7_within 3 (some .boolean) 0 (zb_X7_within_0 (zKX X) J) := zs_iload_n zd_X7_within_0 rfl (zs_iload_n zd_X7_within_1 rfl (zs_icmp_lt (tgt := 14) zd_X7_within_2 (by decide) (zbs_X7_within_14 hR J hJ) (zs_iload_n zd_X7_within_5 rfl (zs_iload_n zd_X7_within_6 rfl (zs_icmp_gt (tgt := 14) zd_X7_within_7 (by decide) (zbs_X7_within_14 hR J hJ) (zs_iconst zd_X7_within_10 (by decide) (zs_goto (tgt := 15) zd_X7_within_11 (by decide) (zbs_X7_within_15 hR J hJ))))))))
theorem zdn_X7_within : yX7_within.cls ≠ "java/lang/invoke/MethodHandle" ∧ yX7_within.cls ≠ "java/lang/invoke/VarHandle" ∧ (parseMethodDescriptor yX7_within.desc).map (fun d => d.parameters.length) = some 3 := by decide +kernel
/-! DeltaRuns cellAt -/
theorem zd_X7_cellAt_0 : decode cX7_cellAt 0 = .ok (.iload_n 1, 1) := by decide +kernel
theorem zd_X7_cellAt_1 : decode cX7_cellAt 1 = .ok (.bipush 12, 2) := by decide +kernel
theorem zd_X7_cellAt_3 : decode cX7_cellAt 3 = .ok (.imul, 1) := by decide +kernel
theorem zd_X7_cellAt_4 : decode cX7_cellAt 4 = .ok (.iload_n 0, 1) := by decide +kernel
theorem zd_X7_cellAt_5 : decode cX7_cellAt 5 = .ok (.iadd, 1) := by decide +kernel
theorem zd_X7_cellAt_6 : decode cX7_cellAt 6 = .ok (.ireturn, 1) := by decide +kernel
def zb_X7_cellAt_0 (K : zKt) (J : Nat → zPP) : zPP := zT_ild 1 (zT_push (.int 12) (zT_bin (fun x y => x * y) (zT_ild 0 (zT_bin (fun x y => x + y) (zT_iret K)))))
theorem zbs_X7_cellAt_0 {X : zCt} (hR : zRX X = { frames := 0, cells := 0, slots := 0, locals := 0 }) (J : Nat → zPP) (hJ : ∀ h ∈ ([] : List Nat), zSd X RX7 "cellAt" cX7_cellAt 2 (some .int) h (J h)) : zSd X RX7 "cellAt" cX7_cellAt 2 (some .int) 0 (zb_X7_cellAt_0 (zKX X) J) := zs_iload_n zd_X7_cellAt_0 rfl (zs_bipush zd_X7_cellAt_1 (by decide) (zs_imul zd_X7_cellAt_3 (zs_iload_n zd_X7_cellAt_4 rfl (zs_iadd zd_X7_cellAt_5 (zs_iret rfl zd_X7_cellAt_6)))))
theorem zdn_X7_cellAt : yX7_cellAt.cls ≠ "java/lang/invoke/MethodHandle" ∧ yX7_cellAt.cls ≠ "java/lang/invoke/VarHandle" ∧ (parseMethodDescriptor yX7_cellAt.desc).map (fun d => d.parameters.length) = some 2 := by decide +kernel
/-! DeltaRuns sortOf -/
theorem zd_X7_sortOf_0 : decode cX7_sortOf 0 = .ok (.iload_n 0, 1) := by decide +kernel
theorem zd_X7_sortOf_1 : decode cX7_sortOf 1 = .ok (.bipush 12, 2) := by decide +kernel
theorem zd_X7_sortOf_3 : decode cX7_sortOf 3 = .ok (.idiv, 1) := by decide +kernel
theorem zd_X7_sortOf_4 : decode cX7_sortOf 4 = .ok (.ireturn, 1) := by decide +kernel
def zb_X7_sortOf_0 (K : zKt) (J : Nat → zPP) : zPP := zT_ild 0 (zT_push (.int 12) (zT_div (fun x y => x / y) (zT_iret K)))
theorem zbs_X7_sortOf_0 {X : zCt} (hR : zRX X = { frames := 0, cells := 0, slots := 0, locals := 0 }) (J : Nat → zPP) (hJ : ∀ h ∈ ([] : List Nat), zSd X RX7 "sortOf" cX7_sortOf 1 (some .int) h (J h)) : zSd X RX7 "sortOf" cX7_sortOf 1 (some .int) 0 (zb_X7_sortOf_0 (zKX X) J) := zs_iload_n zd_X7_sortOf_0 rfl (zs_bipush zd_X7_sortOf_1 (by decide) (zs_idiv zd_X7_sortOf_3 (zs_iret rfl zd_X7_sortOf_4)))
theorem zdn_X7_sortOf : yX7_sortOf.cls ≠ "java/lang/invoke/MethodHandle" ∧ yX7_sortOf.cls ≠ "java/lang/invoke/VarHandle" ∧ (parseMethodDescriptor yX7_sortOf.desc).map (fun d => d.parameters.length) = some 1 := by decide +kernel
/-! DeltaRuns rateOf -/
theorem zd_X7_rateOf_0 : decode cX7_rateOf 0 = .ok (.iconst 1, 1) := by decide +kernel
theorem zd_X7_rateOf_1 : decode cX7_rateOf 1 = .ok (.iload_n 0, 1) := by decide +kernel
theorem zd_X7_rateOf_2 : decode cX7_rateOf 2 = .ok (.iconst 2, 1) := by decide +kernel
theorem zd_X7_rateOf_3 : decode cX7_rateOf 3 = .ok (.idiv, 1) := by decide +kernel
theorem zd_X7_rateOf_4 : decode cX7_rateOf 4 = .ok (.bipush 6, 2) := by decide +kernel
theorem zd_X7_rateOf_6 : decode cX7_rateOf 6 = .ok (.irem, 1) := by decide +kernel
theorem zd_X7_rateOf_7 : decode cX7_rateOf 7 = .ok (.iadd, 1) := by decide +kernel
theorem zd_X7_rateOf_8 : decode cX7_rateOf 8 = .ok (.ireturn, 1) := by decide +kernel
def zb_X7_rateOf_0 (K : zKt) (J : Nat → zPP) : zPP := zT_push (.int 1) (zT_ild 0 (zT_push (.int 2) (zT_div (fun x y => x / y) (zT_push (.int 6) (zT_div (fun x y => x - x / y * y) (zT_bin (fun x y => x + y) (zT_iret K)))))))
theorem zbs_X7_rateOf_0 {X : zCt} (hR : zRX X = { frames := 0, cells := 0, slots := 0, locals := 0 }) (J : Nat → zPP) (hJ : ∀ h ∈ ([] : List Nat), zSd X RX7 "rateOf" cX7_rateOf 1 (some .int) h (J h)) : zSd X RX7 "rateOf" cX7_rateOf 1 (some .int) 0 (zb_X7_rateOf_0 (zKX X) J) := zs_iconst zd_X7_rateOf_0 (by decide) (zs_iload_n zd_X7_rateOf_1 rfl (zs_iconst zd_X7_rateOf_2 (by decide) (zs_idiv zd_X7_rateOf_3 (zs_bipush zd_X7_rateOf_4 (by decide) (zs_irem zd_X7_rateOf_6 (zs_iadd zd_X7_rateOf_7 (zs_iret rfl zd_X7_rateOf_8)))))))
theorem zdn_X7_rateOf : yX7_rateOf.cls ≠ "java/lang/invoke/MethodHandle" ∧ yX7_rateOf.cls ≠ "java/lang/invoke/VarHandle" ∧ (parseMethodDescriptor yX7_rateOf.desc).map (fun d => d.parameters.length) = some 1 := by decide +kernel
/-! DeltaRuns wearOf -/
theorem zd_X7_wearOf_0 : decode cX7_wearOf 0 = .ok (.iload_n 0, 1) := by decide +kernel
theorem zd_X7_wearOf_1 : decode cX7_wearOf 1 = .ok (.iconst 2, 1) := by decide +kernel
theorem zd_X7_wearOf_2 : decode cX7_wearOf 2 = .ok (.irem, 1) := by decide +kernel
theorem zd_X7_wearOf_3 : decode cX7_wearOf 3 = .ok (.ireturn, 1) := by decide +kernel
def zb_X7_wearOf_0 (K : zKt) (J : Nat → zPP) : zPP := zT_ild 0 (zT_push (.int 2) (zT_div (fun x y => x - x / y * y) (zT_iret K)))
theorem zbs_X7_wearOf_0 {X : zCt} (hR : zRX X = { frames := 0, cells := 0, slots := 0, locals := 0 }) (J : Nat → zPP) (hJ : ∀ h ∈ ([] : List Nat), zSd X RX7 "wearOf" cX7_wearOf 1 (some .int) h (J h)) : zSd X RX7 "wearOf" cX7_wearOf 1 (some .int) 0 (zb_X7_wearOf_0 (zKX X) J) := zs_iload_n zd_X7_wearOf_0 rfl (zs_iconst zd_X7_wearOf_1 (by decide) (zs_irem zd_X7_wearOf_2 (zs_iret rfl zd_X7_wearOf_3)))
theorem zdn_X7_wearOf : yX7_wearOf.cls ≠ "java/lang/invoke/MethodHandle" ∧ yX7_wearOf.cls ≠ "java/lang/invoke/VarHandle" ∧ (parseMethodDescriptor yX7_wearOf.desc).map (fun d => d.parameters.length) = some 1 := by decide +kernel
/-! DeltaRuns trend -/
theorem zd_X7_trend_0 : decode cX7_trend 0 = .ok (.iload_n 1, 1) := by decide +kernel
theorem zd_X7_trend_1 : decode cX7_trend 1 = .ok (.iload_n 0, 1) := by decide +kernel
theorem zd_X7_trend_2 : decode cX7_trend 2 = .ok (.if_icmp .le 5, 3) := by decide +kernel
theorem zd_X7_trend_5 : decode cX7_trend 5 = .ok (.iconst 1, 1) := by decide +kernel
theorem zd_X7_trend_6 : decode cX7_trend 6 = .ok (.ireturn, 1) := by decide +kernel
theorem zd_X7_trend_7 : decode cX7_trend 7 = .ok (.iload_n 2, 1) := by decide +kernel
theorem zd_X7_trend_8 : decode cX7_trend 8 = .ok (.iload_n 0, 1) := by decide +kernel
theorem zd_X7_trend_9 : decode cX7_trend 9 = .ok (.if_icmp .ge 7, 3) := by decide +kernel
theorem zd_X7_trend_12 : decode cX7_trend 12 = .ok (.iconst (-1), 1) := by decide +kernel
theorem zd_X7_trend_13 : decode cX7_trend 13 = .ok (.goto 4, 3) := by decide +kernel
theorem zd_X7_trend_16 : decode cX7_trend 16 = .ok (.iconst 0, 1) := by decide +kernel
theorem zd_X7_trend_17 : decode cX7_trend 17 = .ok (.ireturn, 1) := by decide +kernel
def zb_X7_trend_17 (K : zKt) (J : Nat → zPP) : zPP := zT_iret K
theorem zbs_X7_trend_17 {X : zCt} (hR : zRX X = { frames := 0, cells := 0, slots := 0, locals := 0 }) (J : Nat → zPP) (hJ : ∀ h ∈ ([] : List Nat), zSd X RX7 "trend" cX7_trend 3 (some .int) h (J h)) : zSd X RX7 "trend" cX7_trend 3 (some .int) 17 (zb_X7_trend_17 (zKX X) J) := zs_iret rfl zd_X7_trend_17
def zb_X7_trend_0 (K : zKt) (J : Nat → zPP) : zPP := zT_ild 1 (zT_ild 0 (zT_if2 (fun x y => x ≤ y) (zT_ild 2 (zT_ild 0 (zT_if2 (fun x y => y ≤ x) (zT_push (.int 0) (zb_X7_trend_17 K J)) (zT_push (.int (-1)) (zb_X7_trend_17 K J))))) (zT_push (.int 1) (zT_iret K))))
theorem zbs_X7_trend_0 {X : zCt} (hR : zRX X = { frames := 0, cells := 0, slots := 0, locals := 0 }) (J : Nat → zPP) (hJ : ∀ h ∈ ([] : List Nat), zSd X RX7 "trend" cX7_trend 3 (some .int) h (J h)) : zSd X RX7 "trend" cX7_trend 3 (some .int) 0 (zb_X7_trend_0 (zKX X) J) := zs_iload_n zd_X7_trend_0 rfl (zs_iload_n zd_X7_trend_1 rfl (zs_icmp_le (tgt := 7) zd_X7_trend_2 (by decide) (zs_iload_n zd_X7_trend_7 rfl (zs_iload_n zd_X7_trend_8 rfl (zs_icmp_ge (tgt := 16) zd_X7_trend_9 (by decide) (zs_iconst zd_X7_trend_16 (by decide) (zbs_X7_trend_17 hR J hJ)) (zs_iconst zd_X7_trend_12 (by decide) (zs_goto (tgt := 17) zd_X7_trend_13 (by decide) (zbs_X7_trend_17 hR J hJ)))))) (zs_iconst zd_X7_trend_5 (by decide) (zs_iret rfl zd_X7_trend_6))))
theorem zdn_X7_trend : yX7_trend.cls ≠ "java/lang/invoke/MethodHandle" ∧ yX7_trend.cls ≠ "java/lang/invoke/VarHandle" ∧ (parseMethodDescriptor yX7_trend.desc).map (fun d => d.parameters.length) = some 3 := by decide +kernel
/-! DeltaRuns refuse -/
theorem zd_X7_refuse_0 : decode cX7_refuse 0 = .ok (.aload_n 0, 1) := by decide +kernel
theorem zd_X7_refuse_1 : decode cX7_refuse 1 = .ok (.iload_n 1, 1) := by decide +kernel
theorem zd_X7_refuse_2 : decode cX7_refuse 2 = .ok (.putfield 57, 3) := by decide +kernel
theorem zd_X7_refuse_5 : decode cX7_refuse 5 = .ok (.iload_n 1, 1) := by decide +kernel
theorem zd_X7_refuse_6 : decode cX7_refuse 6 = .ok (.ireturn, 1) := by decide +kernel
def zb_X7_refuse_0 (K : zKt) (J : Nat → zPP) : zPP := zT_ald 0 (zT_ild 1 (zT_putI 7 8 9 (zT_ild 1 (zT_iret K))))
theorem zbs_X7_refuse_0 {X : zCt} (hR : zRX X = { frames := 0, cells := 0, slots := 0, locals := 0 }) (J : Nat → zPP) (hJ : ∀ h ∈ ([] : List Nat), zSd X RX7 "refuse" cX7_refuse 2 (some .int) h (J h)) : zSd X RX7 "refuse" cX7_refuse 2 (some .int) 0 (zb_X7_refuse_0 (zKX X) J) := zs_aload_n zd_X7_refuse_0 rfl (zs_iload_n zd_X7_refuse_1 rfl (zs_putI (ci := 7) (j := 8) (T := TX7) rfl inX7 tyX7_ok nmX7 (by decide) gw_1_193 rfl rfl rfl zd_X7_refuse_2 (zs_iload_n zd_X7_refuse_5 rfl (zs_iret rfl zd_X7_refuse_6))))
theorem zdn_X7_refuse : yX7_refuse.cls ≠ "java/lang/invoke/MethodHandle" ∧ yX7_refuse.cls ≠ "java/lang/invoke/VarHandle" ∧ (parseMethodDescriptor yX7_refuse.desc).map (fun d => d.parameters.length) = some 1 := by decide +kernel
/-! DeltaRuns accept -/
theorem zd_X7_accept_0 : decode cX7_accept 0 = .ok (.aload_n 0, 1) := by decide +kernel
theorem zd_X7_accept_1 : decode cX7_accept 1 = .ok (.iconst 0, 1) := by decide +kernel
theorem zd_X7_accept_2 : decode cX7_accept 2 = .ok (.putfield 57, 3) := by decide +kernel
theorem zd_X7_accept_5 : decode cX7_accept 5 = .ok (.iload_n 1, 1) := by decide +kernel
theorem zd_X7_accept_6 : decode cX7_accept 6 = .ok (.ireturn, 1) := by decide +kernel
def zb_X7_accept_0 (K : zKt) (J : Nat → zPP) : zPP := zT_ald 0 (zT_push (.int 0) (zT_putI 7 8 9 (zT_ild 1 (zT_iret K))))
theorem zbs_X7_accept_0 {X : zCt} (hR : zRX X = { frames := 0, cells := 0, slots := 0, locals := 0 }) (J : Nat → zPP) (hJ : ∀ h ∈ ([] : List Nat), zSd X RX7 "accept" cX7_accept 2 (some .int) h (J h)) : zSd X RX7 "accept" cX7_accept 2 (some .int) 0 (zb_X7_accept_0 (zKX X) J) := zs_aload_n zd_X7_accept_0 rfl (zs_iconst zd_X7_accept_1 (by decide) (zs_putI (ci := 7) (j := 8) (T := TX7) rfl inX7 tyX7_ok nmX7 (by decide) gw_1_193 rfl rfl rfl zd_X7_accept_2 (zs_iload_n zd_X7_accept_5 rfl (zs_iret rfl zd_X7_accept_6))))
theorem zdn_X7_accept : yX7_accept.cls ≠ "java/lang/invoke/MethodHandle" ∧ yX7_accept.cls ≠ "java/lang/invoke/VarHandle" ∧ (parseMethodDescriptor yX7_accept.desc).map (fun d => d.parameters.length) = some 1 := by decide +kernel
/-! DeltaRuns$Land has -/
theorem zd_X1_has_0 : decode cX1_has 0 = .ok (.iload_n 1, 1) := by decide +kernel
theorem zd_X1_has_1 : decode cX1_has 1 = .ok (.ifCond .lt 27, 3) := by decide +kernel
theorem zd_X1_has_4 : decode cX1_has 4 = .ok (.iload_n 1, 1) := by decide +kernel
theorem zd_X1_has_5 : decode cX1_has 5 = .ok (.aload_n 0, 1) := by decide +kernel
theorem zd_X1_has_6 : decode cX1_has 6 = .ok (.getfield 26, 3) := by decide +kernel
theorem zd_X1_has_9 : decode cX1_has 9 = .ok (.if_icmp .ge 19, 3) := by decide +kernel
theorem zd_X1_has_12 : decode cX1_has 12 = .ok (.iload_n 2, 1) := by decide +kernel
theorem zd_X1_has_13 : decode cX1_has 13 = .ok (.ifCond .lt 15, 3) := by decide +kernel
theorem zd_X1_has_16 : decode cX1_has 16 = .ok (.iload_n 2, 1) := by decide +kernel
theorem zd_X1_has_17 : decode cX1_has 17 = .ok (.aload_n 0, 1) := by decide +kernel
theorem zd_X1_has_18 : decode cX1_has 18 = .ok (.getfield 29, 3) := by decide +kernel
theorem zd_X1_has_21 : decode cX1_has 21 = .ok (.if_icmp .ge 7, 3) := by decide +kernel
theorem zd_X1_has_24 : decode cX1_has 24 = .ok (.iconst 1, 1) := by decide +kernel
theorem zd_X1_has_25 : decode cX1_has 25 = .ok (.goto 4, 3) := by decide +kernel
theorem zd_X1_has_28 : decode cX1_has 28 = .ok (.iconst 0, 1) := by decide +kernel
theorem zd_X1_has_29 : decode cX1_has 29 = .ok (.ireturn, 1) := by decide +kernel
def zb_X1_has_29 (K : zKt) (J : Nat → zPP) : zPP := zT_nret .boolean K
theorem zbs_X1_has_29 {X : zCt} (hR : zRX X = { frames := 0, cells := 0, slots := 0, locals := 0 }) (J : Nat → zPP) (hJ : ∀ h ∈ ([] : List Nat), zSd X RX1 "has" cX1_has 3 (some .boolean) h (J h)) : zSd X RX1 "has" cX1_has 3 (some .boolean) 29 (zb_X1_has_29 (zKX X) J) := zs_nret rfl zd_X1_has_29
def zb_X1_has_28 (K : zKt) (J : Nat → zPP) : zPP := zT_push (.int 0) (zb_X1_has_29 K J)
theorem zbs_X1_has_28 {X : zCt} (hR : zRX X = { frames := 0, cells := 0, slots := 0, locals := 0 }) (J : Nat → zPP) (hJ : ∀ h ∈ ([] : List Nat), zSd X RX1 "has" cX1_has 3 (some .boolean) h (J h)) : zSd X RX1 "has" cX1_has 3 (some .boolean) 28 (zb_X1_has_28 (zKX X) J) := zs_iconst zd_X1_has_28 (by decide) (zbs_X1_has_29 hR J hJ)
def zb_X1_has_0 (K : zKt) (J : Nat → zPP) : zPP := zT_ild 1 (zT_if1 (fun x => x < 0) (zb_X1_has_28 K J) (zT_ild 1 (zT_ald 0 (zT_getI 1 1 6 (zT_if2 (fun x y => y ≤ x) (zb_X1_has_28 K J) (zT_ild 2 (zT_if1 (fun x => x < 0) (zb_X1_has_28 K J) (zT_ild 2 (zT_ald 0 (zT_getI 1 2 6 (zT_if2 (fun x y => y ≤ x) (zb_X1_has_28 K J) (zT_push (.int 1) (zb_X1_has_29 K J)))))))))))))
theorem zbs_X1_has_0 {X : zCt} (hR : zRX X = { frames := 0, cells := 0, slots := 0, locals := 0 }) (J : Nat → zPP) (hJ : ∀ h ∈ ([] : List Nat), zSd X RX1 "has" cX1_has 3 (some .boolean) h (J h)) : zSd X RX1 "has" cX1_has 3 (some .boolean) 0 (zb_X1_has_0 (zKX X) J) := zs_iload_n zd_X1_has_0 rfl (zs_if_lt (tgt := 28) zd_X1_has_1 (by decide) (zbs_X1_has_28 hR J hJ) (zs_iload_n zd_X1_has_4 rfl (zs_aload_n zd_X1_has_5 rfl (zs_getI (ci := 1) (j := 1) (T := TX1) rfl inX1 (by decide) gw_1_35 rfl zd_X1_has_6 (zs_icmp_ge (tgt := 28) zd_X1_has_9 (by decide) (zbs_X1_has_28 hR J hJ) (zs_iload_n zd_X1_has_12 rfl (zs_if_lt (tgt := 28) zd_X1_has_13 (by decide) (zbs_X1_has_28 hR J hJ) (zs_iload_n zd_X1_has_16 rfl (zs_aload_n zd_X1_has_17 rfl (zs_getI (ci := 1) (j := 2) (T := TX1) rfl inX1 (by decide) gw_1_37 rfl zd_X1_has_18 (zs_icmp_ge (tgt := 28) zd_X1_has_21 (by decide) (zbs_X1_has_28 hR J hJ) (zs_iconst zd_X1_has_24 (by decide) (zs_goto (tgt := 29) zd_X1_has_25 (by decide) (zbs_X1_has_29 hR J hJ))))))))))))))
theorem zdn_X1_has : yX1_has.cls ≠ "java/lang/invoke/MethodHandle" ∧ yX1_has.cls ≠ "java/lang/invoke/VarHandle" ∧ (parseMethodDescriptor yX1_has.desc).map (fun d => d.parameters.length) = some 2 := by decide +kernel
/-! DeltaRuns$Water firstGreatest -/
theorem zd_X5_firstGreatest_0 : decode cX5_firstGreatest 0 = .ok (.iconst 0, 1) := by decide +kernel
theorem zd_X5_firstGreatest_1 : decode cX5_firstGreatest 1 = .ok (.istore_n 2, 1) := by decide +kernel
theorem zd_X5_firstGreatest_2 : decode cX5_firstGreatest 2 = .ok (.iconst 1, 1) := by decide +kernel
theorem zd_X5_firstGreatest_3 : decode cX5_firstGreatest 3 = .ok (.istore_n 3, 1) := by decide +kernel
theorem zd_X5_firstGreatest_4 : decode cX5_firstGreatest 4 = .ok (.iload_n 3, 1) := by decide +kernel
theorem zd_X5_firstGreatest_5 : decode cX5_firstGreatest 5 = .ok (.aload_n 0, 1) := by decide +kernel
theorem zd_X5_firstGreatest_6 : decode cX5_firstGreatest 6 = .ok (.getfield 76, 3) := by decide +kernel
theorem zd_X5_firstGreatest_9 : decode cX5_firstGreatest 9 = .ok (.if_icmp .ge 20, 3) := by decide +kernel
theorem zd_X5_firstGreatest_12 : decode cX5_firstGreatest 12 = .ok (.aload_n 1, 1) := by decide +kernel
theorem zd_X5_firstGreatest_13 : decode cX5_firstGreatest 13 = .ok (.iload_n 3, 1) := by decide +kernel
theorem zd_X5_firstGreatest_14 : decode cX5_firstGreatest 14 = .ok (.iaload, 1) := by decide +kernel
theorem zd_X5_firstGreatest_15 : decode cX5_firstGreatest 15 = .ok (.aload_n 1, 1) := by decide +kernel
theorem zd_X5_firstGreatest_16 : decode cX5_firstGreatest 16 = .ok (.iload_n 2, 1) := by decide +kernel
theorem zd_X5_firstGreatest_17 : decode cX5_firstGreatest 17 = .ok (.iaload, 1) := by decide +kernel
theorem zd_X5_firstGreatest_18 : decode cX5_firstGreatest 18 = .ok (.if_icmp .le 5, 3) := by decide +kernel
theorem zd_X5_firstGreatest_21 : decode cX5_firstGreatest 21 = .ok (.iload_n 3, 1) := by decide +kernel
theorem zd_X5_firstGreatest_22 : decode cX5_firstGreatest 22 = .ok (.istore_n 2, 1) := by decide +kernel
theorem zd_X5_firstGreatest_23 : decode cX5_firstGreatest 23 = .ok (.iinc 3 1, 3) := by decide +kernel
theorem zd_X5_firstGreatest_26 : decode cX5_firstGreatest 26 = .ok (.goto (-22), 3) := by decide +kernel
theorem zd_X5_firstGreatest_29 : decode cX5_firstGreatest 29 = .ok (.iload_n 2, 1) := by decide +kernel
theorem zd_X5_firstGreatest_30 : decode cX5_firstGreatest 30 = .ok (.ireturn, 1) := by decide +kernel
def zb_X5_firstGreatest_0 (K : zKt) (J : Nat → zPP) : zPP := zT_push (.int 0) (zT_ist 2 (zT_push (.int 1) (zT_ist 3 (J 4))))
theorem zbs_X5_firstGreatest_0 {X : zCt} (hR : zRX X = { frames := 0, cells := 0, slots := 0, locals := 0 }) (J : Nat → zPP) (hJ : ∀ h ∈ ([4] : List Nat), zSd X RX5 "firstGreatest" cX5_firstGreatest 4 (some .int) h (J h)) : zSd X RX5 "firstGreatest" cX5_firstGreatest 4 (some .int) 0 (zb_X5_firstGreatest_0 (zKX X) J) := zs_iconst zd_X5_firstGreatest_0 (by decide) (zs_istore_n zd_X5_firstGreatest_1 rfl (by decide) (zs_iconst zd_X5_firstGreatest_2 (by decide) (zs_istore_n zd_X5_firstGreatest_3 rfl (by decide) (hJ 4 (by decide)))))
def zb_X5_firstGreatest_23 (K : zKt) (J : Nat → zPP) : zPP := zT_iinc 3 1 (J 4)
theorem zbs_X5_firstGreatest_23 {X : zCt} (hR : zRX X = { frames := 0, cells := 0, slots := 0, locals := 0 }) (J : Nat → zPP) (hJ : ∀ h ∈ ([4] : List Nat), zSd X RX5 "firstGreatest" cX5_firstGreatest 4 (some .int) h (J h)) : zSd X RX5 "firstGreatest" cX5_firstGreatest 4 (some .int) 23 (zb_X5_firstGreatest_23 (zKX X) J) := zs_iinc zd_X5_firstGreatest_23 (by decide) (by decide) (zs_goto (tgt := 4) zd_X5_firstGreatest_26 (by decide) (hJ 4 (by decide)))
def zb_X5_firstGreatest_4 (K : zKt) (J : Nat → zPP) : zPP := zT_ild 3 (zT_ald 0 (zT_getI 5 10 11 (zT_if2 (fun x y => y ≤ x) (zT_ild 2 (zT_iret K)) (zT_ald 1 (zT_ild 3 (zT_ald0 0 (zT_ald 1 (zT_ild 2 (zT_ald0 0 (zT_if2 (fun x y => x ≤ y) (zb_X5_firstGreatest_23 K J) (zT_ild 3 (zT_ist 2 (zb_X5_firstGreatest_23 K J)))))))))))))
theorem zbs_X5_firstGreatest_4 {X : zCt} (hR : zRX X = { frames := 0, cells := 0, slots := 0, locals := 0 }) (J : Nat → zPP) (hJ : ∀ h ∈ ([4] : List Nat), zSd X RX5 "firstGreatest" cX5_firstGreatest 4 (some .int) h (J h)) : zSd X RX5 "firstGreatest" cX5_firstGreatest 4 (some .int) 4 (zb_X5_firstGreatest_4 (zKX X) J) := zs_iload_n zd_X5_firstGreatest_4 rfl (zs_aload_n zd_X5_firstGreatest_5 rfl (zs_getI (ci := 5) (j := 10) (T := TX5) rfl inX5 (by decide) gw_1_126 rfl zd_X5_firstGreatest_6 (zs_icmp_ge (tgt := 29) zd_X5_firstGreatest_9 (by decide) (zs_iload_n zd_X5_firstGreatest_29 rfl (zs_iret rfl zd_X5_firstGreatest_30)) (zs_aload_n zd_X5_firstGreatest_12 rfl (zs_iload_n zd_X5_firstGreatest_13 rfl (zs_iald zd_X5_firstGreatest_14 (zs_aload_n zd_X5_firstGreatest_15 rfl (zs_iload_n zd_X5_firstGreatest_16 rfl (zs_iald zd_X5_firstGreatest_17 (zs_icmp_le (tgt := 23) zd_X5_firstGreatest_18 (by decide) (zbs_X5_firstGreatest_23 hR J hJ) (zs_iload_n zd_X5_firstGreatest_21 rfl (zs_istore_n zd_X5_firstGreatest_22 rfl (by decide) (zbs_X5_firstGreatest_23 hR J hJ)))))))))))))
def zB_X5_firstGreatest (K : zKt) (J : Nat → zPP) (h : Nat) : zPP := if h = 4 then zb_X5_firstGreatest_4 K J else (fun _ _ _ => False)
theorem zBs_X5_firstGreatest {X : zCt} (hR : zRX X = { frames := 0, cells := 0, slots := 0, locals := 0 }) : ∀ J : Nat → zPP, (∀ h ∈ ([4] : List Nat), zSd X RX5 "firstGreatest" cX5_firstGreatest 4 (some .int) h (J h)) → ∀ h ∈ ([4] : List Nat), zSd X RX5 "firstGreatest" cX5_firstGreatest 4 (some .int) h (zB_X5_firstGreatest (zKX X) J h) := by
  intro J hJ h hh
  unfold zB_X5_firstGreatest
  simp only [List.mem_cons, List.not_mem_nil, or_false] at hh
  subst hh
  exact zbs_X5_firstGreatest_4 hR J hJ
theorem zdn_X5_firstGreatest : yX5_firstGreatest.cls ≠ "java/lang/invoke/MethodHandle" ∧ yX5_firstGreatest.cls ≠ "java/lang/invoke/VarHandle" ∧ (parseMethodDescriptor yX5_firstGreatest.desc).map (fun d => d.parameters.length) = some 1 := by decide +kernel
/-! DeltaRuns$Water goesAhead -/
theorem zd_X5_goesAhead_0 : decode cX5_goesAhead 0 = .ok (.aload_n 0, 1) := by decide +kernel
theorem zd_X5_goesAhead_1 : decode cX5_goesAhead 1 = .ok (.getfield 9, 3) := by decide +kernel
theorem zd_X5_goesAhead_4 : decode cX5_goesAhead 4 = .ok (.iload_n 1, 1) := by decide +kernel
theorem zd_X5_goesAhead_5 : decode cX5_goesAhead 5 = .ok (.iaload, 1) := by decide +kernel
theorem zd_X5_goesAhead_6 : decode cX5_goesAhead 6 = .ok (.aload_n 0, 1) := by decide +kernel
theorem zd_X5_goesAhead_7 : decode cX5_goesAhead 7 = .ok (.getfield 9, 3) := by decide +kernel
theorem zd_X5_goesAhead_10 : decode cX5_goesAhead 10 = .ok (.iload_n 2, 1) := by decide +kernel
theorem zd_X5_goesAhead_11 : decode cX5_goesAhead 11 = .ok (.iaload, 1) := by decide +kernel
theorem zd_X5_goesAhead_12 : decode cX5_goesAhead 12 = .ok (.if_icmp .eq 24, 3) := by decide +kernel
theorem zd_X5_goesAhead_15 : decode cX5_goesAhead 15 = .ok (.aload_n 0, 1) := by decide +kernel
theorem zd_X5_goesAhead_16 : decode cX5_goesAhead 16 = .ok (.getfield 9, 3) := by decide +kernel
theorem zd_X5_goesAhead_19 : decode cX5_goesAhead 19 = .ok (.iload_n 1, 1) := by decide +kernel
theorem zd_X5_goesAhead_20 : decode cX5_goesAhead 20 = .ok (.iaload, 1) := by decide +kernel
theorem zd_X5_goesAhead_21 : decode cX5_goesAhead 21 = .ok (.aload_n 0, 1) := by decide +kernel
theorem zd_X5_goesAhead_22 : decode cX5_goesAhead 22 = .ok (.getfield 9, 3) := by decide +kernel
theorem zd_X5_goesAhead_25 : decode cX5_goesAhead 25 = .ok (.iload_n 2, 1) := by decide +kernel
theorem zd_X5_goesAhead_26 : decode cX5_goesAhead 26 = .ok (.iaload, 1) := by decide +kernel
theorem zd_X5_goesAhead_27 : decode cX5_goesAhead 27 = .ok (.if_icmp .le 7, 3) := by decide +kernel
theorem zd_X5_goesAhead_30 : decode cX5_goesAhead 30 = .ok (.iconst 1, 1) := by decide +kernel
theorem zd_X5_goesAhead_31 : decode cX5_goesAhead 31 = .ok (.goto 4, 3) := by decide +kernel
theorem zd_X5_goesAhead_34 : decode cX5_goesAhead 34 = .ok (.iconst 0, 1) := by decide +kernel
theorem zd_X5_goesAhead_35 : decode cX5_goesAhead 35 = .ok (.ireturn, 1) := by decide +kernel
theorem zd_X5_goesAhead_36 : decode cX5_goesAhead 36 = .ok (.iload_n 1, 1) := by decide +kernel
theorem zd_X5_goesAhead_37 : decode cX5_goesAhead 37 = .ok (.iload_n 2, 1) := by decide +kernel
theorem zd_X5_goesAhead_38 : decode cX5_goesAhead 38 = .ok (.if_icmp .ge 7, 3) := by decide +kernel
theorem zd_X5_goesAhead_41 : decode cX5_goesAhead 41 = .ok (.iconst 1, 1) := by decide +kernel
theorem zd_X5_goesAhead_42 : decode cX5_goesAhead 42 = .ok (.goto 4, 3) := by decide +kernel
theorem zd_X5_goesAhead_45 : decode cX5_goesAhead 45 = .ok (.iconst 0, 1) := by decide +kernel
theorem zd_X5_goesAhead_46 : decode cX5_goesAhead 46 = .ok (.ireturn, 1) := by decide +kernel
def zb_X5_goesAhead_35 (K : zKt) (J : Nat → zPP) : zPP := zT_nret .boolean K
theorem zbs_X5_goesAhead_35 {X : zCt} (hR : zRX X = { frames := 0, cells := 0, slots := 0, locals := 0 }) (J : Nat → zPP) (hJ : ∀ h ∈ ([] : List Nat), zSd X RX5 "goesAhead" cX5_goesAhead 3 (some .boolean) h (J h)) : zSd X RX5 "goesAhead" cX5_goesAhead 3 (some .boolean) 35 (zb_X5_goesAhead_35 (zKX X) J) := zs_nret rfl zd_X5_goesAhead_35
def zb_X5_goesAhead_46 (K : zKt) (J : Nat → zPP) : zPP := zT_nret .boolean K
theorem zbs_X5_goesAhead_46 {X : zCt} (hR : zRX X = { frames := 0, cells := 0, slots := 0, locals := 0 }) (J : Nat → zPP) (hJ : ∀ h ∈ ([] : List Nat), zSd X RX5 "goesAhead" cX5_goesAhead 3 (some .boolean) h (J h)) : zSd X RX5 "goesAhead" cX5_goesAhead 3 (some .boolean) 46 (zb_X5_goesAhead_46 (zKX X) J) := zs_nret rfl zd_X5_goesAhead_46
def zb_X5_goesAhead_0 (K : zKt) (J : Nat → zPP) : zPP := zT_ald 0 (zT_getR 5 0 11 (zT_ild 1 (zT_ald0 0 (zT_ald 0 (zT_getR 5 0 11 (zT_ild 2 (zT_ald0 0 (zT_if2 (fun x y => x = y) (zT_ild 1 (zT_ild 2 (zT_if2 (fun x y => y ≤ x) (zT_push (.int 0) (zb_X5_goesAhead_46 K J)) (zT_push (.int 1) (zb_X5_goesAhead_46 K J))))) (zT_ald 0 (zT_getR 5 0 11 (zT_ild 1 (zT_ald0 0 (zT_ald 0 (zT_getR 5 0 11 (zT_ild 2 (zT_ald0 0 (zT_if2 (fun x y => x ≤ y) (zT_push (.int 0) (zb_X5_goesAhead_35 K J)) (zT_push (.int 1) (zb_X5_goesAhead_35 K J)))))))))))))))))))
theorem zbs_X5_goesAhead_0 {X : zCt} (hR : zRX X = { frames := 0, cells := 0, slots := 0, locals := 0 }) (J : Nat → zPP) (hJ : ∀ h ∈ ([] : List Nat), zSd X RX5 "goesAhead" cX5_goesAhead 3 (some .boolean) h (J h)) : zSd X RX5 "goesAhead" cX5_goesAhead 3 (some .boolean) 0 (zb_X5_goesAhead_0 (zKX X) J) := zs_aload_n zd_X5_goesAhead_0 rfl (zs_getR (ci := 5) (j := 0) (T := TX5) rfl inX5 (by decide) gw_1_111 rfl zd_X5_goesAhead_1 (zs_iload_n zd_X5_goesAhead_4 rfl (zs_iald zd_X5_goesAhead_5 (zs_aload_n zd_X5_goesAhead_6 rfl (zs_getR (ci := 5) (j := 0) (T := TX5) rfl inX5 (by decide) gw_1_111 rfl zd_X5_goesAhead_7 (zs_iload_n zd_X5_goesAhead_10 rfl (zs_iald zd_X5_goesAhead_11 (zs_icmp_eq (tgt := 36) zd_X5_goesAhead_12 (by decide) (zs_iload_n zd_X5_goesAhead_36 rfl (zs_iload_n zd_X5_goesAhead_37 rfl (zs_icmp_ge (tgt := 45) zd_X5_goesAhead_38 (by decide) (zs_iconst zd_X5_goesAhead_45 (by decide) (zbs_X5_goesAhead_46 hR J hJ)) (zs_iconst zd_X5_goesAhead_41 (by decide) (zs_goto (tgt := 46) zd_X5_goesAhead_42 (by decide) (zbs_X5_goesAhead_46 hR J hJ)))))) (zs_aload_n zd_X5_goesAhead_15 rfl (zs_getR (ci := 5) (j := 0) (T := TX5) rfl inX5 (by decide) gw_1_111 rfl zd_X5_goesAhead_16 (zs_iload_n zd_X5_goesAhead_19 rfl (zs_iald zd_X5_goesAhead_20 (zs_aload_n zd_X5_goesAhead_21 rfl (zs_getR (ci := 5) (j := 0) (T := TX5) rfl inX5 (by decide) gw_1_111 rfl zd_X5_goesAhead_22 (zs_iload_n zd_X5_goesAhead_25 rfl (zs_iald zd_X5_goesAhead_26 (zs_icmp_le (tgt := 34) zd_X5_goesAhead_27 (by decide) (zs_iconst zd_X5_goesAhead_34 (by decide) (zbs_X5_goesAhead_35 hR J hJ)) (zs_iconst zd_X5_goesAhead_30 (by decide) (zs_goto (tgt := 35) zd_X5_goesAhead_31 (by decide) (zbs_X5_goesAhead_35 hR J hJ))))))))))))))))))))
theorem zdn_X5_goesAhead : yX5_goesAhead.cls ≠ "java/lang/invoke/MethodHandle" ∧ yX5_goesAhead.cls ≠ "java/lang/invoke/VarHandle" ∧ (parseMethodDescriptor yX5_goesAhead.desc).map (fun d => d.parameters.length) = some 2 := by decide +kernel
/-! DeltaRuns$Tape addFour -/
theorem zd_X4_addFour_0 : decode cX4_addFour 0 = .ok (.bipush 24, 2) := by decide +kernel
theorem zd_X4_addFour_2 : decode cX4_addFour 2 = .ok (.istore_n 2, 1) := by decide +kernel
theorem zd_X4_addFour_3 : decode cX4_addFour 3 = .ok (.iload_n 2, 1) := by decide +kernel
theorem zd_X4_addFour_4 : decode cX4_addFour 4 = .ok (.ifCond .lt 42, 3) := by decide +kernel
theorem zd_X4_addFour_7 : decode cX4_addFour 7 = .ok (.aload_n 0, 1) := by decide +kernel
theorem zd_X4_addFour_8 : decode cX4_addFour 8 = .ok (.getfield 15, 3) := by decide +kernel
theorem zd_X4_addFour_11 : decode cX4_addFour 11 = .ok (.sipush 300, 3) := by decide +kernel
theorem zd_X4_addFour_14 : decode cX4_addFour 14 = .ok (.if_icmp .ge 32, 3) := by decide +kernel
theorem zd_X4_addFour_17 : decode cX4_addFour 17 = .ok (.aload_n 0, 1) := by decide +kernel
theorem zd_X4_addFour_18 : decode cX4_addFour 18 = .ok (.getfield 9, 3) := by decide +kernel
theorem zd_X4_addFour_21 : decode cX4_addFour 21 = .ok (.aload_n 0, 1) := by decide +kernel
theorem zd_X4_addFour_22 : decode cX4_addFour 22 = .ok (.getfield 15, 3) := by decide +kernel
theorem zd_X4_addFour_25 : decode cX4_addFour 25 = .ok (.iload_n 1, 1) := by decide +kernel
theorem zd_X4_addFour_26 : decode cX4_addFour 26 = .ok (.iload_n 2, 1) := by decide +kernel
theorem zd_X4_addFour_27 : decode cX4_addFour 27 = .ok (.ishr, 1) := by decide +kernel
theorem zd_X4_addFour_28 : decode cX4_addFour 28 = .ok (.i2b, 1) := by decide +kernel
theorem zd_X4_addFour_29 : decode cX4_addFour 29 = .ok (.bastore, 1) := by decide +kernel
theorem zd_X4_addFour_30 : decode cX4_addFour 30 = .ok (.aload_n 0, 1) := by decide +kernel
theorem zd_X4_addFour_31 : decode cX4_addFour 31 = .ok (.dup, 1) := by decide +kernel
theorem zd_X4_addFour_32 : decode cX4_addFour 32 = .ok (.getfield 15, 3) := by decide +kernel
theorem zd_X4_addFour_35 : decode cX4_addFour 35 = .ok (.iconst 1, 1) := by decide +kernel
theorem zd_X4_addFour_36 : decode cX4_addFour 36 = .ok (.iadd, 1) := by decide +kernel
theorem zd_X4_addFour_37 : decode cX4_addFour 37 = .ok (.putfield 15, 3) := by decide +kernel
theorem zd_X4_addFour_40 : decode cX4_addFour 40 = .ok (.iinc 2 (-8), 3) := by decide +kernel
theorem zd_X4_addFour_43 : decode cX4_addFour 43 = .ok (.goto (-40), 3) := by decide +kernel
theorem zd_X4_addFour_46 : decode cX4_addFour 46 = .ok (.return_, 1) := by decide +kernel
def zb_X4_addFour_0 (K : zKt) (J : Nat → zPP) : zPP := zT_push (.int 24) (zT_ist 2 (J 3))
theorem zbs_X4_addFour_0 {X : zCt} (hR : zRX X = { frames := 0, cells := 0, slots := 0, locals := 0 }) (J : Nat → zPP) (hJ : ∀ h ∈ ([3] : List Nat), zSd X RX4 "addFour" cX4_addFour 3 none h (J h)) : zSd X RX4 "addFour" cX4_addFour 3 none 0 (zb_X4_addFour_0 (zKX X) J) := zs_bipush zd_X4_addFour_0 (by decide) (zs_istore_n zd_X4_addFour_2 rfl (by decide) (hJ 3 (by decide)))
def zb_X4_addFour_46 (K : zKt) (J : Nat → zPP) : zPP := zT_vret K
theorem zbs_X4_addFour_46 {X : zCt} (hR : zRX X = { frames := 0, cells := 0, slots := 0, locals := 0 }) (J : Nat → zPP) (hJ : ∀ h ∈ ([3] : List Nat), zSd X RX4 "addFour" cX4_addFour 3 none h (J h)) : zSd X RX4 "addFour" cX4_addFour 3 none 46 (zb_X4_addFour_46 (zKX X) J) := zs_vret rfl zd_X4_addFour_46
def zb_X4_addFour_3 (K : zKt) (J : Nat → zPP) : zPP := zT_ild 2 (zT_if1 (fun x => x < 0) (zb_X4_addFour_46 K J) (zT_ald 0 (zT_getI 4 1 2 (zT_push (.int 300) (zT_if2 (fun x y => y ≤ x) (zb_X4_addFour_46 K J) (zT_ald 0 (zT_getR 4 0 2 (zT_ald 0 (zT_getI 4 1 2 (zT_ild 1 (zT_ild 2 (zT_bin (fun x y => x >>> (y &&& 31)) (zT_un (fun x => x.toInt8.toInt32) (zT_bast (zT_ald 0 (zT_dup (zT_getI 4 1 2 (zT_push (.int 1) (zT_bin (fun x y => x + y) (zT_putI 4 1 2 (zT_iinc 2 (-8) (J 3))))))))))))))))))))))
theorem zbs_X4_addFour_3 {X : zCt} (hR : zRX X = { frames := 0, cells := 0, slots := 0, locals := 0 }) (J : Nat → zPP) (hJ : ∀ h ∈ ([3] : List Nat), zSd X RX4 "addFour" cX4_addFour 3 none h (J h)) : zSd X RX4 "addFour" cX4_addFour 3 none 3 (zb_X4_addFour_3 (zKX X) J) := zs_iload_n zd_X4_addFour_3 rfl (zs_if_lt (tgt := 46) zd_X4_addFour_4 (by decide) (zbs_X4_addFour_46 hR J hJ) (zs_aload_n zd_X4_addFour_7 rfl (zs_getI (ci := 4) (j := 1) (T := TX4) rfl inX4 (by decide) gw_1_69 rfl zd_X4_addFour_8 (zs_sipush zd_X4_addFour_11 (by decide) (zs_icmp_ge (tgt := 46) zd_X4_addFour_14 (by decide) (zbs_X4_addFour_46 hR J hJ) (zs_aload_n zd_X4_addFour_17 rfl (zs_getR (ci := 4) (j := 0) (T := TX4) rfl inX4 (by decide) gw_1_67 rfl zd_X4_addFour_18 (zs_aload_n zd_X4_addFour_21 rfl (zs_getI (ci := 4) (j := 1) (T := TX4) rfl inX4 (by decide) gw_1_69 rfl zd_X4_addFour_22 (zs_iload_n zd_X4_addFour_25 rfl (zs_iload_n zd_X4_addFour_26 rfl (zs_ishr zd_X4_addFour_27 (zs_i2b zd_X4_addFour_28 (zs_bast zd_X4_addFour_29 (zs_aload_n zd_X4_addFour_30 rfl (zs_dup zd_X4_addFour_31 (zs_getI (ci := 4) (j := 1) (T := TX4) rfl inX4 (by decide) gw_1_69 rfl zd_X4_addFour_32 (zs_iconst zd_X4_addFour_35 (by decide) (zs_iadd zd_X4_addFour_36 (zs_putI (ci := 4) (j := 1) (T := TX4) rfl inX4 tyX4_ok nmX4 (by decide) gw_1_69 rfl rfl rfl zd_X4_addFour_37 (zs_iinc zd_X4_addFour_40 (by decide) (by decide) (zs_goto (tgt := 3) zd_X4_addFour_43 (by decide) (hJ 3 (by decide))))))))))))))))))))))))
def zB_X4_addFour (K : zKt) (J : Nat → zPP) (h : Nat) : zPP := if h = 3 then zb_X4_addFour_3 K J else (fun _ _ _ => False)
theorem zBs_X4_addFour {X : zCt} (hR : zRX X = { frames := 0, cells := 0, slots := 0, locals := 0 }) : ∀ J : Nat → zPP, (∀ h ∈ ([3] : List Nat), zSd X RX4 "addFour" cX4_addFour 3 none h (J h)) → ∀ h ∈ ([3] : List Nat), zSd X RX4 "addFour" cX4_addFour 3 none h (zB_X4_addFour (zKX X) J h) := by
  intro J hJ h hh
  unfold zB_X4_addFour
  simp only [List.mem_cons, List.not_mem_nil, or_false] at hh
  subst hh
  exact zbs_X4_addFour_3 hR J hJ
theorem zdn_X4_addFour : yX4_addFour.cls ≠ "java/lang/invoke/MethodHandle" ∧ yX4_addFour.cls ≠ "java/lang/invoke/VarHandle" ∧ (parseMethodDescriptor yX4_addFour.desc).map (fun d => d.parameters.length) = some 1 := by decide +kernel
/-! DeltaRuns$Years keep -/
theorem zd_X6_keep_0 : decode cX6_keep 0 = .ok (.iconst 0, 1) := by decide +kernel
theorem zd_X6_keep_1 : decode cX6_keep 1 = .ok (.istore_n 3, 1) := by decide +kernel
theorem zd_X6_keep_2 : decode cX6_keep 2 = .ok (.iload_n 3, 1) := by decide +kernel
theorem zd_X6_keep_3 : decode cX6_keep 3 = .ok (.bipush 15, 2) := by decide +kernel
theorem zd_X6_keep_5 : decode cX6_keep 5 = .ok (.if_icmp .ge 58, 3) := by decide +kernel
theorem zd_X6_keep_8 : decode cX6_keep 8 = .ok (.lconst 0, 1) := by decide +kernel
theorem zd_X6_keep_9 : decode cX6_keep 9 = .ok (.lstore 4, 2) := by decide +kernel
theorem zd_X6_keep_11 : decode cX6_keep 11 = .ok (.bipush 7, 2) := by decide +kernel
theorem zd_X6_keep_13 : decode cX6_keep 13 = .ok (.istore 6, 2) := by decide +kernel
theorem zd_X6_keep_15 : decode cX6_keep 15 = .ok (.iload 6, 2) := by decide +kernel
theorem zd_X6_keep_17 : decode cX6_keep 17 = .ok (.ifCond .lt 27, 3) := by decide +kernel
theorem zd_X6_keep_20 : decode cX6_keep 20 = .ok (.lload 4, 2) := by decide +kernel
theorem zd_X6_keep_22 : decode cX6_keep 22 = .ok (.bipush 8, 2) := by decide +kernel
theorem zd_X6_keep_24 : decode cX6_keep 24 = .ok (.lshl, 1) := by decide +kernel
theorem zd_X6_keep_25 : decode cX6_keep 25 = .ok (.aload_n 2, 1) := by decide +kernel
theorem zd_X6_keep_26 : decode cX6_keep 26 = .ok (.iload_n 3, 1) := by decide +kernel
theorem zd_X6_keep_27 : decode cX6_keep 27 = .ok (.bipush 8, 2) := by decide +kernel
theorem zd_X6_keep_29 : decode cX6_keep 29 = .ok (.imul, 1) := by decide +kernel
theorem zd_X6_keep_30 : decode cX6_keep 30 = .ok (.iload 6, 2) := by decide +kernel
theorem zd_X6_keep_32 : decode cX6_keep 32 = .ok (.iadd, 1) := by decide +kernel
theorem zd_X6_keep_33 : decode cX6_keep 33 = .ok (.iaload, 1) := by decide +kernel
theorem zd_X6_keep_34 : decode cX6_keep 34 = .ok (.i2l, 1) := by decide +kernel
theorem zd_X6_keep_35 : decode cX6_keep 35 = .ok (.lor, 1) := by decide +kernel
theorem zd_X6_keep_36 : decode cX6_keep 36 = .ok (.lstore 4, 2) := by decide +kernel
theorem zd_X6_keep_38 : decode cX6_keep 38 = .ok (.iinc 6 (-1), 3) := by decide +kernel
theorem zd_X6_keep_41 : decode cX6_keep 41 = .ok (.goto (-26), 3) := by decide +kernel
theorem zd_X6_keep_44 : decode cX6_keep 44 = .ok (.aload_n 0, 1) := by decide +kernel
theorem zd_X6_keep_45 : decode cX6_keep 45 = .ok (.getfield 11, 3) := by decide +kernel
theorem zd_X6_keep_48 : decode cX6_keep 48 = .ok (.iload_n 1, 1) := by decide +kernel
theorem zd_X6_keep_49 : decode cX6_keep 49 = .ok (.bipush 15, 2) := by decide +kernel
theorem zd_X6_keep_51 : decode cX6_keep 51 = .ok (.imul, 1) := by decide +kernel
theorem zd_X6_keep_52 : decode cX6_keep 52 = .ok (.iload_n 3, 1) := by decide +kernel
theorem zd_X6_keep_53 : decode cX6_keep 53 = .ok (.iadd, 1) := by decide +kernel
theorem zd_X6_keep_54 : decode cX6_keep 54 = .ok (.lload 4, 2) := by decide +kernel
theorem zd_X6_keep_56 : decode cX6_keep 56 = .ok (.lastore, 1) := by decide +kernel
theorem zd_X6_keep_57 : decode cX6_keep 57 = .ok (.iinc 3 1, 3) := by decide +kernel
theorem zd_X6_keep_60 : decode cX6_keep 60 = .ok (.goto (-58), 3) := by decide +kernel
theorem zd_X6_keep_63 : decode cX6_keep 63 = .ok (.aload_n 0, 1) := by decide +kernel
theorem zd_X6_keep_64 : decode cX6_keep 64 = .ok (.iload_n 1, 1) := by decide +kernel
theorem zd_X6_keep_65 : decode cX6_keep 65 = .ok (.putfield 15, 3) := by decide +kernel
theorem zd_X6_keep_68 : decode cX6_keep 68 = .ok (.return_, 1) := by decide +kernel
def zb_X6_keep_0 (K : zKt) (J : Nat → zPP) : zPP := zT_push (.int 0) (zT_ist 3 (J 2))
theorem zbs_X6_keep_0 {X : zCt} (hR : zRX X = { frames := 0, cells := 0, slots := 0, locals := 0 }) (J : Nat → zPP) (hJ : ∀ h ∈ ([2, 15] : List Nat), zSd X RX6 "keep" cX6_keep 7 none h (J h)) : zSd X RX6 "keep" cX6_keep 7 none 0 (zb_X6_keep_0 (zKX X) J) := zs_iconst zd_X6_keep_0 (by decide) (zs_istore_n zd_X6_keep_1 rfl (by decide) (hJ 2 (by decide)))
def zb_X6_keep_2 (K : zKt) (J : Nat → zPP) : zPP := zT_ild 3 (zT_push (.int 15) (zT_if2 (fun x y => y ≤ x) (zT_ald 0 (zT_ild 1 (zT_putI 6 1 2 (zT_vret K)))) (zT_push (.long 0) (zT_lst 4 (zT_push (.int 7) (zT_ist 6 (J 15)))))))
theorem zbs_X6_keep_2 {X : zCt} (hR : zRX X = { frames := 0, cells := 0, slots := 0, locals := 0 }) (J : Nat → zPP) (hJ : ∀ h ∈ ([2, 15] : List Nat), zSd X RX6 "keep" cX6_keep 7 none h (J h)) : zSd X RX6 "keep" cX6_keep 7 none 2 (zb_X6_keep_2 (zKX X) J) := zs_iload_n zd_X6_keep_2 rfl (zs_bipush zd_X6_keep_3 (by decide) (zs_icmp_ge (tgt := 63) zd_X6_keep_5 (by decide) (zs_aload_n zd_X6_keep_63 rfl (zs_iload_n zd_X6_keep_64 rfl (zs_putI (ci := 6) (j := 1) (T := TX6) rfl inX6 tyX6_ok nmX6 (by decide) gw_2_171 rfl rfl rfl zd_X6_keep_65 (zs_vret rfl zd_X6_keep_68)))) (zs_lconst zd_X6_keep_8 (by decide) (zs_lstore zd_X6_keep_9 (by decide) (zs_bipush zd_X6_keep_11 (by decide) (zs_istore zd_X6_keep_13 (by decide) (hJ 15 (by decide))))))))
def zb_X6_keep_15 (K : zKt) (J : Nat → zPP) : zPP := zT_ild 6 (zT_if1 (fun x => x < 0) (zT_ald 0 (zT_getR 6 0 2 (zT_ild 1 (zT_push (.int 15) (zT_bin (fun x y => x * y) (zT_ild 3 (zT_bin (fun x y => x + y) (zT_lld 4 (zT_last (zT_iinc 3 1 (J 2))))))))))) (zT_lld 4 (zT_push (.int 8) (zT_shl (fun x y => x <<< (y.toInt64 &&& 63)) (zT_ald 2 (zT_ild 3 (zT_push (.int 8) (zT_bin (fun x y => x * y) (zT_ild 6 (zT_bin (fun x y => x + y) (zT_ald0 0 (zT_i2l (zT_bil (fun x y => x ||| y) (zT_lst 4 (zT_iinc 6 (-1) (J 15))))))))))))))))
theorem zbs_X6_keep_15 {X : zCt} (hR : zRX X = { frames := 0, cells := 0, slots := 0, locals := 0 }) (J : Nat → zPP) (hJ : ∀ h ∈ ([2, 15] : List Nat), zSd X RX6 "keep" cX6_keep 7 none h (J h)) : zSd X RX6 "keep" cX6_keep 7 none 15 (zb_X6_keep_15 (zKX X) J) := zs_iload zd_X6_keep_15 (zs_if_lt (tgt := 44) zd_X6_keep_17 (by decide) (zs_aload_n zd_X6_keep_44 rfl (zs_getR (ci := 6) (j := 0) (T := TX6) rfl inX6 (by decide) gw_2_170 rfl zd_X6_keep_45 (zs_iload_n zd_X6_keep_48 rfl (zs_bipush zd_X6_keep_49 (by decide) (zs_imul zd_X6_keep_51 (zs_iload_n zd_X6_keep_52 rfl (zs_iadd zd_X6_keep_53 (zs_lload zd_X6_keep_54 (zs_last zd_X6_keep_56 (zs_iinc zd_X6_keep_57 (by decide) (by decide) (zs_goto (tgt := 2) zd_X6_keep_60 (by decide) (hJ 2 (by decide))))))))))))) (zs_lload zd_X6_keep_20 (zs_bipush zd_X6_keep_22 (by decide) (zs_lshl zd_X6_keep_24 (zs_aload_n zd_X6_keep_25 rfl (zs_iload_n zd_X6_keep_26 rfl (zs_bipush zd_X6_keep_27 (by decide) (zs_imul zd_X6_keep_29 (zs_iload zd_X6_keep_30 (zs_iadd zd_X6_keep_32 (zs_iald zd_X6_keep_33 (zs_i2l zd_X6_keep_34 (zs_lor zd_X6_keep_35 (zs_lstore zd_X6_keep_36 (by decide) (zs_iinc zd_X6_keep_38 (by decide) (by decide) (zs_goto (tgt := 15) zd_X6_keep_41 (by decide) (hJ 15 (by decide))))))))))))))))))
def zB_X6_keep (K : zKt) (J : Nat → zPP) (h : Nat) : zPP := if h = 2 then zb_X6_keep_2 K J else if h = 15 then zb_X6_keep_15 K J else (fun _ _ _ => False)
theorem zBs_X6_keep {X : zCt} (hR : zRX X = { frames := 0, cells := 0, slots := 0, locals := 0 }) : ∀ J : Nat → zPP, (∀ h ∈ ([2, 15] : List Nat), zSd X RX6 "keep" cX6_keep 7 none h (J h)) → ∀ h ∈ ([2, 15] : List Nat), zSd X RX6 "keep" cX6_keep 7 none h (zB_X6_keep (zKX X) J h) := by
  intro J hJ h hh
  unfold zB_X6_keep
  simp only [List.mem_cons, List.not_mem_nil, or_false] at hh
  rcases hh with rfl | rfl
  · exact zbs_X6_keep_2 hR J hJ
  · exact zbs_X6_keep_15 hR J hJ
theorem zdn_X6_keep : yX6_keep.cls ≠ "java/lang/invoke/MethodHandle" ∧ yX6_keep.cls ≠ "java/lang/invoke/VarHandle" ∧ (parseMethodDescriptor yX6_keep.desc).map (fun d => d.parameters.length) = some 2 := by decide +kernel
/-! DeltaRuns$Years heightOf -/
theorem zd_X6_heightOf_0 : decode cX6_heightOf 0 = .ok (.aload_n 0, 1) := by decide +kernel
theorem zd_X6_heightOf_1 : decode cX6_heightOf 1 = .ok (.getfield 11, 3) := by decide +kernel
theorem zd_X6_heightOf_4 : decode cX6_heightOf 4 = .ok (.iload_n 1, 1) := by decide +kernel
theorem zd_X6_heightOf_5 : decode cX6_heightOf 5 = .ok (.bipush 15, 2) := by decide +kernel
theorem zd_X6_heightOf_7 : decode cX6_heightOf 7 = .ok (.imul, 1) := by decide +kernel
theorem zd_X6_heightOf_8 : decode cX6_heightOf 8 = .ok (.iload_n 2, 1) := by decide +kernel
theorem zd_X6_heightOf_9 : decode cX6_heightOf 9 = .ok (.bipush 8, 2) := by decide +kernel
theorem zd_X6_heightOf_11 : decode cX6_heightOf 11 = .ok (.idiv, 1) := by decide +kernel
theorem zd_X6_heightOf_12 : decode cX6_heightOf 12 = .ok (.iadd, 1) := by decide +kernel
theorem zd_X6_heightOf_13 : decode cX6_heightOf 13 = .ok (.laload, 1) := by decide +kernel
theorem zd_X6_heightOf_14 : decode cX6_heightOf 14 = .ok (.lstore_n 3, 1) := by decide +kernel
theorem zd_X6_heightOf_15 : decode cX6_heightOf 15 = .ok (.lload_n 3, 1) := by decide +kernel
theorem zd_X6_heightOf_16 : decode cX6_heightOf 16 = .ok (.bipush 8, 2) := by decide +kernel
theorem zd_X6_heightOf_18 : decode cX6_heightOf 18 = .ok (.iload_n 2, 1) := by decide +kernel
theorem zd_X6_heightOf_19 : decode cX6_heightOf 19 = .ok (.bipush 8, 2) := by decide +kernel
theorem zd_X6_heightOf_21 : decode cX6_heightOf 21 = .ok (.irem, 1) := by decide +kernel
theorem zd_X6_heightOf_22 : decode cX6_heightOf 22 = .ok (.imul, 1) := by decide +kernel
theorem zd_X6_heightOf_23 : decode cX6_heightOf 23 = .ok (.lushr, 1) := by decide +kernel
theorem zd_X6_heightOf_24 : decode cX6_heightOf 24 = .ok (.l2i, 1) := by decide +kernel
theorem zd_X6_heightOf_25 : decode cX6_heightOf 25 = .ok (.sipush 255, 3) := by decide +kernel
theorem zd_X6_heightOf_28 : decode cX6_heightOf 28 = .ok (.iand, 1) := by decide +kernel
theorem zd_X6_heightOf_29 : decode cX6_heightOf 29 = .ok (.ireturn, 1) := by decide +kernel
def zb_X6_heightOf_0 (K : zKt) (J : Nat → zPP) : zPP := zT_ald 0 (zT_getR 6 0 2 (zT_ild 1 (zT_push (.int 15) (zT_bin (fun x y => x * y) (zT_ild 2 (zT_push (.int 8) (zT_div (fun x y => x / y) (zT_bin (fun x y => x + y) (zT_lald (zT_lst 3 (zT_lld 3 (zT_push (.int 8) (zT_ild 2 (zT_push (.int 8) (zT_div (fun x y => x - x / y * y) (zT_bin (fun x y => x * y) (zT_shl (fun x y => (x.toUInt64 >>> (y.toInt64.toUInt64 &&& Int64.toUInt64 63)).toInt64) (zT_l2i (zT_push (.int 255) (zT_bin (fun x y => x &&& y) (zT_iret K)))))))))))))))))))))
theorem zbs_X6_heightOf_0 {X : zCt} (hR : zRX X = { frames := 0, cells := 0, slots := 0, locals := 0 }) (J : Nat → zPP) (hJ : ∀ h ∈ ([] : List Nat), zSd X RX6 "heightOf" cX6_heightOf 5 (some .int) h (J h)) : zSd X RX6 "heightOf" cX6_heightOf 5 (some .int) 0 (zb_X6_heightOf_0 (zKX X) J) := zs_aload_n zd_X6_heightOf_0 rfl (zs_getR (ci := 6) (j := 0) (T := TX6) rfl inX6 (by decide) gw_2_170 rfl zd_X6_heightOf_1 (zs_iload_n zd_X6_heightOf_4 rfl (zs_bipush zd_X6_heightOf_5 (by decide) (zs_imul zd_X6_heightOf_7 (zs_iload_n zd_X6_heightOf_8 rfl (zs_bipush zd_X6_heightOf_9 (by decide) (zs_idiv zd_X6_heightOf_11 (zs_iadd zd_X6_heightOf_12 (zs_lald zd_X6_heightOf_13 (zs_lstore_n zd_X6_heightOf_14 rfl (by decide) (zs_lload_n zd_X6_heightOf_15 rfl (zs_bipush zd_X6_heightOf_16 (by decide) (zs_iload_n zd_X6_heightOf_18 rfl (zs_bipush zd_X6_heightOf_19 (by decide) (zs_irem zd_X6_heightOf_21 (zs_imul zd_X6_heightOf_22 (zs_lushr zd_X6_heightOf_23 (zs_l2i zd_X6_heightOf_24 (zs_sipush zd_X6_heightOf_25 (by decide) (zs_iand zd_X6_heightOf_28 (zs_iret rfl zd_X6_heightOf_29)))))))))))))))))))))
theorem zdn_X6_heightOf : yX6_heightOf.cls ≠ "java/lang/invoke/MethodHandle" ∧ yX6_heightOf.cls ≠ "java/lang/invoke/VarHandle" ∧ (parseMethodDescriptor yX6_heightOf.desc).map (fun d => d.parameters.length) = some 2 := by decide +kernel
/-! DeltaRuns$Land layOut -/
theorem zd_X1_layOut_0 : decode cX1_layOut 0 = .ok (.aload_n 0, 1) := by decide +kernel
theorem zd_X1_layOut_1 : decode cX1_layOut 1 = .ok (.iload_n 1, 1) := by decide +kernel
theorem zd_X1_layOut_2 : decode cX1_layOut 2 = .ok (.putfield 26, 3) := by decide +kernel
theorem zd_X1_layOut_5 : decode cX1_layOut 5 = .ok (.aload_n 0, 1) := by decide +kernel
theorem zd_X1_layOut_6 : decode cX1_layOut 6 = .ok (.iload_n 2, 1) := by decide +kernel
theorem zd_X1_layOut_7 : decode cX1_layOut 7 = .ok (.putfield 29, 3) := by decide +kernel
theorem zd_X1_layOut_10 : decode cX1_layOut 10 = .ok (.aload_n 0, 1) := by decide +kernel
theorem zd_X1_layOut_11 : decode cX1_layOut 11 = .ok (.iconst 0, 1) := by decide +kernel
theorem zd_X1_layOut_12 : decode cX1_layOut 12 = .ok (.putfield 32, 3) := by decide +kernel
theorem zd_X1_layOut_15 : decode cX1_layOut 15 = .ok (.iconst 0, 1) := by decide +kernel
theorem zd_X1_layOut_16 : decode cX1_layOut 16 = .ok (.istore_n 3, 1) := by decide +kernel
theorem zd_X1_layOut_17 : decode cX1_layOut 17 = .ok (.iload_n 3, 1) := by decide +kernel
theorem zd_X1_layOut_18 : decode cX1_layOut 18 = .ok (.bipush 120, 2) := by decide +kernel
theorem zd_X1_layOut_20 : decode cX1_layOut 20 = .ok (.if_icmp .ge 17, 3) := by decide +kernel
theorem zd_X1_layOut_23 : decode cX1_layOut 23 = .ok (.aload_n 0, 1) := by decide +kernel
theorem zd_X1_layOut_24 : decode cX1_layOut 24 = .ok (.getfield 9, 3) := by decide +kernel
theorem zd_X1_layOut_27 : decode cX1_layOut 27 = .ok (.iload_n 3, 1) := by decide +kernel
theorem zd_X1_layOut_28 : decode cX1_layOut 28 = .ok (.bipush 50, 2) := by decide +kernel
theorem zd_X1_layOut_30 : decode cX1_layOut 30 = .ok (.iastore, 1) := by decide +kernel
theorem zd_X1_layOut_31 : decode cX1_layOut 31 = .ok (.iinc 3 1, 3) := by decide +kernel
theorem zd_X1_layOut_34 : decode cX1_layOut 34 = .ok (.goto (-17), 3) := by decide +kernel
theorem zd_X1_layOut_37 : decode cX1_layOut 37 = .ok (.return_, 1) := by decide +kernel
def zb_X1_layOut_0 (K : zKt) (J : Nat → zPP) : zPP := zT_ald 0 (zT_ild 1 (zT_putI 1 1 6 (zT_ald 0 (zT_ild 2 (zT_putI 1 2 6 (zT_ald 0 (zT_push (.int 0) (zT_putI 1 3 6 (zT_push (.int 0) (zT_ist 3 (J 17)))))))))))
theorem zbs_X1_layOut_0 {X : zCt} (hR : zRX X = { frames := 0, cells := 0, slots := 0, locals := 0 }) (J : Nat → zPP) (hJ : ∀ h ∈ ([17] : List Nat), zSd X RX1 "layOut" cX1_layOut 4 none h (J h)) : zSd X RX1 "layOut" cX1_layOut 4 none 0 (zb_X1_layOut_0 (zKX X) J) := zs_aload_n zd_X1_layOut_0 rfl (zs_iload_n zd_X1_layOut_1 rfl (zs_putI (ci := 1) (j := 1) (T := TX1) rfl inX1 tyX1_ok nmX1 (by decide) gw_1_35 rfl rfl rfl zd_X1_layOut_2 (zs_aload_n zd_X1_layOut_5 rfl (zs_iload_n zd_X1_layOut_6 rfl (zs_putI (ci := 1) (j := 2) (T := TX1) rfl inX1 tyX1_ok nmX1 (by decide) gw_1_37 rfl rfl rfl zd_X1_layOut_7 (zs_aload_n zd_X1_layOut_10 rfl (zs_iconst zd_X1_layOut_11 (by decide) (zs_putI (ci := 1) (j := 3) (T := TX1) rfl inX1 tyX1_ok nmX1 (by decide) gw_1_40 rfl rfl rfl zd_X1_layOut_12 (zs_iconst zd_X1_layOut_15 (by decide) (zs_istore_n zd_X1_layOut_16 rfl (by decide) (hJ 17 (by decide))))))))))))
def zb_X1_layOut_17 (K : zKt) (J : Nat → zPP) : zPP := zT_ild 3 (zT_push (.int 120) (zT_if2 (fun x y => y ≤ x) (zT_vret K) (zT_ald 0 (zT_getR 1 0 6 (zT_ild 3 (zT_push (.int 50) (zT_iast (zT_iinc 3 1 (J 17)))))))))
theorem zbs_X1_layOut_17 {X : zCt} (hR : zRX X = { frames := 0, cells := 0, slots := 0, locals := 0 }) (J : Nat → zPP) (hJ : ∀ h ∈ ([17] : List Nat), zSd X RX1 "layOut" cX1_layOut 4 none h (J h)) : zSd X RX1 "layOut" cX1_layOut 4 none 17 (zb_X1_layOut_17 (zKX X) J) := zs_iload_n zd_X1_layOut_17 rfl (zs_bipush zd_X1_layOut_18 (by decide) (zs_icmp_ge (tgt := 37) zd_X1_layOut_20 (by decide) (zs_vret rfl zd_X1_layOut_37) (zs_aload_n zd_X1_layOut_23 rfl (zs_getR (ci := 1) (j := 0) (T := TX1) rfl inX1 (by decide) gw_1_33 rfl zd_X1_layOut_24 (zs_iload_n zd_X1_layOut_27 rfl (zs_bipush zd_X1_layOut_28 (by decide) (zs_iast zd_X1_layOut_30 (zs_iinc zd_X1_layOut_31 (by decide) (by decide) (zs_goto (tgt := 17) zd_X1_layOut_34 (by decide) (hJ 17 (by decide)))))))))))
def zB_X1_layOut (K : zKt) (J : Nat → zPP) (h : Nat) : zPP := if h = 17 then zb_X1_layOut_17 K J else (fun _ _ _ => False)
theorem zBs_X1_layOut {X : zCt} (hR : zRX X = { frames := 0, cells := 0, slots := 0, locals := 0 }) : ∀ J : Nat → zPP, (∀ h ∈ ([17] : List Nat), zSd X RX1 "layOut" cX1_layOut 4 none h (J h)) → ∀ h ∈ ([17] : List Nat), zSd X RX1 "layOut" cX1_layOut 4 none h (zB_X1_layOut (zKX X) J h) := by
  intro J hJ h hh
  unfold zB_X1_layOut
  simp only [List.mem_cons, List.not_mem_nil, or_false] at hh
  subst hh
  exact zbs_X1_layOut_17 hR J hJ
theorem zdn_X1_layOut : yX1_layOut.cls ≠ "java/lang/invoke/MethodHandle" ∧ yX1_layOut.cls ≠ "java/lang/invoke/VarHandle" ∧ (parseMethodDescriptor yX1_layOut.desc).map (fun d => d.parameters.length) = some 2 := by decide +kernel
/-! DeltaRuns$Entries add -/
theorem zd_X0_add_0 : decode cX0_add 0 = .ok (.aload_n 0, 1) := by decide +kernel
theorem zd_X0_add_1 : decode cX0_add 1 = .ok (.getfield 24, 3) := by decide +kernel
theorem zd_X0_add_4 : decode cX0_add 4 = .ok (.sipush 200, 3) := by decide +kernel
theorem zd_X0_add_7 : decode cX0_add 7 = .ok (.if_icmp .ge 54, 3) := by decide +kernel
theorem zd_X0_add_10 : decode cX0_add 10 = .ok (.aload_n 0, 1) := by decide +kernel
theorem zd_X0_add_11 : decode cX0_add 11 = .ok (.getfield 9, 3) := by decide +kernel
theorem zd_X0_add_14 : decode cX0_add 14 = .ok (.aload_n 0, 1) := by decide +kernel
theorem zd_X0_add_15 : decode cX0_add 15 = .ok (.getfield 24, 3) := by decide +kernel
theorem zd_X0_add_18 : decode cX0_add 18 = .ok (.iload_n 1, 1) := by decide +kernel
theorem zd_X0_add_19 : decode cX0_add 19 = .ok (.iastore, 1) := by decide +kernel
theorem zd_X0_add_20 : decode cX0_add 20 = .ok (.aload_n 0, 1) := by decide +kernel
theorem zd_X0_add_21 : decode cX0_add 21 = .ok (.getfield 15, 3) := by decide +kernel
theorem zd_X0_add_24 : decode cX0_add 24 = .ok (.aload_n 0, 1) := by decide +kernel
theorem zd_X0_add_25 : decode cX0_add 25 = .ok (.getfield 24, 3) := by decide +kernel
theorem zd_X0_add_28 : decode cX0_add 28 = .ok (.iload_n 2, 1) := by decide +kernel
theorem zd_X0_add_29 : decode cX0_add 29 = .ok (.iastore, 1) := by decide +kernel
theorem zd_X0_add_30 : decode cX0_add 30 = .ok (.aload_n 0, 1) := by decide +kernel
theorem zd_X0_add_31 : decode cX0_add 31 = .ok (.getfield 18, 3) := by decide +kernel
theorem zd_X0_add_34 : decode cX0_add 34 = .ok (.aload_n 0, 1) := by decide +kernel
theorem zd_X0_add_35 : decode cX0_add 35 = .ok (.getfield 24, 3) := by decide +kernel
theorem zd_X0_add_38 : decode cX0_add 38 = .ok (.iload_n 3, 1) := by decide +kernel
theorem zd_X0_add_39 : decode cX0_add 39 = .ok (.iastore, 1) := by decide +kernel
theorem zd_X0_add_40 : decode cX0_add 40 = .ok (.aload_n 0, 1) := by decide +kernel
theorem zd_X0_add_41 : decode cX0_add 41 = .ok (.getfield 21, 3) := by decide +kernel
theorem zd_X0_add_44 : decode cX0_add 44 = .ok (.aload_n 0, 1) := by decide +kernel
theorem zd_X0_add_45 : decode cX0_add 45 = .ok (.getfield 24, 3) := by decide +kernel
theorem zd_X0_add_48 : decode cX0_add 48 = .ok (.iload 4, 2) := by decide +kernel
theorem zd_X0_add_50 : decode cX0_add 50 = .ok (.iastore, 1) := by decide +kernel
theorem zd_X0_add_51 : decode cX0_add 51 = .ok (.aload_n 0, 1) := by decide +kernel
theorem zd_X0_add_52 : decode cX0_add 52 = .ok (.dup, 1) := by decide +kernel
theorem zd_X0_add_53 : decode cX0_add 53 = .ok (.getfield 24, 3) := by decide +kernel
theorem zd_X0_add_56 : decode cX0_add 56 = .ok (.iconst 1, 1) := by decide +kernel
theorem zd_X0_add_57 : decode cX0_add 57 = .ok (.iadd, 1) := by decide +kernel
theorem zd_X0_add_58 : decode cX0_add 58 = .ok (.putfield 24, 3) := by decide +kernel
theorem zd_X0_add_61 : decode cX0_add 61 = .ok (.return_, 1) := by decide +kernel
def zb_X0_add_61 (K : zKt) (J : Nat → zPP) : zPP := zT_vret K
theorem zbs_X0_add_61 {X : zCt} (hR : zRX X = { frames := 0, cells := 0, slots := 0, locals := 0 }) (J : Nat → zPP) (hJ : ∀ h ∈ ([] : List Nat), zSd X RX0 "add" cX0_add 5 none h (J h)) : zSd X RX0 "add" cX0_add 5 none 61 (zb_X0_add_61 (zKX X) J) := zs_vret rfl zd_X0_add_61
def zb_X0_add_0 (K : zKt) (J : Nat → zPP) : zPP := zT_ald 0 (zT_getI 0 4 5 (zT_push (.int 200) (zT_if2 (fun x y => y ≤ x) (zb_X0_add_61 K J) (zT_ald 0 (zT_getR 0 0 5 (zT_ald 0 (zT_getI 0 4 5 (zT_ild 1 (zT_iast (zT_ald 0 (zT_getR 0 1 5 (zT_ald 0 (zT_getI 0 4 5 (zT_ild 2 (zT_iast (zT_ald 0 (zT_getR 0 2 5 (zT_ald 0 (zT_getI 0 4 5 (zT_ild 3 (zT_iast (zT_ald 0 (zT_getR 0 3 5 (zT_ald 0 (zT_getI 0 4 5 (zT_ild 4 (zT_iast (zT_ald 0 (zT_dup (zT_getI 0 4 5 (zT_push (.int 1) (zT_bin (fun x y => x + y) (zT_putI 0 4 5 (zb_X0_add_61 K J))))))))))))))))))))))))))))))))))
theorem zbs_X0_add_0 {X : zCt} (hR : zRX X = { frames := 0, cells := 0, slots := 0, locals := 0 }) (J : Nat → zPP) (hJ : ∀ h ∈ ([] : List Nat), zSd X RX0 "add" cX0_add 5 none h (J h)) : zSd X RX0 "add" cX0_add 5 none 0 (zb_X0_add_0 (zKX X) J) := zs_aload_n zd_X0_add_0 rfl (zs_getI (ci := 0) (j := 4) (T := TX0) rfl inX0 (by decide) gw_1_92 rfl zd_X0_add_1 (zs_sipush zd_X0_add_4 (by decide) (zs_icmp_ge (tgt := 61) zd_X0_add_7 (by decide) (zbs_X0_add_61 hR J hJ) (zs_aload_n zd_X0_add_10 rfl (zs_getR (ci := 0) (j := 0) (T := TX0) rfl inX0 (by decide) gw_1_84 rfl zd_X0_add_11 (zs_aload_n zd_X0_add_14 rfl (zs_getI (ci := 0) (j := 4) (T := TX0) rfl inX0 (by decide) gw_1_92 rfl zd_X0_add_15 (zs_iload_n zd_X0_add_18 rfl (zs_iast zd_X0_add_19 (zs_aload_n zd_X0_add_20 rfl (zs_getR (ci := 0) (j := 1) (T := TX0) rfl inX0 (by decide) gw_1_86 rfl zd_X0_add_21 (zs_aload_n zd_X0_add_24 rfl (zs_getI (ci := 0) (j := 4) (T := TX0) rfl inX0 (by decide) gw_1_92 rfl zd_X0_add_25 (zs_iload_n zd_X0_add_28 rfl (zs_iast zd_X0_add_29 (zs_aload_n zd_X0_add_30 rfl (zs_getR (ci := 0) (j := 2) (T := TX0) rfl inX0 (by decide) gw_1_88 rfl zd_X0_add_31 (zs_aload_n zd_X0_add_34 rfl (zs_getI (ci := 0) (j := 4) (T := TX0) rfl inX0 (by decide) gw_1_92 rfl zd_X0_add_35 (zs_iload_n zd_X0_add_38 rfl (zs_iast zd_X0_add_39 (zs_aload_n zd_X0_add_40 rfl (zs_getR (ci := 0) (j := 3) (T := TX0) rfl inX0 (by decide) gw_1_90 rfl zd_X0_add_41 (zs_aload_n zd_X0_add_44 rfl (zs_getI (ci := 0) (j := 4) (T := TX0) rfl inX0 (by decide) gw_1_92 rfl zd_X0_add_45 (zs_iload zd_X0_add_48 (zs_iast zd_X0_add_50 (zs_aload_n zd_X0_add_51 rfl (zs_dup zd_X0_add_52 (zs_getI (ci := 0) (j := 4) (T := TX0) rfl inX0 (by decide) gw_1_92 rfl zd_X0_add_53 (zs_iconst zd_X0_add_56 (by decide) (zs_iadd zd_X0_add_57 (zs_putI (ci := 0) (j := 4) (T := TX0) rfl inX0 tyX0_ok nmX0 (by decide) gw_1_92 rfl rfl rfl zd_X0_add_58 (zbs_X0_add_61 hR J hJ))))))))))))))))))))))))))))))))))
theorem zdn_X0_add : yX0_add.cls ≠ "java/lang/invoke/MethodHandle" ∧ yX0_add.cls ≠ "java/lang/invoke/VarHandle" ∧ (parseMethodDescriptor yX0_add.desc).map (fun d => d.parameters.length) = some 4 := by decide +kernel
/-! DeltaRuns$Water dryUp -/
theorem zd_X5_dryUp_0 : decode cX5_dryUp 0 = .ok (.iconst 0, 1) := by decide +kernel
theorem zd_X5_dryUp_1 : decode cX5_dryUp 1 = .ok (.istore_n 1, 1) := by decide +kernel
theorem zd_X5_dryUp_2 : decode cX5_dryUp 2 = .ok (.iload_n 1, 1) := by decide +kernel
theorem zd_X5_dryUp_3 : decode cX5_dryUp 3 = .ok (.aload_n 0, 1) := by decide +kernel
theorem zd_X5_dryUp_4 : decode cX5_dryUp 4 = .ok (.getfield 56, 3) := by decide +kernel
theorem zd_X5_dryUp_7 : decode cX5_dryUp 7 = .ok (.if_icmp .ge 27, 3) := by decide +kernel
theorem zd_X5_dryUp_10 : decode cX5_dryUp 10 = .ok (.iload_n 1, 1) := by decide +kernel
theorem zd_X5_dryUp_11 : decode cX5_dryUp 11 = .ok (.bipush 120, 2) := by decide +kernel
theorem zd_X5_dryUp_13 : decode cX5_dryUp 13 = .ok (.if_icmp .ge 21, 3) := by decide +kernel
theorem zd_X5_dryUp_16 : decode cX5_dryUp 16 = .ok (.aload_n 0, 1) := by decide +kernel
theorem zd_X5_dryUp_17 : decode cX5_dryUp 17 = .ok (.getfield 19, 3) := by decide +kernel
theorem zd_X5_dryUp_20 : decode cX5_dryUp 20 = .ok (.aload_n 0, 1) := by decide +kernel
theorem zd_X5_dryUp_21 : decode cX5_dryUp 21 = .ok (.getfield 25, 3) := by decide +kernel
theorem zd_X5_dryUp_24 : decode cX5_dryUp 24 = .ok (.iload_n 1, 1) := by decide +kernel
theorem zd_X5_dryUp_25 : decode cX5_dryUp 25 = .ok (.iaload, 1) := by decide +kernel
theorem zd_X5_dryUp_26 : decode cX5_dryUp 26 = .ok (.iconst 0, 1) := by decide +kernel
theorem zd_X5_dryUp_27 : decode cX5_dryUp 27 = .ok (.iastore, 1) := by decide +kernel
theorem zd_X5_dryUp_28 : decode cX5_dryUp 28 = .ok (.iinc 1 1, 3) := by decide +kernel
theorem zd_X5_dryUp_31 : decode cX5_dryUp 31 = .ok (.goto (-29), 3) := by decide +kernel
theorem zd_X5_dryUp_34 : decode cX5_dryUp 34 = .ok (.aload_n 0, 1) := by decide +kernel
theorem zd_X5_dryUp_35 : decode cX5_dryUp 35 = .ok (.iconst 0, 1) := by decide +kernel
theorem zd_X5_dryUp_36 : decode cX5_dryUp 36 = .ok (.putfield 56, 3) := by decide +kernel
theorem zd_X5_dryUp_39 : decode cX5_dryUp 39 = .ok (.return_, 1) := by decide +kernel
def zb_X5_dryUp_0 (K : zKt) (J : Nat → zPP) : zPP := zT_push (.int 0) (zT_ist 1 (J 2))
theorem zbs_X5_dryUp_0 {X : zCt} (hR : zRX X = { frames := 0, cells := 0, slots := 0, locals := 0 }) (J : Nat → zPP) (hJ : ∀ h ∈ ([2] : List Nat), zSd X RX5 "dryUp" cX5_dryUp 2 none h (J h)) : zSd X RX5 "dryUp" cX5_dryUp 2 none 0 (zb_X5_dryUp_0 (zKX X) J) := zs_iconst zd_X5_dryUp_0 (by decide) (zs_istore_n zd_X5_dryUp_1 rfl (by decide) (hJ 2 (by decide)))
def zb_X5_dryUp_34 (K : zKt) (J : Nat → zPP) : zPP := zT_ald 0 (zT_push (.int 0) (zT_putI 5 5 11 (zT_vret K)))
theorem zbs_X5_dryUp_34 {X : zCt} (hR : zRX X = { frames := 0, cells := 0, slots := 0, locals := 0 }) (J : Nat → zPP) (hJ : ∀ h ∈ ([2] : List Nat), zSd X RX5 "dryUp" cX5_dryUp 2 none h (J h)) : zSd X RX5 "dryUp" cX5_dryUp 2 none 34 (zb_X5_dryUp_34 (zKX X) J) := zs_aload_n zd_X5_dryUp_34 rfl (zs_iconst zd_X5_dryUp_35 (by decide) (zs_putI (ci := 5) (j := 5) (T := TX5) rfl inX5 tyX5_ok nmX5 (by decide) gw_1_121 rfl rfl rfl zd_X5_dryUp_36 (zs_vret rfl zd_X5_dryUp_39)))
def zb_X5_dryUp_2 (K : zKt) (J : Nat → zPP) : zPP := zT_ild 1 (zT_ald 0 (zT_getI 5 5 11 (zT_if2 (fun x y => y ≤ x) (zb_X5_dryUp_34 K J) (zT_ild 1 (zT_push (.int 120) (zT_if2 (fun x y => y ≤ x) (zb_X5_dryUp_34 K J) (zT_ald 0 (zT_getR 5 2 11 (zT_ald 0 (zT_getR 5 4 11 (zT_ild 1 (zT_ald0 0 (zT_push (.int 0) (zT_iast (zT_iinc 1 1 (J 2))))))))))))))))
theorem zbs_X5_dryUp_2 {X : zCt} (hR : zRX X = { frames := 0, cells := 0, slots := 0, locals := 0 }) (J : Nat → zPP) (hJ : ∀ h ∈ ([2] : List Nat), zSd X RX5 "dryUp" cX5_dryUp 2 none h (J h)) : zSd X RX5 "dryUp" cX5_dryUp 2 none 2 (zb_X5_dryUp_2 (zKX X) J) := zs_iload_n zd_X5_dryUp_2 rfl (zs_aload_n zd_X5_dryUp_3 rfl (zs_getI (ci := 5) (j := 5) (T := TX5) rfl inX5 (by decide) gw_1_121 rfl zd_X5_dryUp_4 (zs_icmp_ge (tgt := 34) zd_X5_dryUp_7 (by decide) (zbs_X5_dryUp_34 hR J hJ) (zs_iload_n zd_X5_dryUp_10 rfl (zs_bipush zd_X5_dryUp_11 (by decide) (zs_icmp_ge (tgt := 34) zd_X5_dryUp_13 (by decide) (zbs_X5_dryUp_34 hR J hJ) (zs_aload_n zd_X5_dryUp_16 rfl (zs_getR (ci := 5) (j := 2) (T := TX5) rfl inX5 (by decide) gw_1_117 rfl zd_X5_dryUp_17 (zs_aload_n zd_X5_dryUp_20 rfl (zs_getR (ci := 5) (j := 4) (T := TX5) rfl inX5 (by decide) gw_1_120 rfl zd_X5_dryUp_21 (zs_iload_n zd_X5_dryUp_24 rfl (zs_iald zd_X5_dryUp_25 (zs_iconst zd_X5_dryUp_26 (by decide) (zs_iast zd_X5_dryUp_27 (zs_iinc zd_X5_dryUp_28 (by decide) (by decide) (zs_goto (tgt := 2) zd_X5_dryUp_31 (by decide) (hJ 2 (by decide))))))))))))))))))
def zB_X5_dryUp (K : zKt) (J : Nat → zPP) (h : Nat) : zPP := if h = 2 then zb_X5_dryUp_2 K J else (fun _ _ _ => False)
theorem zBs_X5_dryUp {X : zCt} (hR : zRX X = { frames := 0, cells := 0, slots := 0, locals := 0 }) : ∀ J : Nat → zPP, (∀ h ∈ ([2] : List Nat), zSd X RX5 "dryUp" cX5_dryUp 2 none h (J h)) → ∀ h ∈ ([2] : List Nat), zSd X RX5 "dryUp" cX5_dryUp 2 none h (zB_X5_dryUp (zKX X) J h) := by
  intro J hJ h hh
  unfold zB_X5_dryUp
  simp only [List.mem_cons, List.not_mem_nil, or_false] at hh
  subst hh
  exact zbs_X5_dryUp_2 hR J hJ
theorem zdn_X5_dryUp : yX5_dryUp.cls ≠ "java/lang/invoke/MethodHandle" ∧ yX5_dryUp.cls ≠ "java/lang/invoke/VarHandle" ∧ (parseMethodDescriptor yX5_dryUp.desc).map (fun d => d.parameters.length) = some 0 := by decide +kernel
/-! DeltaRuns$Water shareEvenly -/
theorem zd_X5_shareEvenly_0 : decode cX5_shareEvenly 0 = .ok (.aload_n 0, 1) := by decide +kernel
theorem zd_X5_shareEvenly_1 : decode cX5_shareEvenly 1 = .ok (.getfield 76, 3) := by decide +kernel
theorem zd_X5_shareEvenly_4 : decode cX5_shareEvenly 4 = .ok (.ifCond .le 47, 3) := by decide +kernel
theorem zd_X5_shareEvenly_7 : decode cX5_shareEvenly 7 = .ok (.iconst 0, 1) := by decide +kernel
theorem zd_X5_shareEvenly_8 : decode cX5_shareEvenly 8 = .ok (.istore_n 2, 1) := by decide +kernel
theorem zd_X5_shareEvenly_9 : decode cX5_shareEvenly 9 = .ok (.iload_n 2, 1) := by decide +kernel
theorem zd_X5_shareEvenly_10 : decode cX5_shareEvenly 10 = .ok (.aload_n 0, 1) := by decide +kernel
theorem zd_X5_shareEvenly_11 : decode cX5_shareEvenly 11 = .ok (.getfield 76, 3) := by decide +kernel
theorem zd_X5_shareEvenly_14 : decode cX5_shareEvenly 14 = .ok (.if_icmp .ge 37, 3) := by decide +kernel
theorem zd_X5_shareEvenly_17 : decode cX5_shareEvenly 17 = .ok (.aload_n 0, 1) := by decide +kernel
theorem zd_X5_shareEvenly_18 : decode cX5_shareEvenly 18 = .ok (.getfield 34, 3) := by decide +kernel
theorem zd_X5_shareEvenly_21 : decode cX5_shareEvenly 21 = .ok (.iload_n 2, 1) := by decide +kernel
theorem zd_X5_shareEvenly_22 : decode cX5_shareEvenly 22 = .ok (.iload_n 1, 1) := by decide +kernel
theorem zd_X5_shareEvenly_23 : decode cX5_shareEvenly 23 = .ok (.aload_n 0, 1) := by decide +kernel
theorem zd_X5_shareEvenly_24 : decode cX5_shareEvenly 24 = .ok (.getfield 76, 3) := by decide +kernel
theorem zd_X5_shareEvenly_27 : decode cX5_shareEvenly 27 = .ok (.idiv, 1) := by decide +kernel
theorem zd_X5_shareEvenly_28 : decode cX5_shareEvenly 28 = .ok (.iload_n 2, 1) := by decide +kernel
theorem zd_X5_shareEvenly_29 : decode cX5_shareEvenly 29 = .ok (.iload_n 1, 1) := by decide +kernel
theorem zd_X5_shareEvenly_30 : decode cX5_shareEvenly 30 = .ok (.aload_n 0, 1) := by decide +kernel
theorem zd_X5_shareEvenly_31 : decode cX5_shareEvenly 31 = .ok (.getfield 76, 3) := by decide +kernel
theorem zd_X5_shareEvenly_34 : decode cX5_shareEvenly 34 = .ok (.irem, 1) := by decide +kernel
theorem zd_X5_shareEvenly_35 : decode cX5_shareEvenly 35 = .ok (.if_icmp .ge 7, 3) := by decide +kernel
theorem zd_X5_shareEvenly_38 : decode cX5_shareEvenly 38 = .ok (.iconst 1, 1) := by decide +kernel
theorem zd_X5_shareEvenly_39 : decode cX5_shareEvenly 39 = .ok (.goto 4, 3) := by decide +kernel
theorem zd_X5_shareEvenly_42 : decode cX5_shareEvenly 42 = .ok (.iconst 0, 1) := by decide +kernel
theorem zd_X5_shareEvenly_43 : decode cX5_shareEvenly 43 = .ok (.iadd, 1) := by decide +kernel
theorem zd_X5_shareEvenly_44 : decode cX5_shareEvenly 44 = .ok (.iastore, 1) := by decide +kernel
theorem zd_X5_shareEvenly_45 : decode cX5_shareEvenly 45 = .ok (.iinc 2 1, 3) := by decide +kernel
theorem zd_X5_shareEvenly_48 : decode cX5_shareEvenly 48 = .ok (.goto (-39), 3) := by decide +kernel
theorem zd_X5_shareEvenly_51 : decode cX5_shareEvenly 51 = .ok (.return_, 1) := by decide +kernel
def zb_X5_shareEvenly_51 (K : zKt) (J : Nat → zPP) : zPP := zT_vret K
theorem zbs_X5_shareEvenly_51 {X : zCt} (hR : zRX X = { frames := 0, cells := 0, slots := 0, locals := 0 }) (J : Nat → zPP) (hJ : ∀ h ∈ ([9] : List Nat), zSd X RX5 "shareEvenly" cX5_shareEvenly 3 none h (J h)) : zSd X RX5 "shareEvenly" cX5_shareEvenly 3 none 51 (zb_X5_shareEvenly_51 (zKX X) J) := zs_vret rfl zd_X5_shareEvenly_51
def zb_X5_shareEvenly_0 (K : zKt) (J : Nat → zPP) : zPP := zT_ald 0 (zT_getI 5 10 11 (zT_if1 (fun x => x ≤ 0) (zb_X5_shareEvenly_51 K J) (zT_push (.int 0) (zT_ist 2 (J 9)))))
theorem zbs_X5_shareEvenly_0 {X : zCt} (hR : zRX X = { frames := 0, cells := 0, slots := 0, locals := 0 }) (J : Nat → zPP) (hJ : ∀ h ∈ ([9] : List Nat), zSd X RX5 "shareEvenly" cX5_shareEvenly 3 none h (J h)) : zSd X RX5 "shareEvenly" cX5_shareEvenly 3 none 0 (zb_X5_shareEvenly_0 (zKX X) J) := zs_aload_n zd_X5_shareEvenly_0 rfl (zs_getI (ci := 5) (j := 10) (T := TX5) rfl inX5 (by decide) gw_1_126 rfl zd_X5_shareEvenly_1 (zs_if_le (tgt := 51) zd_X5_shareEvenly_4 (by decide) (zbs_X5_shareEvenly_51 hR J hJ) (zs_iconst zd_X5_shareEvenly_7 (by decide) (zs_istore_n zd_X5_shareEvenly_8 rfl (by decide) (hJ 9 (by decide))))))
def zb_X5_shareEvenly_43 (K : zKt) (J : Nat → zPP) : zPP := zT_bin (fun x y => x + y) (zT_iast (zT_iinc 2 1 (J 9)))
theorem zbs_X5_shareEvenly_43 {X : zCt} (hR : zRX X = { frames := 0, cells := 0, slots := 0, locals := 0 }) (J : Nat → zPP) (hJ : ∀ h ∈ ([9] : List Nat), zSd X RX5 "shareEvenly" cX5_shareEvenly 3 none h (J h)) : zSd X RX5 "shareEvenly" cX5_shareEvenly 3 none 43 (zb_X5_shareEvenly_43 (zKX X) J) := zs_iadd zd_X5_shareEvenly_43 (zs_iast zd_X5_shareEvenly_44 (zs_iinc zd_X5_shareEvenly_45 (by decide) (by decide) (zs_goto (tgt := 9) zd_X5_shareEvenly_48 (by decide) (hJ 9 (by decide)))))
def zb_X5_shareEvenly_9 (K : zKt) (J : Nat → zPP) : zPP := zT_ild 2 (zT_ald 0 (zT_getI 5 10 11 (zT_if2 (fun x y => y ≤ x) (zb_X5_shareEvenly_51 K J) (zT_ald 0 (zT_getR 5 8 11 (zT_ild 2 (zT_ild 1 (zT_ald 0 (zT_getI 5 10 11 (zT_div (fun x y => x / y) (zT_ild 2 (zT_ild 1 (zT_ald 0 (zT_getI 5 10 11 (zT_div (fun x y => x - x / y * y) (zT_if2 (fun x y => y ≤ x) (zT_push (.int 0) (zb_X5_shareEvenly_43 K J)) (zT_push (.int 1) (zb_X5_shareEvenly_43 K J))))))))))))))))))
theorem zbs_X5_shareEvenly_9 {X : zCt} (hR : zRX X = { frames := 0, cells := 0, slots := 0, locals := 0 }) (J : Nat → zPP) (hJ : ∀ h ∈ ([9] : List Nat), zSd X RX5 "shareEvenly" cX5_shareEvenly 3 none h (J h)) : zSd X RX5 "shareEvenly" cX5_shareEvenly 3 none 9 (zb_X5_shareEvenly_9 (zKX X) J) := zs_iload_n zd_X5_shareEvenly_9 rfl (zs_aload_n zd_X5_shareEvenly_10 rfl (zs_getI (ci := 5) (j := 10) (T := TX5) rfl inX5 (by decide) gw_1_126 rfl zd_X5_shareEvenly_11 (zs_icmp_ge (tgt := 51) zd_X5_shareEvenly_14 (by decide) (zbs_X5_shareEvenly_51 hR J hJ) (zs_aload_n zd_X5_shareEvenly_17 rfl (zs_getR (ci := 5) (j := 8) (T := TX5) rfl inX5 (by decide) gw_1_124 rfl zd_X5_shareEvenly_18 (zs_iload_n zd_X5_shareEvenly_21 rfl (zs_iload_n zd_X5_shareEvenly_22 rfl (zs_aload_n zd_X5_shareEvenly_23 rfl (zs_getI (ci := 5) (j := 10) (T := TX5) rfl inX5 (by decide) gw_1_126 rfl zd_X5_shareEvenly_24 (zs_idiv zd_X5_shareEvenly_27 (zs_iload_n zd_X5_shareEvenly_28 rfl (zs_iload_n zd_X5_shareEvenly_29 rfl (zs_aload_n zd_X5_shareEvenly_30 rfl (zs_getI (ci := 5) (j := 10) (T := TX5) rfl inX5 (by decide) gw_1_126 rfl zd_X5_shareEvenly_31 (zs_irem zd_X5_shareEvenly_34 (zs_icmp_ge (tgt := 42) zd_X5_shareEvenly_35 (by decide) (zs_iconst zd_X5_shareEvenly_42 (by decide) (zbs_X5_shareEvenly_43 hR J hJ)) (zs_iconst zd_X5_shareEvenly_38 (by decide) (zs_goto (tgt := 43) zd_X5_shareEvenly_39 (by decide) (zbs_X5_shareEvenly_43 hR J hJ)))))))))))))))))))
def zB_X5_shareEvenly (K : zKt) (J : Nat → zPP) (h : Nat) : zPP := if h = 9 then zb_X5_shareEvenly_9 K J else (fun _ _ _ => False)
theorem zBs_X5_shareEvenly {X : zCt} (hR : zRX X = { frames := 0, cells := 0, slots := 0, locals := 0 }) : ∀ J : Nat → zPP, (∀ h ∈ ([9] : List Nat), zSd X RX5 "shareEvenly" cX5_shareEvenly 3 none h (J h)) → ∀ h ∈ ([9] : List Nat), zSd X RX5 "shareEvenly" cX5_shareEvenly 3 none h (zB_X5_shareEvenly (zKX X) J h) := by
  intro J hJ h hh
  unfold zB_X5_shareEvenly
  simp only [List.mem_cons, List.not_mem_nil, or_false] at hh
  subst hh
  exact zbs_X5_shareEvenly_9 hR J hJ
theorem zdn_X5_shareEvenly : yX5_shareEvenly.cls ≠ "java/lang/invoke/MethodHandle" ∧ yX5_shareEvenly.cls ≠ "java/lang/invoke/VarHandle" ∧ (parseMethodDescriptor yX5_shareEvenly.desc).map (fun d => d.parameters.length) = some 1 := by decide +kernel
/-! DeltaRuns$Water settle -/
theorem zd_X5_settle_0 : decode cX5_settle 0 = .ok (.iconst 0, 1) := by decide +kernel
theorem zd_X5_settle_1 : decode cX5_settle 1 = .ok (.istore 4, 2) := by decide +kernel
theorem zd_X5_settle_3 : decode cX5_settle 3 = .ok (.iload 4, 2) := by decide +kernel
theorem zd_X5_settle_5 : decode cX5_settle 5 = .ok (.aload_n 0, 1) := by decide +kernel
theorem zd_X5_settle_6 : decode cX5_settle 6 = .ok (.getfield 56, 3) := by decide +kernel
theorem zd_X5_settle_9 : decode cX5_settle 9 = .ok (.if_icmp .ge 126, 3) := by decide +kernel
theorem zd_X5_settle_12 : decode cX5_settle 12 = .ok (.iload 4, 2) := by decide +kernel
theorem zd_X5_settle_14 : decode cX5_settle 14 = .ok (.bipush 120, 2) := by decide +kernel
theorem zd_X5_settle_16 : decode cX5_settle 16 = .ok (.if_icmp .ge 119, 3) := by decide +kernel
theorem zd_X5_settle_19 : decode cX5_settle 19 = .ok (.aload_n 0, 1) := by decide +kernel
theorem zd_X5_settle_20 : decode cX5_settle 20 = .ok (.getfield 25, 3) := by decide +kernel
theorem zd_X5_settle_23 : decode cX5_settle 23 = .ok (.iload 4, 2) := by decide +kernel
theorem zd_X5_settle_25 : decode cX5_settle 25 = .ok (.iaload, 1) := by decide +kernel
theorem zd_X5_settle_26 : decode cX5_settle 26 = .ok (.istore 5, 2) := by decide +kernel
theorem zd_X5_settle_28 : decode cX5_settle 28 = .ok (.aload_n 0, 1) := by decide +kernel
theorem zd_X5_settle_29 : decode cX5_settle 29 = .ok (.getfield 9, 3) := by decide +kernel
theorem zd_X5_settle_32 : decode cX5_settle 32 = .ok (.iload 5, 2) := by decide +kernel
theorem zd_X5_settle_34 : decode cX5_settle 34 = .ok (.iaload, 1) := by decide +kernel
theorem zd_X5_settle_35 : decode cX5_settle 35 = .ok (.istore 6, 2) := by decide +kernel
theorem zd_X5_settle_37 : decode cX5_settle 37 = .ok (.iload 6, 2) := by decide +kernel
theorem zd_X5_settle_39 : decode cX5_settle 39 = .ok (.iload_n 1, 1) := by decide +kernel
theorem zd_X5_settle_40 : decode cX5_settle 40 = .ok (.if_icmp .ge 32, 3) := by decide +kernel
theorem zd_X5_settle_43 : decode cX5_settle 43 = .ok (.aload_n 0, 1) := by decide +kernel
theorem zd_X5_settle_44 : decode cX5_settle 44 = .ok (.getfield 9, 3) := by decide +kernel
theorem zd_X5_settle_47 : decode cX5_settle 47 = .ok (.iload 5, 2) := by decide +kernel
theorem zd_X5_settle_49 : decode cX5_settle 49 = .ok (.iload_n 1, 1) := by decide +kernel
theorem zd_X5_settle_50 : decode cX5_settle 50 = .ok (.iload 6, 2) := by decide +kernel
theorem zd_X5_settle_52 : decode cX5_settle 52 = .ok (.aload_n 0, 1) := by decide +kernel
theorem zd_X5_settle_53 : decode cX5_settle 53 = .ok (.getfield 19, 3) := by decide +kernel
theorem zd_X5_settle_56 : decode cX5_settle 56 = .ok (.iload 5, 2) := by decide +kernel
theorem zd_X5_settle_58 : decode cX5_settle 58 = .ok (.iaload, 1) := by decide +kernel
theorem zd_X5_settle_59 : decode cX5_settle 59 = .ok (.iload_n 2, 1) := by decide +kernel
theorem zd_X5_settle_60 : decode cX5_settle 60 = .ok (.imul, 1) := by decide +kernel
theorem zd_X5_settle_61 : decode cX5_settle 61 = .ok (.bipush 16, 2) := by decide +kernel
theorem zd_X5_settle_63 : decode cX5_settle 63 = .ok (.idiv, 1) := by decide +kernel
theorem zd_X5_settle_64 : decode cX5_settle 64 = .ok (.iadd, 1) := by decide +kernel
theorem zd_X5_settle_65 : decode cX5_settle 65 = .ok (.invokestatic 63, 3) := by decide +kernel
theorem zd_X5_settle_68 : decode cX5_settle 68 = .ok (.iastore, 1) := by decide +kernel
theorem zd_X5_settle_69 : decode cX5_settle 69 = .ok (.goto 60, 3) := by decide +kernel
theorem zd_X5_settle_72 : decode cX5_settle 72 = .ok (.aload_n 0, 1) := by decide +kernel
theorem zd_X5_settle_73 : decode cX5_settle 73 = .ok (.getfield 22, 3) := by decide +kernel
theorem zd_X5_settle_76 : decode cX5_settle 76 = .ok (.iload 5, 2) := by decide +kernel
theorem zd_X5_settle_78 : decode cX5_settle 78 = .ok (.baload, 1) := by decide +kernel
theorem zd_X5_settle_79 : decode cX5_settle 79 = .ok (.ifCond .eq 23, 3) := by decide +kernel
theorem zd_X5_settle_82 : decode cX5_settle 82 = .ok (.aload_n 0, 1) := by decide +kernel
theorem zd_X5_settle_83 : decode cX5_settle 83 = .ok (.getfield 9, 3) := by decide +kernel
theorem zd_X5_settle_86 : decode cX5_settle 86 = .ok (.iload 5, 2) := by decide +kernel
theorem zd_X5_settle_88 : decode cX5_settle 88 = .ok (.sipush 200, 3) := by decide +kernel
theorem zd_X5_settle_91 : decode cX5_settle 91 = .ok (.iload 6, 2) := by decide +kernel
theorem zd_X5_settle_93 : decode cX5_settle 93 = .ok (.iconst 1, 1) := by decide +kernel
theorem zd_X5_settle_94 : decode cX5_settle 94 = .ok (.iadd, 1) := by decide +kernel
theorem zd_X5_settle_95 : decode cX5_settle 95 = .ok (.invokestatic 63, 3) := by decide +kernel
theorem zd_X5_settle_98 : decode cX5_settle 98 = .ok (.iastore, 1) := by decide +kernel
theorem zd_X5_settle_99 : decode cX5_settle 99 = .ok (.goto 30, 3) := by decide +kernel
theorem zd_X5_settle_102 : decode cX5_settle 102 = .ok (.aload_n 0, 1) := by decide +kernel
theorem zd_X5_settle_103 : decode cX5_settle 103 = .ok (.getfield 19, 3) := by decide +kernel
theorem zd_X5_settle_106 : decode cX5_settle 106 = .ok (.iload 5, 2) := by decide +kernel
theorem zd_X5_settle_108 : decode cX5_settle 108 = .ok (.iaload, 1) := by decide +kernel
theorem zd_X5_settle_109 : decode cX5_settle 109 = .ok (.bipush 16, 2) := by decide +kernel
theorem zd_X5_settle_111 : decode cX5_settle 111 = .ok (.if_icmp .lt 18, 3) := by decide +kernel
theorem zd_X5_settle_114 : decode cX5_settle 114 = .ok (.aload_n 0, 1) := by decide +kernel
theorem zd_X5_settle_115 : decode cX5_settle 115 = .ok (.getfield 9, 3) := by decide +kernel
theorem zd_X5_settle_118 : decode cX5_settle 118 = .ok (.iload 5, 2) := by decide +kernel
theorem zd_X5_settle_120 : decode cX5_settle 120 = .ok (.iconst 0, 1) := by decide +kernel
theorem zd_X5_settle_121 : decode cX5_settle 121 = .ok (.iload 6, 2) := by decide +kernel
theorem zd_X5_settle_123 : decode cX5_settle 123 = .ok (.iload_n 3, 1) := by decide +kernel
theorem zd_X5_settle_124 : decode cX5_settle 124 = .ok (.isub, 1) := by decide +kernel
theorem zd_X5_settle_125 : decode cX5_settle 125 = .ok (.invokestatic 69, 3) := by decide +kernel
theorem zd_X5_settle_128 : decode cX5_settle 128 = .ok (.iastore, 1) := by decide +kernel
theorem zd_X5_settle_129 : decode cX5_settle 129 = .ok (.iinc 4 1, 3) := by decide +kernel
theorem zd_X5_settle_132 : decode cX5_settle 132 = .ok (.goto (-129), 3) := by decide +kernel
theorem zd_X5_settle_135 : decode cX5_settle 135 = .ok (.return_, 1) := by decide +kernel
def zb_X5_settle_0 (K : zKt) (J : Nat → zPP) : zPP := zT_push (.int 0) (zT_ist 4 (J 3))
theorem zbs_X5_settle_0 {X : zCt} (hR : zRX X = { frames := 1, cells := 0, slots := 0, locals := 21 }) (J : Nat → zPP) (hJ : ∀ h ∈ ([3] : List Nat), zSd X RX5 "settle" cX5_settle 7 none h (J h)) : zSd X RX5 "settle" cX5_settle 7 none 0 (zb_X5_settle_0 (zKX X) J) := zs_iconst zd_X5_settle_0 (by decide) (zs_istore zd_X5_settle_1 (by decide) (hJ 3 (by decide)))
def zb_X5_settle_135 (K : zKt) (J : Nat → zPP) : zPP := zT_vret K
theorem zbs_X5_settle_135 {X : zCt} (hR : zRX X = { frames := 1, cells := 0, slots := 0, locals := 21 }) (J : Nat → zPP) (hJ : ∀ h ∈ ([3] : List Nat), zSd X RX5 "settle" cX5_settle 7 none h (J h)) : zSd X RX5 "settle" cX5_settle 7 none 135 (zb_X5_settle_135 (zKX X) J) := zs_vret rfl zd_X5_settle_135
def zb_X5_settle_129 (K : zKt) (J : Nat → zPP) : zPP := zT_iinc 4 1 (J 3)
theorem zbs_X5_settle_129 {X : zCt} (hR : zRX X = { frames := 1, cells := 0, slots := 0, locals := 21 }) (J : Nat → zPP) (hJ : ∀ h ∈ ([3] : List Nat), zSd X RX5 "settle" cX5_settle 7 none h (J h)) : zSd X RX5 "settle" cX5_settle 7 none 129 (zb_X5_settle_129 (zKX X) J) := zs_iinc zd_X5_settle_129 (by decide) (by decide) (zs_goto (tgt := 3) zd_X5_settle_132 (by decide) (hJ 3 (by decide)))
def zb_X5_settle_3 (K : zKt) (J : Nat → zPP) : zPP := zT_ild 4 (zT_ald 0 (zT_getI 5 5 11 (zT_if2 (fun x y => y ≤ x) (zb_X5_settle_135 K J) (zT_ild 4 (zT_push (.int 120) (zT_if2 (fun x y => y ≤ x) (zb_X5_settle_135 K J) (zT_ald 0 (zT_getR 5 4 11 (zT_ild 4 (zT_ald0 0 (zT_ist 5 (zT_ald 0 (zT_getR 5 0 11 (zT_ild 5 (zT_ald0 0 (zT_ist 6 (zT_ild 6 (zT_ild 1 (zT_if2 (fun x y => y ≤ x) (zT_ald 0 (zT_getR 5 3 11 (zT_ild 5 (zT_ald0 1 (zT_if1 (fun x => x = 0) (zT_ald 0 (zT_getR 5 2 11 (zT_ild 5 (zT_ald0 0 (zT_push (.int 16) (zT_if2 (fun x y => x < y) (zb_X5_settle_129 K J) (zT_ald 0 (zT_getR 5 0 11 (zT_ild 5 (zT_push (.int 0) (zT_ild 6 (zT_ild 3 (zT_bin (fun x y => x - y) (zT_mm (fun x y => if x < y then y else x) (zT_iast (zb_X5_settle_129 K J)))))))))))))))) (zT_ald 0 (zT_getR 5 0 11 (zT_ild 5 (zT_push (.int 200) (zT_ild 6 (zT_push (.int 1) (zT_bin (fun x y => x + y) (zT_mm (fun x y => if y < x then y else x) (zT_iast (zb_X5_settle_129 K J))))))))))))))) (zT_ald 0 (zT_getR 5 0 11 (zT_ild 5 (zT_ild 1 (zT_ild 6 (zT_ald 0 (zT_getR 5 2 11 (zT_ild 5 (zT_ald0 0 (zT_ild 2 (zT_bin (fun x y => x * y) (zT_push (.int 16) (zT_div (fun x y => x / y) (zT_bin (fun x y => x + y) (zT_mm (fun x y => if y < x then y else x) (zT_iast (zb_X5_settle_129 K J))))))))))))))))))))))))))))))))))))
theorem zbs_X5_settle_3 {X : zCt} (hR : zRX X = { frames := 1, cells := 0, slots := 0, locals := 21 }) (J : Nat → zPP) (hJ : ∀ h ∈ ([3] : List Nat), zSd X RX5 "settle" cX5_settle 7 none h (J h)) : zSd X RX5 "settle" cX5_settle 7 none 3 (zb_X5_settle_3 (zKX X) J) := zs_iload zd_X5_settle_3 (zs_aload_n zd_X5_settle_5 rfl (zs_getI (ci := 5) (j := 5) (T := TX5) rfl inX5 (by decide) gw_1_121 rfl zd_X5_settle_6 (zs_icmp_ge (tgt := 135) zd_X5_settle_9 (by decide) (zbs_X5_settle_135 hR J hJ) (zs_iload zd_X5_settle_12 (zs_bipush zd_X5_settle_14 (by decide) (zs_icmp_ge (tgt := 135) zd_X5_settle_16 (by decide) (zbs_X5_settle_135 hR J hJ) (zs_aload_n zd_X5_settle_19 rfl (zs_getR (ci := 5) (j := 4) (T := TX5) rfl inX5 (by decide) gw_1_120 rfl zd_X5_settle_20 (zs_iload zd_X5_settle_23 (zs_iald zd_X5_settle_25 (zs_istore zd_X5_settle_26 (by decide) (zs_aload_n zd_X5_settle_28 rfl (zs_getR (ci := 5) (j := 0) (T := TX5) rfl inX5 (by decide) gw_1_111 rfl zd_X5_settle_29 (zs_iload zd_X5_settle_32 (zs_iald zd_X5_settle_34 (zs_istore zd_X5_settle_35 (by decide) (zs_iload zd_X5_settle_37 (zs_iload_n zd_X5_settle_39 rfl (zs_icmp_ge (tgt := 72) zd_X5_settle_40 (by decide) (zs_aload_n zd_X5_settle_72 rfl (zs_getR (ci := 5) (j := 3) (T := TX5) rfl inX5 (by decide) gw_1_119 rfl zd_X5_settle_73 (zs_iload zd_X5_settle_76 (zs_zald zd_X5_settle_78 (zs_if_eq (tgt := 102) zd_X5_settle_79 (by decide) (zs_aload_n zd_X5_settle_102 rfl (zs_getR (ci := 5) (j := 2) (T := TX5) rfl inX5 (by decide) gw_1_117 rfl zd_X5_settle_103 (zs_iload zd_X5_settle_106 (zs_iald zd_X5_settle_108 (zs_bipush zd_X5_settle_109 (by decide) (zs_icmp_lt (tgt := 129) zd_X5_settle_111 (by decide) (zbs_X5_settle_129 hR J hJ) (zs_aload_n zd_X5_settle_114 rfl (zs_getR (ci := 5) (j := 0) (T := TX5) rfl inX5 (by decide) gw_1_111 rfl zd_X5_settle_115 (zs_iload zd_X5_settle_118 (zs_iconst zd_X5_settle_120 (by decide) (zs_iload zd_X5_settle_121 (zs_iload_n zd_X5_settle_123 rfl (zs_isub zd_X5_settle_124 (zs_max gw_3_26 gw_2_203 gw_1_13 gw_2_204 (zrm1 hR (by decide) (by decide)) zd_X5_settle_125 (zs_iast zd_X5_settle_128 (zbs_X5_settle_129 hR J hJ)))))))))))))))) (zs_aload_n zd_X5_settle_82 rfl (zs_getR (ci := 5) (j := 0) (T := TX5) rfl inX5 (by decide) gw_1_111 rfl zd_X5_settle_83 (zs_iload zd_X5_settle_86 (zs_sipush zd_X5_settle_88 (by decide) (zs_iload zd_X5_settle_91 (zs_iconst zd_X5_settle_93 (by decide) (zs_iadd zd_X5_settle_94 (zs_min gw_3_25 gw_2_135 gw_1_13 gw_2_136 (zrm1 hR (by decide) (by decide)) zd_X5_settle_95 (zs_iast zd_X5_settle_98 (zs_goto (tgt := 129) zd_X5_settle_99 (by decide) (zbs_X5_settle_129 hR J hJ)))))))))))))))) (zs_aload_n zd_X5_settle_43 rfl (zs_getR (ci := 5) (j := 0) (T := TX5) rfl inX5 (by decide) gw_1_111 rfl zd_X5_settle_44 (zs_iload zd_X5_settle_47 (zs_iload_n zd_X5_settle_49 rfl (zs_iload zd_X5_settle_50 (zs_aload_n zd_X5_settle_52 rfl (zs_getR (ci := 5) (j := 2) (T := TX5) rfl inX5 (by decide) gw_1_117 rfl zd_X5_settle_53 (zs_iload zd_X5_settle_56 (zs_iald zd_X5_settle_58 (zs_iload_n zd_X5_settle_59 rfl (zs_imul zd_X5_settle_60 (zs_bipush zd_X5_settle_61 (by decide) (zs_idiv zd_X5_settle_63 (zs_iadd zd_X5_settle_64 (zs_min gw_3_25 gw_2_135 gw_1_13 gw_2_136 (zrm1 hR (by decide) (by decide)) zd_X5_settle_65 (zs_iast zd_X5_settle_68 (zs_goto (tgt := 129) zd_X5_settle_69 (by decide) (zbs_X5_settle_129 hR J hJ)))))))))))))))))))))))))))))))))))))
def zB_X5_settle (K : zKt) (J : Nat → zPP) (h : Nat) : zPP := if h = 3 then zb_X5_settle_3 K J else (fun _ _ _ => False)
theorem zBs_X5_settle {X : zCt} (hR : zRX X = { frames := 1, cells := 0, slots := 0, locals := 21 }) : ∀ J : Nat → zPP, (∀ h ∈ ([3] : List Nat), zSd X RX5 "settle" cX5_settle 7 none h (J h)) → ∀ h ∈ ([3] : List Nat), zSd X RX5 "settle" cX5_settle 7 none h (zB_X5_settle (zKX X) J h) := by
  intro J hJ h hh
  unfold zB_X5_settle
  simp only [List.mem_cons, List.not_mem_nil, or_false] at hh
  subst hh
  exact zbs_X5_settle_3 hR J hJ
theorem zdn_X5_settle : yX5_settle.cls ≠ "java/lang/invoke/MethodHandle" ∧ yX5_settle.cls ≠ "java/lang/invoke/VarHandle" ∧ (parseMethodDescriptor yX5_settle.desc).map (fun d => d.parameters.length) = some 3 := by decide +kernel
/-! DeltaRuns forgetRuns -/
theorem zd_X7_forgetRuns_0 : decode cX7_forgetRuns 0 = .ok (.iconst 0, 1) := by decide +kernel
theorem zd_X7_forgetRuns_1 : decode cX7_forgetRuns 1 = .ok (.istore_n 1, 1) := by decide +kernel
theorem zd_X7_forgetRuns_2 : decode cX7_forgetRuns 2 = .ok (.iload_n 1, 1) := by decide +kernel
theorem zd_X7_forgetRuns_3 : decode cX7_forgetRuns 3 = .ok (.bipush 36, 2) := by decide +kernel
theorem zd_X7_forgetRuns_5 : decode cX7_forgetRuns 5 = .ok (.if_icmp .ge 28, 3) := by decide +kernel
theorem zd_X7_forgetRuns_8 : decode cX7_forgetRuns 8 = .ok (.aload_n 0, 1) := by decide +kernel
theorem zd_X7_forgetRuns_9 : decode cX7_forgetRuns 9 = .ok (.getfield 39, 3) := by decide +kernel
theorem zd_X7_forgetRuns_12 : decode cX7_forgetRuns 12 = .ok (.iload_n 1, 1) := by decide +kernel
theorem zd_X7_forgetRuns_13 : decode cX7_forgetRuns 13 = .ok (.aaload, 1) := by decide +kernel
theorem zd_X7_forgetRuns_14 : decode cX7_forgetRuns 14 = .ok (.ifnull 13, 3) := by decide +kernel
theorem zd_X7_forgetRuns_17 : decode cX7_forgetRuns 17 = .ok (.aload_n 0, 1) := by decide +kernel
theorem zd_X7_forgetRuns_18 : decode cX7_forgetRuns 18 = .ok (.getfield 39, 3) := by decide +kernel
theorem zd_X7_forgetRuns_21 : decode cX7_forgetRuns 21 = .ok (.iload_n 1, 1) := by decide +kernel
theorem zd_X7_forgetRuns_22 : decode cX7_forgetRuns 22 = .ok (.aaload, 1) := by decide +kernel
theorem zd_X7_forgetRuns_23 : decode cX7_forgetRuns 23 = .ok (.iconst (-1), 1) := by decide +kernel
theorem zd_X7_forgetRuns_24 : decode cX7_forgetRuns 24 = .ok (.putfield 177, 3) := by decide +kernel
theorem zd_X7_forgetRuns_27 : decode cX7_forgetRuns 27 = .ok (.iinc 1 1, 3) := by decide +kernel
theorem zd_X7_forgetRuns_30 : decode cX7_forgetRuns 30 = .ok (.goto (-28), 3) := by decide +kernel
theorem zd_X7_forgetRuns_33 : decode cX7_forgetRuns 33 = .ok (.return_, 1) := by decide +kernel
def zb_X7_forgetRuns_0 (K : zKt) (J : Nat → zPP) : zPP := zT_push (.int 0) (zT_ist 1 (J 2))
theorem zbs_X7_forgetRuns_0 {X : zCt} (hR : zRX X = { frames := 0, cells := 0, slots := 0, locals := 0 }) (J : Nat → zPP) (hJ : ∀ h ∈ ([2] : List Nat), zSd X RX7 "forgetRuns" cX7_forgetRuns 2 none h (J h)) : zSd X RX7 "forgetRuns" cX7_forgetRuns 2 none 0 (zb_X7_forgetRuns_0 (zKX X) J) := zs_iconst zd_X7_forgetRuns_0 (by decide) (zs_istore_n zd_X7_forgetRuns_1 rfl (by decide) (hJ 2 (by decide)))
def zb_X7_forgetRuns_27 (K : zKt) (J : Nat → zPP) : zPP := zT_iinc 1 1 (J 2)
theorem zbs_X7_forgetRuns_27 {X : zCt} (hR : zRX X = { frames := 0, cells := 0, slots := 0, locals := 0 }) (J : Nat → zPP) (hJ : ∀ h ∈ ([2] : List Nat), zSd X RX7 "forgetRuns" cX7_forgetRuns 2 none h (J h)) : zSd X RX7 "forgetRuns" cX7_forgetRuns 2 none 27 (zb_X7_forgetRuns_27 (zKX X) J) := zs_iinc zd_X7_forgetRuns_27 (by decide) (by decide) (zs_goto (tgt := 2) zd_X7_forgetRuns_30 (by decide) (hJ 2 (by decide)))
def zb_X7_forgetRuns_2 (K : zKt) (J : Nat → zPP) : zPP := zT_ild 1 (zT_push (.int 36) (zT_if2 (fun x y => y ≤ x) (zT_vret K) (zT_ald 0 (zT_getR 7 4 9 (zT_ild 1 (zT_aald (zT_ifn (zb_X7_forgetRuns_27 K J) (zT_ald 0 (zT_getR 7 4 9 (zT_ild 1 (zT_aald (zT_push (.int (-1)) (zT_putI 6 1 2 (zb_X7_forgetRuns_27 K J))))))))))))))
theorem zbs_X7_forgetRuns_2 {X : zCt} (hR : zRX X = { frames := 0, cells := 0, slots := 0, locals := 0 }) (J : Nat → zPP) (hJ : ∀ h ∈ ([2] : List Nat), zSd X RX7 "forgetRuns" cX7_forgetRuns 2 none h (J h)) : zSd X RX7 "forgetRuns" cX7_forgetRuns 2 none 2 (zb_X7_forgetRuns_2 (zKX X) J) := zs_iload_n zd_X7_forgetRuns_2 rfl (zs_bipush zd_X7_forgetRuns_3 (by decide) (zs_icmp_ge (tgt := 33) zd_X7_forgetRuns_5 (by decide) (zs_vret rfl zd_X7_forgetRuns_33) (zs_aload_n zd_X7_forgetRuns_8 rfl (zs_getR (ci := 7) (j := 4) (T := TX7) rfl inX7 (by decide) gw_1_189 rfl zd_X7_forgetRuns_9 (zs_iload_n zd_X7_forgetRuns_12 rfl (zs_aald zd_X7_forgetRuns_13 (zs_ifnull (tgt := 27) zd_X7_forgetRuns_14 (by decide) (zbs_X7_forgetRuns_27 hR J hJ) (zs_aload_n zd_X7_forgetRuns_17 rfl (zs_getR (ci := 7) (j := 4) (T := TX7) rfl inX7 (by decide) gw_1_189 rfl zd_X7_forgetRuns_18 (zs_iload_n zd_X7_forgetRuns_21 rfl (zs_aald zd_X7_forgetRuns_22 (zs_iconst zd_X7_forgetRuns_23 (by decide) (zs_putI (ci := 6) (j := 1) (T := TX6) rfl inX6 tyX6_ok nmX6 (by decide) gw_2_172 rfl rfl rfl zd_X7_forgetRuns_24 (zbs_X7_forgetRuns_27 hR J hJ))))))))))))))
def zB_X7_forgetRuns (K : zKt) (J : Nat → zPP) (h : Nat) : zPP := if h = 2 then zb_X7_forgetRuns_2 K J else (fun _ _ _ => False)
theorem zBs_X7_forgetRuns {X : zCt} (hR : zRX X = { frames := 0, cells := 0, slots := 0, locals := 0 }) : ∀ J : Nat → zPP, (∀ h ∈ ([2] : List Nat), zSd X RX7 "forgetRuns" cX7_forgetRuns 2 none h (J h)) → ∀ h ∈ ([2] : List Nat), zSd X RX7 "forgetRuns" cX7_forgetRuns 2 none h (zB_X7_forgetRuns (zKX X) J h) := by
  intro J hJ h hh
  unfold zB_X7_forgetRuns
  simp only [List.mem_cons, List.not_mem_nil, or_false] at hh
  subst hh
  exact zbs_X7_forgetRuns_2 hR J hJ
theorem zdn_X7_forgetRuns : yX7_forgetRuns.cls ≠ "java/lang/invoke/MethodHandle" ∧ yX7_forgetRuns.cls ≠ "java/lang/invoke/VarHandle" ∧ (parseMethodDescriptor yX7_forgetRuns.desc).map (fun d => d.parameters.length) = some 0 := by decide +kernel
/-! DeltaRuns fault -/
theorem zd_X7_fault_0 : decode cX7_fault 0 = .ok (.aload_n 0, 1) := by decide +kernel
theorem zd_X7_fault_1 : decode cX7_fault 1 = .ok (.getfield 53, 3) := by decide +kernel
theorem zd_X7_fault_4 : decode cX7_fault 4 = .ok (.ireturn, 1) := by decide +kernel
def zb_X7_fault_0 (K : zKt) (J : Nat → zPP) : zPP := zT_ald 0 (zT_getI 7 7 9 (zT_iret K))
theorem zbs_X7_fault_0 {X : zCt} (hR : zRX X = { frames := 0, cells := 0, slots := 0, locals := 0 }) (J : Nat → zPP) (hJ : ∀ h ∈ ([] : List Nat), zSd X RX7 "fault" cX7_fault 1 (some .int) h (J h)) : zSd X RX7 "fault" cX7_fault 1 (some .int) 0 (zb_X7_fault_0 (zKX X) J) := zs_aload_n zd_X7_fault_0 rfl (zs_getI (ci := 7) (j := 7) (T := TX7) rfl inX7 (by decide) gw_1_192 rfl zd_X7_fault_1 (zs_iret rfl zd_X7_fault_4))
theorem zdn_X7_fault : yX7_fault.cls ≠ "java/lang/invoke/MethodHandle" ∧ yX7_fault.cls ≠ "java/lang/invoke/VarHandle" ∧ (parseMethodDescriptor yX7_fault.desc).map (fun d => d.parameters.length) = some 0 := by decide +kernel
/-! DeltaRuns status -/
theorem zd_X7_status_0 : decode cX7_status 0 = .ok (.aload_n 0, 1) := by decide +kernel
theorem zd_X7_status_1 : decode cX7_status 1 = .ok (.getfield 57, 3) := by decide +kernel
theorem zd_X7_status_4 : decode cX7_status 4 = .ok (.ireturn, 1) := by decide +kernel
def zb_X7_status_0 (K : zKt) (J : Nat → zPP) : zPP := zT_ald 0 (zT_getI 7 8 9 (zT_iret K))
theorem zbs_X7_status_0 {X : zCt} (hR : zRX X = { frames := 0, cells := 0, slots := 0, locals := 0 }) (J : Nat → zPP) (hJ : ∀ h ∈ ([] : List Nat), zSd X RX7 "status" cX7_status 1 (some .int) h (J h)) : zSd X RX7 "status" cX7_status 1 (some .int) 0 (zb_X7_status_0 (zKX X) J) := zs_aload_n zd_X7_status_0 rfl (zs_getI (ci := 7) (j := 8) (T := TX7) rfl inX7 (by decide) gw_1_193 rfl zd_X7_status_1 (zs_iret rfl zd_X7_status_4))
theorem zdn_X7_status : yX7_status.cls ≠ "java/lang/invoke/MethodHandle" ∧ yX7_status.cls ≠ "java/lang/invoke/VarHandle" ∧ (parseMethodDescriptor yX7_status.desc).map (fun d => d.parameters.length) = some 0 := by decide +kernel
/-! DeltaRuns count -/
theorem zd_X7_count_0 : decode cX7_count 0 = .ok (.iload_n 1, 1) := by decide +kernel
theorem zd_X7_count_1 : decode cX7_count 1 = .ok (.tableswitch 99 0 6 #[43, 51, 59, 67, 75, 83, 91], 43) := by decide +kernel
theorem zd_X7_count_44 : decode cX7_count 44 = .ok (.aload_n 0, 1) := by decide +kernel
theorem zd_X7_count_45 : decode cX7_count 45 = .ok (.getfield 10, 3) := by decide +kernel
theorem zd_X7_count_48 : decode cX7_count 48 = .ok (.getfield 148, 3) := by decide +kernel
theorem zd_X7_count_51 : decode cX7_count 51 = .ok (.ireturn, 1) := by decide +kernel
theorem zd_X7_count_52 : decode cX7_count 52 = .ok (.aload_n 0, 1) := by decide +kernel
theorem zd_X7_count_53 : decode cX7_count 53 = .ok (.getfield 10, 3) := by decide +kernel
theorem zd_X7_count_56 : decode cX7_count 56 = .ok (.getfield 145, 3) := by decide +kernel
theorem zd_X7_count_59 : decode cX7_count 59 = .ok (.ireturn, 1) := by decide +kernel
theorem zd_X7_count_60 : decode cX7_count 60 = .ok (.aload_n 0, 1) := by decide +kernel
theorem zd_X7_count_61 : decode cX7_count 61 = .ok (.getfield 10, 3) := by decide +kernel
theorem zd_X7_count_64 : decode cX7_count 64 = .ok (.getfield 89, 3) := by decide +kernel
theorem zd_X7_count_67 : decode cX7_count 67 = .ok (.ireturn, 1) := by decide +kernel
theorem zd_X7_count_68 : decode cX7_count 68 = .ok (.aload_n 0, 1) := by decide +kernel
theorem zd_X7_count_69 : decode cX7_count 69 = .ok (.getfield 10, 3) := by decide +kernel
theorem zd_X7_count_72 : decode cX7_count 72 = .ok (.getfield 99, 3) := by decide +kernel
theorem zd_X7_count_75 : decode cX7_count 75 = .ok (.ireturn, 1) := by decide +kernel
theorem zd_X7_count_76 : decode cX7_count 76 = .ok (.aload_n 0, 1) := by decide +kernel
theorem zd_X7_count_77 : decode cX7_count 77 = .ok (.getfield 46, 3) := by decide +kernel
theorem zd_X7_count_80 : decode cX7_count 80 = .ok (.getfield 118, 3) := by decide +kernel
theorem zd_X7_count_83 : decode cX7_count 83 = .ok (.ireturn, 1) := by decide +kernel
theorem zd_X7_count_84 : decode cX7_count 84 = .ok (.aload_n 0, 1) := by decide +kernel
theorem zd_X7_count_85 : decode cX7_count 85 = .ok (.getfield 26, 3) := by decide +kernel
theorem zd_X7_count_88 : decode cX7_count 88 = .ok (.getfield 72, 3) := by decide +kernel
theorem zd_X7_count_91 : decode cX7_count 91 = .ok (.ireturn, 1) := by decide +kernel
theorem zd_X7_count_92 : decode cX7_count 92 = .ok (.aload_n 0, 1) := by decide +kernel
theorem zd_X7_count_93 : decode cX7_count 93 = .ok (.getfield 19, 3) := by decide +kernel
theorem zd_X7_count_96 : decode cX7_count 96 = .ok (.getfield 102, 3) := by decide +kernel
theorem zd_X7_count_99 : decode cX7_count 99 = .ok (.ireturn, 1) := by decide +kernel
theorem zd_X7_count_100 : decode cX7_count 100 = .ok (.iconst (-1), 1) := by decide +kernel
theorem zd_X7_count_101 : decode cX7_count 101 = .ok (.ireturn, 1) := by decide +kernel
def zb_X7_count_0 (K : zKt) (J : Nat → zPP) : zPP := zT_ild 1 (zT_tab 0 [zT_ald 0 (zT_getR 7 0 9 (zT_getI 1 1 6 (zT_iret K))), zT_ald 0 (zT_getR 7 0 9 (zT_getI 1 2 6 (zT_iret K))), zT_ald 0 (zT_getR 7 0 9 (zT_getI 1 5 6 (zT_iret K))), zT_ald 0 (zT_getR 7 0 9 (zT_getI 1 4 6 (zT_iret K))), zT_ald 0 (zT_getR 7 5 9 (zT_getI 2 5 6 (zT_iret K))), zT_ald 0 (zT_getR 7 2 9 (zT_getI 0 4 5 (zT_iret K))), zT_ald 0 (zT_getR 7 1 9 (zT_getI 4 1 2 (zT_iret K)))] (zT_push (.int (-1)) (zT_iret K)))
theorem zbs_X7_count_0 {X : zCt} (hR : zRX X = { frames := 0, cells := 0, slots := 0, locals := 0 }) (J : Nat → zPP) (hJ : ∀ h ∈ ([] : List Nat), zSd X RX7 "count" cX7_count 2 (some .int) h (J h)) : zSd X RX7 "count" cX7_count 2 (some .int) 0 (zb_X7_count_0 (zKX X) J) := zs_iload_n zd_X7_count_0 rfl (zs_tab (tgts := [44, 52, 60, 68, 76, 84, 92]) zd_X7_count_1 (by decide) (by rfl) rfl (by rfl) (fun j q t h1 h2 => match j, q, t, h1, h2 with
    | 0, q, t, h1, h2 => by
      cases h1
      cases h2
      exact zs_aload_n zd_X7_count_44 rfl (zs_getR (ci := 7) (j := 0) (T := TX7) rfl inX7 (by decide) gw_1_185 rfl zd_X7_count_45 (zs_getI (ci := 1) (j := 1) (T := TX1) rfl inX1 (by decide) gw_1_36 rfl zd_X7_count_48 (zs_iret rfl zd_X7_count_51)))
    | 1, q, t, h1, h2 => by
      cases h1
      cases h2
      exact zs_aload_n zd_X7_count_52 rfl (zs_getR (ci := 7) (j := 0) (T := TX7) rfl inX7 (by decide) gw_1_185 rfl zd_X7_count_53 (zs_getI (ci := 1) (j := 2) (T := TX1) rfl inX1 (by decide) gw_1_38 rfl zd_X7_count_56 (zs_iret rfl zd_X7_count_59)))
    | 2, q, t, h1, h2 => by
      cases h1
      cases h2
      exact zs_aload_n zd_X7_count_60 rfl (zs_getR (ci := 7) (j := 0) (T := TX7) rfl inX7 (by decide) gw_1_185 rfl zd_X7_count_61 (zs_getI (ci := 1) (j := 5) (T := TX1) rfl inX1 (by decide) gw_1_46 rfl zd_X7_count_64 (zs_iret rfl zd_X7_count_67)))
    | 3, q, t, h1, h2 => by
      cases h1
      cases h2
      exact zs_aload_n zd_X7_count_68 rfl (zs_getR (ci := 7) (j := 0) (T := TX7) rfl inX7 (by decide) gw_1_185 rfl zd_X7_count_69 (zs_getI (ci := 1) (j := 4) (T := TX1) rfl inX1 (by decide) gw_1_44 rfl zd_X7_count_72 (zs_iret rfl zd_X7_count_75)))
    | 4, q, t, h1, h2 => by
      cases h1
      cases h2
      exact zs_aload_n zd_X7_count_76 rfl (zs_getR (ci := 7) (j := 5) (T := TX7) rfl inX7 (by decide) gw_1_190 rfl zd_X7_count_77 (zs_getI (ci := 2) (j := 5) (T := TX2) rfl inX2 (by decide) gw_1_171 rfl zd_X7_count_80 (zs_iret rfl zd_X7_count_83)))
    | 5, q, t, h1, h2 => by
      cases h1
      cases h2
      exact zs_aload_n zd_X7_count_84 rfl (zs_getR (ci := 7) (j := 2) (T := TX7) rfl inX7 (by decide) gw_1_187 rfl zd_X7_count_85 (zs_getI (ci := 0) (j := 4) (T := TX0) rfl inX0 (by decide) gw_1_93 rfl zd_X7_count_88 (zs_iret rfl zd_X7_count_91)))
    | 6, q, t, h1, h2 => by
      cases h1
      cases h2
      exact zs_aload_n zd_X7_count_92 rfl (zs_getR (ci := 7) (j := 1) (T := TX7) rfl inX7 (by decide) gw_1_186 rfl zd_X7_count_93 (zs_getI (ci := 4) (j := 1) (T := TX4) rfl inX4 (by decide) gw_1_70 rfl zd_X7_count_96 (zs_iret rfl zd_X7_count_99)))
    | j + 7, q, t, h1, h2 => by cases h1) (zs_iconst zd_X7_count_100 (by decide) (zs_iret rfl zd_X7_count_101)))
theorem zdn_X7_count : yX7_count.cls ≠ "java/lang/invoke/MethodHandle" ∧ yX7_count.cls ≠ "java/lang/invoke/VarHandle" ∧ (parseMethodDescriptor yX7_count.desc).map (fun d => d.parameters.length) = some 1 := by decide +kernel
/-! DeltaRuns$Reader isLetter -/
theorem zd_X3_isLetter_0 : decode cX3_isLetter 0 = .ok (.iload_n 0, 1) := by decide +kernel
theorem zd_X3_isLetter_1 : decode cX3_isLetter 1 = .ok (.bipush 97, 2) := by decide +kernel
theorem zd_X3_isLetter_3 : decode cX3_isLetter 3 = .ok (.if_icmp .lt 13, 3) := by decide +kernel
theorem zd_X3_isLetter_6 : decode cX3_isLetter 6 = .ok (.iload_n 0, 1) := by decide +kernel
theorem zd_X3_isLetter_7 : decode cX3_isLetter 7 = .ok (.bipush 122, 2) := by decide +kernel
theorem zd_X3_isLetter_9 : decode cX3_isLetter 9 = .ok (.if_icmp .gt 7, 3) := by decide +kernel
theorem zd_X3_isLetter_12 : decode cX3_isLetter 12 = .ok (.iconst 1, 1) := by decide +kernel
theorem zd_X3_isLetter_13 : decode cX3_isLetter 13 = .ok (.goto 4, 3) := by decide +kernel
theorem zd_X3_isLetter_16 : decode cX3_isLetter 16 = .ok (.iconst 0, 1) := by decide +kernel
theorem zd_X3_isLetter_17 : decode cX3_isLetter 17 = .ok (.ireturn, 1) := by decide +kernel
def zb_X3_isLetter_17 (K : zKt) (J : Nat → zPP) : zPP := zT_nret .boolean K
theorem zbs_X3_isLetter_17 {X : zCt} (hR : zRX X = { frames := 0, cells := 0, slots := 0, locals := 0 }) (J : Nat → zPP) (hJ : ∀ h ∈ ([] : List Nat), zSd X RX3 "isLetter" cX3_isLetter 1 (some .boolean) h (J h)) : zSd X RX3 "isLetter" cX3_isLetter 1 (some .boolean) 17 (zb_X3_isLetter_17 (zKX X) J) := zs_nret rfl zd_X3_isLetter_17
def zb_X3_isLetter_16 (K : zKt) (J : Nat → zPP) : zPP := zT_push (.int 0) (zb_X3_isLetter_17 K J)
theorem zbs_X3_isLetter_16 {X : zCt} (hR : zRX X = { frames := 0, cells := 0, slots := 0, locals := 0 }) (J : Nat → zPP) (hJ : ∀ h ∈ ([] : List Nat), zSd X RX3 "isLetter" cX3_isLetter 1 (some .boolean) h (J h)) : zSd X RX3 "isLetter" cX3_isLetter 1 (some .boolean) 16 (zb_X3_isLetter_16 (zKX X) J) := zs_iconst zd_X3_isLetter_16 (by decide) (zbs_X3_isLetter_17 hR J hJ)
def zb_X3_isLetter_0 (K : zKt) (J : Nat → zPP) : zPP := zT_ild 0 (zT_push (.int 97) (zT_if2 (fun x y => x < y) (zb_X3_isLetter_16 K J) (zT_ild 0 (zT_push (.int 122) (zT_if2 (fun x y => y < x) (zb_X3_isLetter_16 K J) (zT_push (.int 1) (zb_X3_isLetter_17 K J)))))))
theorem zbs_X3_isLetter_0 {X : zCt} (hR : zRX X = { frames := 0, cells := 0, slots := 0, locals := 0 }) (J : Nat → zPP) (hJ : ∀ h ∈ ([] : List Nat), zSd X RX3 "isLetter" cX3_isLetter 1 (some .boolean) h (J h)) : zSd X RX3 "isLetter" cX3_isLetter 1 (some .boolean) 0 (zb_X3_isLetter_0 (zKX X) J) := zs_iload_n zd_X3_isLetter_0 rfl (zs_bipush zd_X3_isLetter_1 (by decide) (zs_icmp_lt (tgt := 16) zd_X3_isLetter_3 (by decide) (zbs_X3_isLetter_16 hR J hJ) (zs_iload_n zd_X3_isLetter_6 rfl (zs_bipush zd_X3_isLetter_7 (by decide) (zs_icmp_gt (tgt := 16) zd_X3_isLetter_9 (by decide) (zbs_X3_isLetter_16 hR J hJ) (zs_iconst zd_X3_isLetter_12 (by decide) (zs_goto (tgt := 17) zd_X3_isLetter_13 (by decide) (zbs_X3_isLetter_17 hR J hJ))))))))
theorem zdn_X3_isLetter : yX3_isLetter.cls ≠ "java/lang/invoke/MethodHandle" ∧ yX3_isLetter.cls ≠ "java/lang/invoke/VarHandle" ∧ (parseMethodDescriptor yX3_isLetter.desc).map (fun d => d.parameters.length) = some 1 := by decide +kernel
/-! DeltaRuns$Reader isDigit -/
theorem zd_X3_isDigit_0 : decode cX3_isDigit 0 = .ok (.iload_n 0, 1) := by decide +kernel
theorem zd_X3_isDigit_1 : decode cX3_isDigit 1 = .ok (.bipush 48, 2) := by decide +kernel
theorem zd_X3_isDigit_3 : decode cX3_isDigit 3 = .ok (.if_icmp .lt 13, 3) := by decide +kernel
theorem zd_X3_isDigit_6 : decode cX3_isDigit 6 = .ok (.iload_n 0, 1) := by decide +kernel
theorem zd_X3_isDigit_7 : decode cX3_isDigit 7 = .ok (.bipush 57, 2) := by decide +kernel
theorem zd_X3_isDigit_9 : decode cX3_isDigit 9 = .ok (.if_icmp .gt 7, 3) := by decide +kernel
theorem zd_X3_isDigit_12 : decode cX3_isDigit 12 = .ok (.iconst 1, 1) := by decide +kernel
theorem zd_X3_isDigit_13 : decode cX3_isDigit 13 = .ok (.goto 4, 3) := by decide +kernel
theorem zd_X3_isDigit_16 : decode cX3_isDigit 16 = .ok (.iconst 0, 1) := by decide +kernel
theorem zd_X3_isDigit_17 : decode cX3_isDigit 17 = .ok (.ireturn, 1) := by decide +kernel
def zb_X3_isDigit_17 (K : zKt) (J : Nat → zPP) : zPP := zT_nret .boolean K
theorem zbs_X3_isDigit_17 {X : zCt} (hR : zRX X = { frames := 0, cells := 0, slots := 0, locals := 0 }) (J : Nat → zPP) (hJ : ∀ h ∈ ([] : List Nat), zSd X RX3 "isDigit" cX3_isDigit 1 (some .boolean) h (J h)) : zSd X RX3 "isDigit" cX3_isDigit 1 (some .boolean) 17 (zb_X3_isDigit_17 (zKX X) J) := zs_nret rfl zd_X3_isDigit_17
def zb_X3_isDigit_16 (K : zKt) (J : Nat → zPP) : zPP := zT_push (.int 0) (zb_X3_isDigit_17 K J)
theorem zbs_X3_isDigit_16 {X : zCt} (hR : zRX X = { frames := 0, cells := 0, slots := 0, locals := 0 }) (J : Nat → zPP) (hJ : ∀ h ∈ ([] : List Nat), zSd X RX3 "isDigit" cX3_isDigit 1 (some .boolean) h (J h)) : zSd X RX3 "isDigit" cX3_isDigit 1 (some .boolean) 16 (zb_X3_isDigit_16 (zKX X) J) := zs_iconst zd_X3_isDigit_16 (by decide) (zbs_X3_isDigit_17 hR J hJ)
def zb_X3_isDigit_0 (K : zKt) (J : Nat → zPP) : zPP := zT_ild 0 (zT_push (.int 48) (zT_if2 (fun x y => x < y) (zb_X3_isDigit_16 K J) (zT_ild 0 (zT_push (.int 57) (zT_if2 (fun x y => y < x) (zb_X3_isDigit_16 K J) (zT_push (.int 1) (zb_X3_isDigit_17 K J)))))))
theorem zbs_X3_isDigit_0 {X : zCt} (hR : zRX X = { frames := 0, cells := 0, slots := 0, locals := 0 }) (J : Nat → zPP) (hJ : ∀ h ∈ ([] : List Nat), zSd X RX3 "isDigit" cX3_isDigit 1 (some .boolean) h (J h)) : zSd X RX3 "isDigit" cX3_isDigit 1 (some .boolean) 0 (zb_X3_isDigit_0 (zKX X) J) := zs_iload_n zd_X3_isDigit_0 rfl (zs_bipush zd_X3_isDigit_1 (by decide) (zs_icmp_lt (tgt := 16) zd_X3_isDigit_3 (by decide) (zbs_X3_isDigit_16 hR J hJ) (zs_iload_n zd_X3_isDigit_6 rfl (zs_bipush zd_X3_isDigit_7 (by decide) (zs_icmp_gt (tgt := 16) zd_X3_isDigit_9 (by decide) (zbs_X3_isDigit_16 hR J hJ) (zs_iconst zd_X3_isDigit_12 (by decide) (zs_goto (tgt := 17) zd_X3_isDigit_13 (by decide) (zbs_X3_isDigit_17 hR J hJ))))))))
theorem zdn_X3_isDigit : yX3_isDigit.cls ≠ "java/lang/invoke/MethodHandle" ∧ yX3_isDigit.cls ≠ "java/lang/invoke/VarHandle" ∧ (parseMethodDescriptor yX3_isDigit.desc).map (fun d => d.parameters.length) = some 1 := by decide +kernel
/-! DeltaRuns$Reader atEnd -/
theorem zd_X3_atEnd_0 : decode cX3_atEnd 0 = .ok (.aload_n 0, 1) := by decide +kernel
theorem zd_X3_atEnd_1 : decode cX3_atEnd 1 = .ok (.getfield 36, 3) := by decide +kernel
theorem zd_X3_atEnd_4 : decode cX3_atEnd 4 = .ok (.aload_n 0, 1) := by decide +kernel
theorem zd_X3_atEnd_5 : decode cX3_atEnd 5 = .ok (.getfield 9, 3) := by decide +kernel
theorem zd_X3_atEnd_8 : decode cX3_atEnd 8 = .ok (.getfield 117, 3) := by decide +kernel
theorem zd_X3_atEnd_11 : decode cX3_atEnd 11 = .ok (.if_icmp .lt 7, 3) := by decide +kernel
theorem zd_X3_atEnd_14 : decode cX3_atEnd 14 = .ok (.iconst 1, 1) := by decide +kernel
theorem zd_X3_atEnd_15 : decode cX3_atEnd 15 = .ok (.goto 4, 3) := by decide +kernel
theorem zd_X3_atEnd_18 : decode cX3_atEnd 18 = .ok (.iconst 0, 1) := by decide +kernel
theorem zd_X3_atEnd_19 : decode cX3_atEnd 19 = .ok (.ireturn, 1) := by decide +kernel
def zb_X3_atEnd_19 (K : zKt) (J : Nat → zPP) : zPP := zT_nret .boolean K
theorem zbs_X3_atEnd_19 {X : zCt} (hR : zRX X = { frames := 0, cells := 0, slots := 0, locals := 0 }) (J : Nat → zPP) (hJ : ∀ h ∈ ([] : List Nat), zSd X RX3 "atEnd" cX3_atEnd 1 (some .boolean) h (J h)) : zSd X RX3 "atEnd" cX3_atEnd 1 (some .boolean) 19 (zb_X3_atEnd_19 (zKX X) J) := zs_nret rfl zd_X3_atEnd_19
def zb_X3_atEnd_0 (K : zKt) (J : Nat → zPP) : zPP := zT_ald 0 (zT_getI 3 2 5 (zT_ald 0 (zT_getR 3 0 5 (zT_getI 4 1 2 (zT_if2 (fun x y => x < y) (zT_push (.int 0) (zb_X3_atEnd_19 K J)) (zT_push (.int 1) (zb_X3_atEnd_19 K J)))))))
theorem zbs_X3_atEnd_0 {X : zCt} (hR : zRX X = { frames := 0, cells := 0, slots := 0, locals := 0 }) (J : Nat → zPP) (hJ : ∀ h ∈ ([] : List Nat), zSd X RX3 "atEnd" cX3_atEnd 1 (some .boolean) h (J h)) : zSd X RX3 "atEnd" cX3_atEnd 1 (some .boolean) 0 (zb_X3_atEnd_0 (zKX X) J) := zs_aload_n zd_X3_atEnd_0 rfl (zs_getI (ci := 3) (j := 2) (T := TX3) rfl inX3 (by decide) gw_2_41 rfl zd_X3_atEnd_1 (zs_aload_n zd_X3_atEnd_4 rfl (zs_getR (ci := 3) (j := 0) (T := TX3) rfl inX3 (by decide) gw_2_39 rfl zd_X3_atEnd_5 (zs_getI (ci := 4) (j := 1) (T := TX4) rfl inX4 (by decide) gw_1_71 rfl zd_X3_atEnd_8 (zs_icmp_lt (tgt := 18) zd_X3_atEnd_11 (by decide) (zs_iconst zd_X3_atEnd_18 (by decide) (zbs_X3_atEnd_19 hR J hJ)) (zs_iconst zd_X3_atEnd_14 (by decide) (zs_goto (tgt := 19) zd_X3_atEnd_15 (by decide) (zbs_X3_atEnd_19 hR J hJ))))))))
theorem zdn_X3_atEnd : yX3_atEnd.cls ≠ "java/lang/invoke/MethodHandle" ∧ yX3_atEnd.cls ≠ "java/lang/invoke/VarHandle" ∧ (parseMethodDescriptor yX3_atEnd.desc).map (fun d => d.parameters.length) = some 0 := by decide +kernel
end
section
/-! CONTRACTS of the small methods of the class -/
def zJ0 (_ : Nat) : zPP := fun _ _ _ => False
theorem zJ0_ok {X : zCt} {own nm : String} {cc : ByteArray} {nL : Nat} {ret : Option FieldType} : ∀ h ∈ ([] : List Nat), zSd X own nm cc nL ret h (zJ0 h) := fun _ h => absurd h List.not_mem_nil
/-- a contract out of a body without a loop -/
theorem zflat {l : Launch} {D : va_G} {Y : Nat → ClassId} {y : MethodName} {cc : ByteArray} {maxL : Nat} {ret : Option FieldType} {fr lo mc ms : Nat} {C : List Value → zMm → zKt → Prop} (hy : plainName y.cls = true) (B : zKt → (Nat → zPP) → Nat → Nat → zPP)
    (hB : ∀ X : zCt, zRX X = { frames := fr, cells := mc, slots := ms, locals := lo } → zSd X y.cls y.name cc maxL ret 0 (B (zKX X) zJ0 (zlc X) (zls X)))
    (h : ∀ avs M K, C avs M K → (zent avs).length ≤ maxL ∧ B K zJ0 (M.1.length + mc) (zss M.1 + ms) M (zent avs ++ List.replicate (maxL - (zent avs).length) none) []) : zMt l D Y y cc maxL ret fr lo mc ms C := by
  refine zMt.of hy (fun X _ hR _ _ avs hC => ?_)
  obtain ⟨h1, h2⟩ := h avs (zMX X) (zKX X) hC
  refine ⟨h1, _, hB X hR, ?_⟩
  have e1 : zlc X = (zMX X).1.length + mc := by unfold zlc; rw [hR]
  have e2 : zls X = zss (zMX X).1 + ms := by unfold zls; rw [hR]
  rw [e1, e2]
  exact h2
/-- a contract out of a body with loops -/
theorem zwhile {l : Launch} {D : va_G} {Y : Nat → ClassId} {y : MethodName} {cc : ByteArray} {maxL : Nat} {ret : Option FieldType} {fr lo mc ms : Nat} {C : List Value → zMm → zKt → Prop} {heads : List Nat} (hy : plainName y.cls = true) (B : zKt → (Nat → zPP) → Nat → Nat → zPP) (BL : zKt → Nat → Nat → (Nat → zPP) → Nat → zPP)
    (hB : ∀ X : zCt, zRX X = { frames := fr, cells := mc, slots := ms, locals := lo } → ∀ J : Nat → zPP, (∀ h ∈ heads, zSd X y.cls y.name cc maxL ret h (J h)) → zSd X y.cls y.name cc maxL ret 0 (B (zKX X) J (zlc X) (zls X)))
    (hBL : ∀ X : zCt, zRX X = { frames := fr, cells := mc, slots := ms, locals := lo } → ∀ J : Nat → zPP, (∀ h ∈ heads, zSd X y.cls y.name cc maxL ret h (J h)) → ∀ h ∈ heads, zSd X y.cls y.name cc maxL ret h (BL (zKX X) (zlc X) (zls X) J h))
    (h : ∀ avs M K, C avs M K → (zent avs).length ≤ maxL ∧ ∃ Inv : Nat → Nat → zPP, (∀ n (J : Nat → zPP), (∀ n', n' < n → ∀ h ∈ heads, ∀ M' ls st, Inv n' h M' ls st → J h M' ls st) → ∀ h ∈ heads, ∀ M' ls st, Inv n h M' ls st → BL K (M.1.length + mc) (zss M.1 + ms) J h M' ls st) ∧
      ∀ J : Nat → zPP, (∀ n, ∀ h ∈ heads, ∀ M' ls st, Inv n h M' ls st → J h M' ls st) → B K J (M.1.length + mc) (zss M.1 + ms) M (zent avs ++ List.replicate (maxL - (zent avs).length) none) []) : zMt l D Y y cc maxL ret fr lo mc ms C := by
  refine zMt.of hy (fun X _ hR _ _ avs hC => ?_)
  obtain ⟨h1, Inv, h2, h3⟩ := h avs (zMX X) (zKX X) hC
  have e1 : zlc X = (zMX X).1.length + mc := by unfold zlc; rw [hR]
  have e2 : zls X = zss (zMX X).1 + ms := by unfold zls; rw [hR]
  rw [← e1, ← e2] at h2 h3
  exact ⟨h1, _, hB X hR _ (zloop (BL (zKX X) (zlc X) (zls X)) Inv (hBL X hR) (fun n h hh M' ls st hI => h2 n _ (fun n' hn h' _ M'' ls' st' hI' => ⟨n', hn, hI'⟩) h hh M' ls st hI)), h3 _ (fun n h' _ M'' ls' st' hI' => ⟨n, hI'⟩)⟩
def zbI (b : Prop) [Decidable b] : Int32 := if b then 1 else 0
theorem zbI_t {b : Prop} [Decidable b] (h : b) : zbI b = 1 := by simp [zbI, h]
theorem zbI_f {b : Prop} [Decidable b] (h : ¬ b) : zbI b = 0 := by simp [zbI, h]
theorem zbI_0 {b : Prop} [Decidable b] : zbI b = 0 ↔ ¬ b := by unfold zbI; split <;> simp_all
def zc_X7_within (a : List Value) (M : zMm) (K : zKt) : Prop := match a with
  | [.int n, .int u, .int v] => K (some (.int (zbI (u ≤ n ∧ n ≤ v)))) M
  | _ => False
theorem zm_X7_within (l : Launch) (D : va_G) (Y : Nat → ClassId) : zMt l D Y yX7_within cX7_within 3 (some .boolean) 0 0 0 0 zc_X7_within := by
  refine zflat (by decide) (fun K J _ _ => zb_X7_within_0 K J) (fun X hR => zbs_X7_within_0 hR zJ0 zJ0_ok) (fun avs M K h => ?_)
  unfold zc_X7_within at h
  split at h
  · next n u v =>
    refine ⟨by simp [zent], ?_⟩
    simp only [zb_X7_within_0, zb_X7_within_14, zb_X7_within_15, zT_push, zT_bin, zT_div, zT_bil, zT_shl, zT_un, zT_i2l, zT_l2i, zT_lcmp, zT_ild, zT_lld, zT_ald, zT_ist, zT_lst, zT_ast, zT_iinc, zT_dup, zT_dup2, zT_pop, zT_if1, zT_if2, zT_ifn, zT_getI, zT_getJ, zT_getR, zT_putI, zT_putZ, zT_putJ, zT_putR, zT_ald0, zT_lald, zT_aald, zT_iast, zT_zast, zT_bast, zT_last, zT_aast, zT_iret, zT_nret, zT_aret, zT_vret, zT_oi, zT_mm, zT_ialX, zT_S1, zT_S2, zT_S3, zT_V0, zT_V1, zT_V2, zT_V3, zT_V4, zT_V5, zT_V6, zT_I0, zT_I1, zT_I2, zlg, zlset, zlpr, zent, zok, va_rf, List.length_cons, List.length_nil, List.replicate, List.cons_append, List.nil_append, List.append_nil, Option.toList_some, Option.toList_none, Option.toList, Nat.reduceAdd, Nat.reduceSub, Nat.reduceLeDiff, Nat.zero_add, Nat.zero_le, true_and, and_true, Nat.le_refl, ge_iff_le, Nat.reduceEqDiff]
    refine ⟨fun h1 => ⟨rfl, ?_⟩, fun h1 => ⟨fun h2 => ⟨rfl, ?_⟩, fun h2 => ⟨rfl, ?_⟩⟩⟩
    · rw [zbI_f (fun q => Int32.not_le.mpr h1 q.1)] at h; exact h
    · rw [zbI_f (fun q => Int32.not_le.mpr h2 q.2)] at h; exact h
    · rw [zbI_t ⟨Int32.not_lt.mp h1, Int32.not_lt.mp h2⟩] at h; exact h
  · exact h.elim
def zc_X7_cellAt (a : List Value) (M : zMm) (K : zKt) : Prop := match a with
  | [.int x, .int y] => K (some (.int (y * 12 + x))) M
  | _ => False
theorem zm_X7_cellAt (l : Launch) (D : va_G) (Y : Nat → ClassId) : zMt l D Y yX7_cellAt cX7_cellAt 2 (some .int) 0 0 0 0 zc_X7_cellAt := by
  refine zflat (by decide) (fun K J _ _ => zb_X7_cellAt_0 K J) (fun X hR => zbs_X7_cellAt_0 hR zJ0 zJ0_ok) (fun avs M K h => ?_)
  unfold zc_X7_cellAt at h
  split at h
  · refine ⟨by simp [zent], ?_⟩
    simp only [zb_X7_cellAt_0, zT_push, zT_bin, zT_div, zT_bil, zT_shl, zT_un, zT_i2l, zT_l2i, zT_lcmp, zT_ild, zT_lld, zT_ald, zT_ist, zT_lst, zT_ast, zT_iinc, zT_dup, zT_dup2, zT_pop, zT_if1, zT_if2, zT_ifn, zT_getI, zT_getJ, zT_getR, zT_putI, zT_putZ, zT_putJ, zT_putR, zT_ald0, zT_lald, zT_aald, zT_iast, zT_zast, zT_bast, zT_last, zT_aast, zT_iret, zT_nret, zT_aret, zT_vret, zT_oi, zT_mm, zT_ialX, zT_S1, zT_S2, zT_S3, zT_V0, zT_V1, zT_V2, zT_V3, zT_V4, zT_V5, zT_V6, zT_I0, zT_I1, zT_I2, zlg, zlset, zlpr, zent, zok, va_rf, List.length_cons, List.length_nil, List.replicate, List.cons_append, List.nil_append, List.append_nil, Option.toList_some, Option.toList_none, Option.toList, Nat.reduceAdd, Nat.reduceSub, Nat.reduceLeDiff, Nat.zero_add, Nat.zero_le, true_and, and_true, Nat.le_refl, ge_iff_le, Nat.reduceEqDiff]
    exact h
  · exact h.elim
def zc_X7_sortOf (a : List Value) (M : zMm) (K : zKt) : Prop := match a with
  | [.int x] => K (some (.int (x / 12))) M
  | _ => False
theorem zm_X7_sortOf (l : Launch) (D : va_G) (Y : Nat → ClassId) : zMt l D Y yX7_sortOf cX7_sortOf 1 (some .int) 0 0 0 0 zc_X7_sortOf := by
  refine zflat (by decide) (fun K J _ _ => zb_X7_sortOf_0 K J) (fun X hR => zbs_X7_sortOf_0 hR zJ0 zJ0_ok) (fun avs M K h => ?_)
  unfold zc_X7_sortOf at h
  split at h
  · refine ⟨by simp [zent], ?_⟩
    simp only [zb_X7_sortOf_0, zT_push, zT_bin, zT_div, zT_bil, zT_shl, zT_un, zT_i2l, zT_l2i, zT_lcmp, zT_ild, zT_lld, zT_ald, zT_ist, zT_lst, zT_ast, zT_iinc, zT_dup, zT_dup2, zT_pop, zT_if1, zT_if2, zT_ifn, zT_getI, zT_getJ, zT_getR, zT_putI, zT_putZ, zT_putJ, zT_putR, zT_ald0, zT_lald, zT_aald, zT_iast, zT_zast, zT_bast, zT_last, zT_aast, zT_iret, zT_nret, zT_aret, zT_vret, zT_oi, zT_mm, zT_ialX, zT_S1, zT_S2, zT_S3, zT_V0, zT_V1, zT_V2, zT_V3, zT_V4, zT_V5, zT_V6, zT_I0, zT_I1, zT_I2, zlg, zlset, zlpr, zent, zok, va_rf, List.length_cons, List.length_nil, List.replicate, List.cons_append, List.nil_append, List.append_nil, Option.toList_some, Option.toList_none, Option.toList, Nat.reduceAdd, Nat.reduceSub, Nat.reduceLeDiff, Nat.zero_add, Nat.zero_le, true_and, and_true, Nat.le_refl, ge_iff_le, Nat.reduceEqDiff]
    exact ⟨by decide, h⟩
  · exact h.elim
def zc_X7_rateOf (a : List Value) (M : zMm) (K : zKt) : Prop := match a with
  | [.int x] => K (some (.int (1 + (x / 2 - x / 2 / 6 * 6)))) M
  | _ => False
theorem zm_X7_rateOf (l : Launch) (D : va_G) (Y : Nat → ClassId) : zMt l D Y yX7_rateOf cX7_rateOf 1 (some .int) 0 0 0 0 zc_X7_rateOf := by
  refine zflat (by decide) (fun K J _ _ => zb_X7_rateOf_0 K J) (fun X hR => zbs_X7_rateOf_0 hR zJ0 zJ0_ok) (fun avs M K h => ?_)
  unfold zc_X7_rateOf at h
  split at h
  · refine ⟨by simp [zent], ?_⟩
    simp only [zb_X7_rateOf_0, zT_push, zT_bin, zT_div, zT_bil, zT_shl, zT_un, zT_i2l, zT_l2i, zT_lcmp, zT_ild, zT_lld, zT_ald, zT_ist, zT_lst, zT_ast, zT_iinc, zT_dup, zT_dup2, zT_pop, zT_if1, zT_if2, zT_ifn, zT_getI, zT_getJ, zT_getR, zT_putI, zT_putZ, zT_putJ, zT_putR, zT_ald0, zT_lald, zT_aald, zT_iast, zT_zast, zT_bast, zT_last, zT_aast, zT_iret, zT_nret, zT_aret, zT_vret, zT_oi, zT_mm, zT_ialX, zT_S1, zT_S2, zT_S3, zT_V0, zT_V1, zT_V2, zT_V3, zT_V4, zT_V5, zT_V6, zT_I0, zT_I1, zT_I2, zlg, zlset, zlpr, zent, zok, va_rf, List.length_cons, List.length_nil, List.replicate, List.cons_append, List.nil_append, List.append_nil, Option.toList_some, Option.toList_none, Option.toList, Nat.reduceAdd, Nat.reduceSub, Nat.reduceLeDiff, Nat.zero_add, Nat.zero_le, true_and, and_true, Nat.le_refl, ge_iff_le, Nat.reduceEqDiff]
    exact ⟨by decide, by decide, h⟩
  · exact h.elim
def zc_X7_wearOf (a : List Value) (M : zMm) (K : zKt) : Prop := match a with
  | [.int x] => K (some (.int (x - x / 2 * 2))) M
  | _ => False
theorem zm_X7_wearOf (l : Launch) (D : va_G) (Y : Nat → ClassId) : zMt l D Y yX7_wearOf cX7_wearOf 1 (some .int) 0 0 0 0 zc_X7_wearOf := by
  refine zflat (by decide) (fun K J _ _ => zb_X7_wearOf_0 K J) (fun X hR => zbs_X7_wearOf_0 hR zJ0 zJ0_ok) (fun avs M K h => ?_)
  unfold zc_X7_wearOf at h
  split at h
  · refine ⟨by simp [zent], ?_⟩
    simp only [zb_X7_wearOf_0, zT_push, zT_bin, zT_div, zT_bil, zT_shl, zT_un, zT_i2l, zT_l2i, zT_lcmp, zT_ild, zT_lld, zT_ald, zT_ist, zT_lst, zT_ast, zT_iinc, zT_dup, zT_dup2, zT_pop, zT_if1, zT_if2, zT_ifn, zT_getI, zT_getJ, zT_getR, zT_putI, zT_putZ, zT_putJ, zT_putR, zT_ald0, zT_lald, zT_aald, zT_iast, zT_zast, zT_bast, zT_last, zT_aast, zT_iret, zT_nret, zT_aret, zT_vret, zT_oi, zT_mm, zT_ialX, zT_S1, zT_S2, zT_S3, zT_V0, zT_V1, zT_V2, zT_V3, zT_V4, zT_V5, zT_V6, zT_I0, zT_I1, zT_I2, zlg, zlset, zlpr, zent, zok, va_rf, List.length_cons, List.length_nil, List.replicate, List.cons_append, List.nil_append, List.append_nil, Option.toList_some, Option.toList_none, Option.toList, Nat.reduceAdd, Nat.reduceSub, Nat.reduceLeDiff, Nat.zero_add, Nat.zero_le, true_and, and_true, Nat.le_refl, ge_iff_le, Nat.reduceEqDiff]
    exact ⟨by decide, h⟩
  · exact h.elim
def zc_X7_trend (a : List Value) (M : zMm) (K : zKt) : Prop := match a with
  | [.int b, .int u, .int v] => K (some (.int (if b < u then 1 else if v < b then -1 else 0))) M
  | _ => False
theorem zm_X7_trend (l : Launch) (D : va_G) (Y : Nat → ClassId) : zMt l D Y yX7_trend cX7_trend 3 (some .int) 0 0 0 0 zc_X7_trend := by
  refine zflat (by decide) (fun K J _ _ => zb_X7_trend_0 K J) (fun X hR => zbs_X7_trend_0 hR zJ0 zJ0_ok) (fun avs M K h => ?_)
  unfold zc_X7_trend at h
  split at h
  · refine ⟨by simp [zent], ?_⟩
    simp only [zb_X7_trend_0, zb_X7_trend_17, zT_push, zT_bin, zT_div, zT_bil, zT_shl, zT_un, zT_i2l, zT_l2i, zT_lcmp, zT_ild, zT_lld, zT_ald, zT_ist, zT_lst, zT_ast, zT_iinc, zT_dup, zT_dup2, zT_pop, zT_if1, zT_if2, zT_ifn, zT_getI, zT_getJ, zT_getR, zT_putI, zT_putZ, zT_putJ, zT_putR, zT_ald0, zT_lald, zT_aald, zT_iast, zT_zast, zT_bast, zT_last, zT_aast, zT_iret, zT_nret, zT_aret, zT_vret, zT_oi, zT_mm, zT_ialX, zT_S1, zT_S2, zT_S3, zT_V0, zT_V1, zT_V2, zT_V3, zT_V4, zT_V5, zT_V6, zT_I0, zT_I1, zT_I2, zlg, zlset, zlpr, zent, zok, va_rf, List.length_cons, List.length_nil, List.replicate, List.cons_append, List.nil_append, List.append_nil, Option.toList_some, Option.toList_none, Option.toList, Nat.reduceAdd, Nat.reduceSub, Nat.reduceLeDiff, Nat.zero_add, Nat.zero_le, true_and, and_true, Nat.le_refl, ge_iff_le, Nat.reduceEqDiff]
    refine ⟨fun h1 => ⟨fun h2 => ?_, fun h2 => ?_⟩, fun h1 => ?_⟩
    · rw [if_neg (Int32.not_lt.mpr h1), if_neg (Int32.not_lt.mpr h2)] at h; exact h
    · rw [if_neg (Int32.not_lt.mpr h1), if_pos (Int32.not_le.mp h2)] at h; exact h
    · rw [if_pos (Int32.not_le.mp h1)] at h; exact h
  · exact h.elim
def zc_X7_refuse (a : List Value) (M : zMm) (K : zKt) : Prop := match a with
  | [.ref k, .int x] => k = 0 ∧ K (some (.int x)) (zwI M 0 8 x)
  | _ => False
theorem zm_X7_refuse (l : Launch) (D : va_G) (Y : Nat → ClassId) : zMt l D Y yX7_refuse cX7_refuse 2 (some .int) 0 0 0 0 zc_X7_refuse := by
  refine zflat (by decide) (fun K J _ _ => zb_X7_refuse_0 K J) (fun X hR => zbs_X7_refuse_0 hR zJ0 zJ0_ok) (fun avs M K h => ?_)
  unfold zc_X7_refuse at h
  split at h
  · obtain ⟨rfl, h⟩ := h
    refine ⟨by simp [zent], ?_⟩
    simp only [zb_X7_refuse_0, zsh_0, zT_push, zT_bin, zT_div, zT_bil, zT_shl, zT_un, zT_i2l, zT_l2i, zT_lcmp, zT_ild, zT_lld, zT_ald, zT_ist, zT_lst, zT_ast, zT_iinc, zT_dup, zT_dup2, zT_pop, zT_if1, zT_if2, zT_ifn, zT_getI, zT_getJ, zT_getR, zT_putI, zT_putZ, zT_putJ, zT_putR, zT_ald0, zT_lald, zT_aald, zT_iast, zT_zast, zT_bast, zT_last, zT_aast, zT_iret, zT_nret, zT_aret, zT_vret, zT_oi, zT_mm, zT_ialX, zT_S1, zT_S2, zT_S3, zT_V0, zT_V1, zT_V2, zT_V3, zT_V4, zT_V5, zT_V6, zT_I0, zT_I1, zT_I2, zlg, zlset, zlpr, zent, zok, va_rf, List.length_cons, List.length_nil, List.replicate, List.cons_append, List.nil_append, List.append_nil, Option.toList_some, Option.toList_none, Option.toList, Nat.reduceAdd, Nat.reduceSub, Nat.reduceLeDiff, Nat.zero_add, Nat.zero_le, true_and, and_true, Nat.le_refl, ge_iff_le, Nat.reduceEqDiff]
    exact h
  · exact h.elim
def zc_X7_accept (a : List Value) (M : zMm) (K : zKt) : Prop := match a with
  | [.ref k, .int x] => k = 0 ∧ K (some (.int x)) (zwI M 0 8 0)
  | _ => False
theorem zm_X7_accept (l : Launch) (D : va_G) (Y : Nat → ClassId) : zMt l D Y yX7_accept cX7_accept 2 (some .int) 0 0 0 0 zc_X7_accept := by
  refine zflat (by decide) (fun K J _ _ => zb_X7_accept_0 K J) (fun X hR => zbs_X7_accept_0 hR zJ0 zJ0_ok) (fun avs M K h => ?_)
  unfold zc_X7_accept at h
  split at h
  · obtain ⟨rfl, h⟩ := h
    refine ⟨by simp [zent], ?_⟩
    simp only [zb_X7_accept_0, zsh_0, zT_push, zT_bin, zT_div, zT_bil, zT_shl, zT_un, zT_i2l, zT_l2i, zT_lcmp, zT_ild, zT_lld, zT_ald, zT_ist, zT_lst, zT_ast, zT_iinc, zT_dup, zT_dup2, zT_pop, zT_if1, zT_if2, zT_ifn, zT_getI, zT_getJ, zT_getR, zT_putI, zT_putZ, zT_putJ, zT_putR, zT_ald0, zT_lald, zT_aald, zT_iast, zT_zast, zT_bast, zT_last, zT_aast, zT_iret, zT_nret, zT_aret, zT_vret, zT_oi, zT_mm, zT_ialX, zT_S1, zT_S2, zT_S3, zT_V0, zT_V1, zT_V2, zT_V3, zT_V4, zT_V5, zT_V6, zT_I0, zT_I1, zT_I2, zlg, zlset, zlpr, zent, zok, va_rf, List.length_cons, List.length_nil, List.replicate, List.cons_append, List.nil_append, List.append_nil, Option.toList_some, Option.toList_none, Option.toList, Nat.reduceAdd, Nat.reduceSub, Nat.reduceLeDiff, Nat.zero_add, Nat.zero_le, true_and, and_true, Nat.le_refl, ge_iff_le, Nat.reduceEqDiff]
    exact h
  · exact h.elim
/-- Land.has -/
def zc_X1_has (a : List Value) (M : zMm) (K : zKt) : Prop := match a with
  | [.ref k, .int x, .int y] => k = 1 ∧ K (some (.int (zbI (0 ≤ x ∧ x < M.2.1 1 1 ∧ 0 ≤ y ∧ y < M.2.1 1 2)))) M
  | _ => False
theorem zm_X1_has (l : Launch) (D : va_G) (Y : Nat → ClassId) : zMt l D Y yX1_has cX1_has 3 (some .boolean) 0 0 0 0 zc_X1_has := by
  refine zflat (by decide) (fun K J _ _ => zb_X1_has_0 K J) (fun X hR => zbs_X1_has_0 hR zJ0 zJ0_ok) (fun avs M K h => ?_)
  unfold zc_X1_has at h
  split at h
  · obtain ⟨rfl, h⟩ := h
    refine ⟨by simp [zent], ?_⟩
    simp only [zb_X1_has_0, zb_X1_has_28, zb_X1_has_29, zsh_1, zT_push, zT_bin, zT_div, zT_bil, zT_shl, zT_un, zT_i2l, zT_l2i, zT_lcmp, zT_ild, zT_lld, zT_ald, zT_ist, zT_lst, zT_ast, zT_iinc, zT_dup, zT_dup2, zT_pop, zT_if1, zT_if2, zT_ifn, zT_getI, zT_getJ, zT_getR, zT_putI, zT_putZ, zT_putJ, zT_putR, zT_ald0, zT_lald, zT_aald, zT_iast, zT_zast, zT_bast, zT_last, zT_aast, zT_iret, zT_nret, zT_aret, zT_vret, zT_oi, zT_mm, zT_ialX, zT_S1, zT_S2, zT_S3, zT_V0, zT_V1, zT_V2, zT_V3, zT_V4, zT_V5, zT_V6, zT_I0, zT_I1, zT_I2, zlg, zlset, zlpr, zent, zok, va_rf, List.length_cons, List.length_nil, List.replicate, List.cons_append, List.nil_append, List.append_nil, Option.toList_some, Option.toList_none, Option.toList, Nat.reduceAdd, Nat.reduceSub, Nat.reduceLeDiff, Nat.zero_add, Nat.zero_le, true_and, and_true, Nat.le_refl, ge_iff_le, Nat.reduceEqDiff]
    refine ⟨fun h1 => ⟨rfl, ?_⟩, fun h1 => ⟨fun h2 => ⟨rfl, ?_⟩, fun h2 => ⟨fun h3 => ⟨rfl, ?_⟩, fun h3 => ⟨fun h4 => ⟨rfl, ?_⟩, fun h4 => ⟨rfl, ?_⟩⟩⟩⟩⟩
    · rw [zbI_f (fun q => Int32.not_le.mpr h1 q.1)] at h; exact h
    · rw [zbI_f (fun q => Int32.not_le.mpr q.2.1 h2)] at h; exact h
    · rw [zbI_f (fun q => Int32.not_le.mpr h3 q.2.2.1)] at h; exact h
    · rw [zbI_f (fun q => Int32.not_le.mpr q.2.2.2 h4)] at h; exact h
    · rw [zbI_t ⟨Int32.not_lt.mp h1, Int32.not_le.mp h2, Int32.not_lt.mp h3, Int32.not_le.mp h4⟩] at h; exact h
  · exact h.elim
end
section
/-! LAWS of the memory, and contracts with one loop -/
theorem zwI_L {M : zMm} {k j : Nat} {x : Int32} : (zwI M k j x).1 = M.1 := rfl
theorem zwI_I {M : zMm} {k j : Nat} {x : Int32} : (zwI M k j x).2.1 = zw2 M.2.1 k j x := rfl
theorem zwI_J {M : zMm} {k j : Nat} {x : Int32} : (zwI M k j x).2.2.1 = M.2.2.1 := rfl
theorem zwI_R {M : zMm} {k j : Nat} {x : Int32} : (zwI M k j x).2.2.2 = M.2.2.2 := rfl
theorem zwJ_L {M : zMm} {k j : Nat} {x : Int64} : (zwJ M k j x).1 = M.1 := rfl
theorem zwJ_I {M : zMm} {k j : Nat} {x : Int64} : (zwJ M k j x).2.1 = M.2.1 := rfl
theorem zwJ_J {M : zMm} {k j : Nat} {x : Int64} : (zwJ M k j x).2.2.1 = zw2 M.2.2.1 k j x := rfl
theorem zwJ_R {M : zMm} {k j : Nat} {x : Int64} : (zwJ M k j x).2.2.2 = M.2.2.2 := rfl
theorem zwR_L {M : zMm} {k j : Nat} {x : Option Nat} : (zwR M k j x).1 = M.1 := rfl
theorem zwR_I {M : zMm} {k j : Nat} {x : Option Nat} : (zwR M k j x).2.1 = M.2.1 := rfl
theorem zwR_J {M : zMm} {k j : Nat} {x : Option Nat} : (zwR M k j x).2.2.1 = M.2.2.1 := rfl
theorem zwR_R {M : zMm} {k j : Nat} {x : Option Nat} : (zwR M k j x).2.2.2 = zw2 M.2.2.2 k j x := rfl
/-- the same but for the int rows ks -/
def zsm (ks : List Nat) (M M' : zMm) : Prop := M'.1 = M.1 ∧ M'.2.2 = M.2.2 ∧ ∀ k, k ∉ ks → M'.2.1 k = M.2.1 k
theorem zsm.rf {ks : List Nat} {M : zMm} : zsm ks M M := ⟨rfl, rfl, fun _ _ => rfl⟩
theorem zsm.tr {ks : List Nat} {M M' M'' : zMm} (h : zsm ks M M') (h' : zsm ks M' M'') : zsm ks M M'' := ⟨h'.1.trans h.1, h'.2.1.trans h.2.1, fun k hk => (h'.2.2 k hk).trans (h.2.2 k hk)⟩
theorem zsm.up {ks ks' : List Nat} {M M' : zMm} (h : zsm ks M M') (hs : ∀ k ∈ ks, k ∈ ks') : zsm ks' M M' := ⟨h.1, h.2.1, fun k hk => h.2.2 k (fun q => hk (hs k q))⟩
theorem zsm.w {ks : List Nat} {M M' : zMm} {k j : Nat} {x : Int32} (h : zsm ks M M') (hk : k ∈ ks) : zsm ks M (zwI M' k j x) := ⟨h.1, h.2.1, fun k' hk' => (zw2_n (fun e => hk' (by rw [e]; exact hk))).trans (h.2.2 k' hk')⟩
theorem zsm.R {ks : List Nat} {M M' : zMm} (h : zsm ks M M') : M'.2.2.2 = M.2.2.2 := congrArg Prod.snd h.2.1
theorem zsm.J {ks : List Nat} {M M' : zMm} (h : zsm ks M M') : M'.2.2.1 = M.2.2.1 := congrArg Prod.fst h.2.1
theorem zup_at {α : Type} {f : Nat → α} {j i : Nat} {v : α} : va_up f j v i = if i = j then v else f i := rfl
/-- a contract out of a body with one head -/
theorem zwhile1 {l : Launch} {D : va_G} {Y : Nat → ClassId} {y : MethodName} {cc : ByteArray} {maxL : Nat} {ret : Option FieldType} {fr lo mc ms : Nat} {C : List Value → zMm → zKt → Prop} {h0 : Nat} (hy : plainName y.cls = true) (B : zKt → (Nat → zPP) → Nat → Nat → zPP) (BL : zKt → Nat → Nat → (Nat → zPP) → zPP)
    (hB : ∀ X : zCt, zRX X = { frames := fr, cells := mc, slots := ms, locals := lo } → ∀ J : Nat → zPP, (∀ h ∈ [h0], zSd X y.cls y.name cc maxL ret h (J h)) → zSd X y.cls y.name cc maxL ret 0 (B (zKX X) J (zlc X) (zls X)))
    (hBL : ∀ X : zCt, zRX X = { frames := fr, cells := mc, slots := ms, locals := lo } → ∀ J : Nat → zPP, (∀ h ∈ [h0], zSd X y.cls y.name cc maxL ret h (J h)) → zSd X y.cls y.name cc maxL ret h0 (BL (zKX X) (zlc X) (zls X) J))
    (h : ∀ avs M K, C avs M K → (zent avs).length ≤ maxL ∧ ∃ Inv : Nat → zPP, (∀ n (J : Nat → zPP), (∀ n' M' ls st, n' < n → Inv n' M' ls st → J h0 M' ls st) → ∀ M' ls st, Inv n M' ls st → BL K (M.1.length + mc) (zss M.1 + ms) J M' ls st) ∧
      ∀ J : Nat → zPP, (∀ n M' ls st, Inv n M' ls st → J h0 M' ls st) → B K J (M.1.length + mc) (zss M.1 + ms) M (zent avs ++ List.replicate (maxL - (zent avs).length) none) []) : zMt l D Y y cc maxL ret fr lo mc ms C := by
  refine zwhile (heads := [h0]) hy B (fun K a b J _ => BL K a b J) hB (fun X hR J hJ h hh => ?_) (fun avs M K hC => ?_)
  · simp only [List.mem_cons, List.not_mem_nil, or_false] at hh
    subst hh
    exact hBL X hR J hJ
  · obtain ⟨h1, Inv, h2, h3⟩ := h avs M K hC
    exact ⟨h1, fun n _ => Inv n, fun n J hJ _ _ M' ls st hI => h2 n J (fun n' M'' ls' st' hn hI' => hJ n' hn h0 List.mem_cons_self M'' ls' st' hI') M' ls st hI, fun J hJ => h3 J (fun n M' ls st hI => hJ n h0 List.mem_cons_self M' ls st hI)⟩
theorem zn_lt {a b : Nat} (ha : a < 2 ^ 31) (hb : b < 2 ^ 31) : (nI a < nI b) = (a < b) := propext (nI_ltI ha hb)
theorem zn_le {a b : Nat} (ha : a < 2 ^ 31) (hb : b < 2 ^ 31) : (nI a ≤ nI b) = (a ≤ b) := propext (nI_leI ha hb)
/-! Land.layOut -/
def zc_X1_layOut (a : List Value) (M : zMm) (K : zKt) : Prop := match a with
  | [.ref k, .int w, .int h] => k = 1 ∧ M.2.2.2 1 0 = some 2 ∧ ∀ M', zsm [1, 2] M M' → M'.2.1 1 1 = w → M'.2.1 1 2 = h → M'.2.1 1 3 = 0 → M'.2.1 1 4 = M.2.1 1 4 → M'.2.1 1 5 = M.2.1 1 5 → (∀ c, c < 120 → M'.2.1 2 c = 50) → K none M'
  | _ => False
theorem zm_X1_layOut (l : Launch) (D : va_G) (Y : Nat → ClassId) : zMt l D Y yX1_layOut cX1_layOut 4 none 0 0 0 0 zc_X1_layOut := by
  refine zwhile1 (h0 := 17) (by decide) (fun K J _ _ => zb_X1_layOut_0 K J) (fun K _ _ J => zb_X1_layOut_17 K J) (fun X hR J hJ => zbs_X1_layOut_0 hR J hJ) (fun X hR J hJ => zbs_X1_layOut_17 hR J hJ) (fun avs M K h => ?_)
  unfold zc_X1_layOut at h
  split at h
  · next k w h' =>
    obtain ⟨rfl, hr, h⟩ := h
    refine ⟨by simp [zent], fun n M' ls st => ∃ i, n = 120 - i ∧ i ≤ 120 ∧ ls = [some (.ref 1), some (.int w), some (.int h'), some (.int (nI i))] ∧ st = [] ∧ zsm [1, 2] M M' ∧ M'.2.1 1 1 = w ∧ M'.2.1 1 2 = h' ∧ M'.2.1 1 3 = 0 ∧ M'.2.1 1 4 = M.2.1 1 4 ∧ M'.2.1 1 5 = M.2.1 1 5 ∧ ∀ c, c < i → M'.2.1 2 c = 50, ?_, ?_⟩
    · rintro n J hJ M' ls st ⟨i, rfl, hi, rfl, rfl, hs, e1, e2, e3, e4, e5, hc⟩
      have hr' : M'.2.2.2 1 0 = some 2 := by rw [hs.R]; exact hr
      simp only [zb_X1_layOut_17, zsh_1, zsh_2, hr', zT_push, zT_bin, zT_div, zT_bil, zT_shl, zT_un, zT_i2l, zT_l2i, zT_lcmp, zT_ild, zT_lld, zT_ald, zT_ist, zT_lst, zT_ast, zT_iinc, zT_dup, zT_dup2, zT_pop, zT_if1, zT_if2, zT_ifn, zT_getI, zT_getJ, zT_getR, zT_putI, zT_putZ, zT_putJ, zT_putR, zT_ald0, zT_lald, zT_aald, zT_iast, zT_zast, zT_bast, zT_last, zT_aast, zT_iret, zT_nret, zT_aret, zT_vret, zT_oi, zT_mm, zT_ialX, zT_S1, zT_S2, zT_S3, zT_V0, zT_V1, zT_V2, zT_V3, zT_V4, zT_V5, zT_V6, zT_I0, zT_I1, zT_I2, zlg, zlset, zlpr, zent, zok, va_rf, List.length_cons, List.length_nil, List.replicate, List.cons_append, List.nil_append, List.append_nil, Option.toList_some, Option.toList_none, Option.toList, Nat.reduceAdd, Nat.reduceSub, Nat.reduceLeDiff, Nat.zero_add, Nat.zero_le, true_and, and_true, Nat.le_refl, ge_iff_le, Nat.reduceEqDiff]
      refine ⟨fun h1 => ?_, fun h1 => ?_⟩
      · have hi2 : i = 120 := by
          have := (nI_leI (a := 120) (b := i) (by decide) (by omega)).mp h1
          omega
        subst hi2
        exact h M' hs e1 e2 e3 e4 e5 hc
      · have hi2 : i < 120 := by
          rcases Nat.lt_or_ge i 120 with q | q
          · exact q
          · exact absurd (nI_le (a := 120) q (by omega)) h1
        refine ⟨vp_in_nI hi2 (by decide), hJ (120 - (i + 1)) _ _ _ (by omega) ⟨i + 1, rfl, hi2, by rw [nI_1], rfl, hs.w (by simp), ?_, ?_, ?_, ?_, ?_, ?_⟩⟩
        · simp only [zwI_L, zwI_I, zwI_J, zwI_R, zwJ_L, zwJ_I, zwJ_J, zwJ_R, zwR_L, zwR_I, zwR_J, zwR_R, zw2_s, zw2_n, ne_eq, not_false_eq_true, reduceCtorEq, not_true_eq_false, Nat.reduceEqDiff]; exact e1
        · simp only [zwI_L, zwI_I, zwI_J, zwI_R, zwJ_L, zwJ_I, zwJ_J, zwJ_R, zwR_L, zwR_I, zwR_J, zwR_R, zw2_s, zw2_n, ne_eq, not_false_eq_true, reduceCtorEq, not_true_eq_false, Nat.reduceEqDiff]; exact e2
        · simp only [zwI_L, zwI_I, zwI_J, zwI_R, zwJ_L, zwJ_I, zwJ_J, zwJ_R, zwR_L, zwR_I, zwR_J, zwR_R, zw2_s, zw2_n, ne_eq, not_false_eq_true, reduceCtorEq, not_true_eq_false, Nat.reduceEqDiff]; exact e3
        · simp only [zwI_L, zwI_I, zwI_J, zwI_R, zwJ_L, zwJ_I, zwJ_J, zwJ_R, zwR_L, zwR_I, zwR_J, zwR_R, zw2_s, zw2_n, ne_eq, not_false_eq_true, reduceCtorEq, not_true_eq_false, Nat.reduceEqDiff]; exact e4
        · simp only [zwI_L, zwI_I, zwI_J, zwI_R, zwJ_L, zwJ_I, zwJ_J, zwJ_R, zwR_L, zwR_I, zwR_J, zwR_R, zw2_s, zw2_n, ne_eq, not_false_eq_true, reduceCtorEq, not_true_eq_false, Nat.reduceEqDiff]; exact e5
        · intro c hcc
          rw [nI_clamp (by omega)]
          simp only [zwI_L, zwI_I, zwI_J, zwI_R, zwJ_L, zwJ_I, zwJ_J, zwJ_R, zwR_L, zwR_I, zwR_J, zwR_R, zw2_s, zw2_n, ne_eq, not_false_eq_true, reduceCtorEq, not_true_eq_false, Nat.reduceEqDiff, zup_at]
          split
          · rfl
          · exact hc c (by omega)
    · intro J hJ
      simp only [zb_X1_layOut_0, zsh_1, zT_push, zT_bin, zT_div, zT_bil, zT_shl, zT_un, zT_i2l, zT_l2i, zT_lcmp, zT_ild, zT_lld, zT_ald, zT_ist, zT_lst, zT_ast, zT_iinc, zT_dup, zT_dup2, zT_pop, zT_if1, zT_if2, zT_ifn, zT_getI, zT_getJ, zT_getR, zT_putI, zT_putZ, zT_putJ, zT_putR, zT_ald0, zT_lald, zT_aald, zT_iast, zT_zast, zT_bast, zT_last, zT_aast, zT_iret, zT_nret, zT_aret, zT_vret, zT_oi, zT_mm, zT_ialX, zT_S1, zT_S2, zT_S3, zT_V0, zT_V1, zT_V2, zT_V3, zT_V4, zT_V5, zT_V6, zT_I0, zT_I1, zT_I2, zlg, zlset, zlpr, zent, zok, va_rf, List.length_cons, List.length_nil, List.replicate, List.cons_append, List.nil_append, List.append_nil, Option.toList_some, Option.toList_none, Option.toList, Nat.reduceAdd, Nat.reduceSub, Nat.reduceLeDiff, Nat.zero_add, Nat.zero_le, true_and, and_true, Nat.le_refl, ge_iff_le, Nat.reduceEqDiff]
      refine hJ 120 _ _ _ ⟨0, rfl, by omega, rfl, rfl, ((zsm.rf.w (by simp)).w (by simp)).w (by simp), ?_, ?_, ?_, ?_, ?_, fun c hc => absurd hc (Nat.not_lt_zero _)⟩
      all_goals simp only [zwI_L, zwI_I, zwI_J, zwI_R, zwJ_L, zwJ_I, zwJ_J, zwJ_R, zwR_L, zwR_I, zwR_J, zwR_R, zw2_s, zw2_n, ne_eq, not_false_eq_true, reduceCtorEq, not_true_eq_false, Nat.reduceEqDiff, zup_at, Nat.reduceEqDiff, ↓reduceIte]
  · exact h.elim
end
section
/-! WATER: the small ones. Pure words: zfg (first greatest), zbf (goes ahead), zin (put into the row of wet cells) -/
def zfg (f : Nat → Int32) : Nat → Nat
  | 0 => 0
  | n + 1 => if n = 0 then 0 else if f (zfg f n) < f n then n else zfg f n
theorem zfg_le (f : Nat → Int32) : ∀ n, zfg f n ≤ n - 1
  | 0 => Nat.le_refl _
  | n + 1 => by
    have := zfg_le f n
    unfold zfg
    split
    · omega
    · split <;> omega
def zc_X5_firstGreatest (a : List Value) (M : zMm) (K : zKt) : Prop := match a with
  | [.ref k, .ref r] => k = 10 ∧ (r = 17 ∨ r = 19) ∧ ∃ n, n ≤ 4 ∧ M.2.1 10 10 = nI n ∧ K (some (.int (nI (zfg (M.2.1 r) n)))) M
  | _ => False
theorem zm_X5_firstGreatest (l : Launch) (D : va_G) (Y : Nat → ClassId) : zMt l D Y yX5_firstGreatest cX5_firstGreatest 4 (some .int) 0 0 0 0 zc_X5_firstGreatest := by
  refine zwhile1 (h0 := 4) (by decide) (fun K J _ _ => zb_X5_firstGreatest_0 K J) (fun K _ _ J => zb_X5_firstGreatest_4 K J) (fun X hR J hJ => zbs_X5_firstGreatest_0 hR J hJ) (fun X hR J hJ => zbs_X5_firstGreatest_4 hR J hJ) (fun avs M K h => ?_)
  unfold zc_X5_firstGreatest at h
  split at h
  · next k r =>
    obtain ⟨rfl, hr, n, hn, hw, h⟩ := h
    have hsh : zsh r = (0, 4, 0) := by rcases hr with rfl | rfl <;> rfl
    refine ⟨by simp [zent], fun q M' ls st => ∃ i, q = 4 - i ∧ 1 ≤ i ∧ (i ≤ n ∨ i = 1) ∧ ls = [some (.ref 10), some (.ref r), some (.int (nI (zfg (M.2.1 r) i))), some (.int (nI i))] ∧ st = [] ∧ M' = M, ?_, ?_⟩
    · rintro q J hJ M' ls st ⟨i, rfl, hi1, hi, rfl, rfl, rfl⟩
      have hlt := zfg_le (M'.2.1 r) i
      simp only [zb_X5_firstGreatest_4, zb_X5_firstGreatest_23, zsh_10, hsh, hw, zT_push, zT_bin, zT_div, zT_bil, zT_shl, zT_un, zT_i2l, zT_l2i, zT_lcmp, zT_ild, zT_lld, zT_ald, zT_ist, zT_lst, zT_ast, zT_iinc, zT_dup, zT_dup2, zT_pop, zT_if1, zT_if2, zT_ifn, zT_getI, zT_getJ, zT_getR, zT_putI, zT_putZ, zT_putJ, zT_putR, zT_ald0, zT_lald, zT_aald, zT_iast, zT_zast, zT_bast, zT_last, zT_aast, zT_iret, zT_nret, zT_aret, zT_vret, zT_oi, zT_mm, zT_ialX, zT_S1, zT_S2, zT_S3, zT_V0, zT_V1, zT_V2, zT_V3, zT_V4, zT_V5, zT_V6, zT_I0, zT_I1, zT_I2, zlg, zlset, zlpr, zent, zok, va_rf, List.length_cons, List.length_nil, List.replicate, List.cons_append, List.nil_append, List.append_nil, Option.toList_some, Option.toList_none, Option.toList, Nat.reduceAdd, Nat.reduceSub, Nat.reduceLeDiff, Nat.zero_add, Nat.zero_le, true_and, and_true, Nat.le_refl, ge_iff_le, Nat.reduceEqDiff]
      refine ⟨fun h1 => ?_, fun h1 => ?_⟩
      · have hle := (nI_leI (by omega) (by omega)).mp h1
        have e : zfg (M'.2.1 r) i = zfg (M'.2.1 r) n := by
          rcases hi with hi | hi
          · rw [Nat.le_antisymm hi hle]
          · subst hi
            rcases Nat.lt_or_ge n 1 with q | q
            · have : n = 0 := by omega
              subst this; rfl
            · have : n = 1 := by omega
              subst this; rfl
        rw [e]; exact h
      · have hlt2 : i < n := by
          rcases Nat.lt_or_ge i n with q | q
          · exact q
          · exact absurd (nI_le q (by omega)) h1
        refine ⟨vp_in_nI (by omega) (by decide), vp_in_nI (by omega) (by decide), fun h2 => ?_, fun h2 => ?_⟩
        all_goals rw [nI_clamp (by omega), nI_clamp (by omega)] at h2
        · refine hJ (4 - (i + 1)) _ _ _ (by omega) ⟨i + 1, rfl, by omega, Or.inl hlt2, ?_, rfl, rfl⟩
          rw [nI_1, zfg, if_neg (by omega), if_neg (Int32.not_lt.mpr h2)]
        · refine hJ (4 - (i + 1)) _ _ _ (by omega) ⟨i + 1, rfl, by omega, Or.inl hlt2, ?_, rfl, rfl⟩
          rw [nI_1, zfg, if_neg (by omega), if_pos (Int32.not_le.mp h2)]
    · intro J hJ
      simp only [zb_X5_firstGreatest_0, zT_push, zT_bin, zT_div, zT_bil, zT_shl, zT_un, zT_i2l, zT_l2i, zT_lcmp, zT_ild, zT_lld, zT_ald, zT_ist, zT_lst, zT_ast, zT_iinc, zT_dup, zT_dup2, zT_pop, zT_if1, zT_if2, zT_ifn, zT_getI, zT_getJ, zT_getR, zT_putI, zT_putZ, zT_putJ, zT_putR, zT_ald0, zT_lald, zT_aald, zT_iast, zT_zast, zT_bast, zT_last, zT_aast, zT_iret, zT_nret, zT_aret, zT_vret, zT_oi, zT_mm, zT_ialX, zT_S1, zT_S2, zT_S3, zT_V0, zT_V1, zT_V2, zT_V3, zT_V4, zT_V5, zT_V6, zT_I0, zT_I1, zT_I2, zlg, zlset, zlpr, zent, zok, va_rf, List.length_cons, List.length_nil, List.replicate, List.cons_append, List.nil_append, List.append_nil, Option.toList_some, Option.toList_none, Option.toList, Nat.reduceAdd, Nat.reduceSub, Nat.reduceLeDiff, Nat.zero_add, Nat.zero_le, true_and, and_true, Nat.le_refl, ge_iff_le, Nat.reduceEqDiff]
      exact hJ 3 _ _ _ ⟨1, rfl, Nat.le_refl _, Or.inr rfl, rfl, rfl, rfl⟩
  · exact h.elim
/-- a goes ahead of b -/
def zbf (f : Nat → Int32) (a b : Nat) : Prop := f b < f a ∨ (f a = f b ∧ a < b)
theorem zbf_dec (f : Nat → Int32) (a b : Nat) : (f b < f a ∨ (f a = f b ∧ a < b)) = zbf f a b := rfl
def zbb (f : Nat → Int32) (a b : Nat) : Bool := if f b < f a ∨ (f a = f b ∧ a < b) then true else false
theorem zbb_t {f : Nat → Int32} {a b : Nat} : zbb f a b = true ↔ zbf f a b := by
  unfold zbb zbf
  split <;> simp_all
def zc_X5_goesAhead (a : List Value) (M : zMm) (K : zKt) : Prop := match a with
  | [.ref k, .int x, .int y] => k = 10 ∧ M.2.2.2 10 0 = some 11 ∧ ∃ a b, x = nI a ∧ y = nI b ∧ a < 120 ∧ b < 120 ∧ K (some (.int (if zbb (M.2.1 11) a b = true then 1 else 0))) M
  | _ => False
theorem zm_X5_goesAhead (l : Launch) (D : va_G) (Y : Nat → ClassId) : zMt l D Y yX5_goesAhead cX5_goesAhead 3 (some .boolean) 0 0 0 0 zc_X5_goesAhead := by
  refine zflat (by decide) (fun K J _ _ => zb_X5_goesAhead_0 K J) (fun X hR => zbs_X5_goesAhead_0 hR zJ0 zJ0_ok) (fun avs M K h => ?_)
  unfold zc_X5_goesAhead at h
  split at h
  · obtain ⟨rfl, hr, a, b, rfl, rfl, ha, hb, h⟩ := h
    refine ⟨by simp [zent], ?_⟩
    simp only [zb_X5_goesAhead_0, zb_X5_goesAhead_35, zb_X5_goesAhead_46, zsh_10, zsh_11, hr, zT_push, zT_bin, zT_div, zT_bil, zT_shl, zT_un, zT_i2l, zT_l2i, zT_lcmp, zT_ild, zT_lld, zT_ald, zT_ist, zT_lst, zT_ast, zT_iinc, zT_dup, zT_dup2, zT_pop, zT_if1, zT_if2, zT_ifn, zT_getI, zT_getJ, zT_getR, zT_putI, zT_putZ, zT_putJ, zT_putR, zT_ald0, zT_lald, zT_aald, zT_iast, zT_zast, zT_bast, zT_last, zT_aast, zT_iret, zT_nret, zT_aret, zT_vret, zT_oi, zT_mm, zT_ialX, zT_S1, zT_S2, zT_S3, zT_V0, zT_V1, zT_V2, zT_V3, zT_V4, zT_V5, zT_V6, zT_I0, zT_I1, zT_I2, zlg, zlset, zlpr, zent, zok, va_rf, List.length_cons, List.length_nil, List.replicate, List.cons_append, List.nil_append, List.append_nil, Option.toList_some, Option.toList_none, Option.toList, Nat.reduceAdd, Nat.reduceSub, Nat.reduceLeDiff, Nat.zero_add, Nat.zero_le, true_and, and_true, Nat.le_refl, ge_iff_le, Nat.reduceEqDiff]
    rw [nI_clamp (by omega), nI_clamp (by omega)]
    simp only [zbb_t, zbf] at h
    refine ⟨vp_in_nI ha (by decide), vp_in_nI hb (by decide), fun h1 => ⟨fun h2 => ⟨rfl, ?_⟩, fun h2 => ⟨rfl, ?_⟩⟩, fun h1 => ⟨vp_in_nI ha (by decide), vp_in_nI hb (by decide), fun h2 => ⟨rfl, ?_⟩, fun h2 => ⟨rfl, ?_⟩⟩⟩
    · rw [if_neg] at h
      · exact h
      · rintro (q | q)
        · rw [h1] at q; exact Int32.lt_irrefl q
        · exact absurd h2 (by rw [nI_leI (by omega) (by omega)]; omega)
    · rw [if_pos] at h
      · exact h
      · refine Or.inr ⟨h1, ?_⟩
        rw [nI_leI (by omega) (by omega)] at h2
        omega
    · rw [if_neg] at h
      · exact h
      · rintro (q | q)
        · exact absurd q (Int32.not_lt.mpr h2)
        · exact absurd q.1 h1
    · rw [if_pos] at h
      · exact h
      · exact Or.inl (Int32.not_le.mp h2)
  · exact h.elim
/-- the wet cells: what came to each cell, the row of wet cells -/
def zwt (M : zMm) (A : Nat → Nat) (L : List Nat) : Prop := (∀ e, e < 120 → M.2.1 13 e = nI (A e)) ∧ (∀ i x, L[i]? = some x → M.2.1 15 i = nI x ∧ x < 120) ∧ M.2.1 10 5 = nI L.length ∧ L.length ≤ 120
/-- the water object's references -/
def zxw (M : zMm) : Prop := M.2.2.2 10 0 = some 11 ∧ M.2.2.2 10 1 = some 12 ∧ M.2.2.2 10 2 = some 13 ∧ M.2.2.2 10 3 = some 14 ∧ M.2.2.2 10 4 = some 15 ∧ M.2.2.2 10 6 = some 16 ∧ M.2.2.2 10 7 = some 17 ∧ M.2.2.2 10 8 = some 18 ∧ M.2.2.2 10 9 = some 19
theorem zxw.to {ks : List Nat} {M M' : zMm} (h : zxw M) (hs : zsm ks M M') : zxw M' := by
  unfold zxw
  rw [hs.R]
  exact h
def zc_X5_dryUp (a : List Value) (M : zMm) (K : zKt) : Prop := match a with
  | [.ref k] => k = 10 ∧ zxw M ∧ ∃ A L, zwt M A L ∧ ∀ M', zsm [10, 13] M M' → (∀ j, j ≠ 5 → M'.2.1 10 j = M.2.1 10 j) → M'.2.1 10 5 = 0 → (∀ e, e < 120 → M'.2.1 13 e = nI (if e ∈ L then 0 else A e)) → K none M'
  | _ => False
theorem zm_X5_dryUp (l : Launch) (D : va_G) (Y : Nat → ClassId) : zMt l D Y yX5_dryUp cX5_dryUp 2 none 0 0 0 0 zc_X5_dryUp := by
  refine zwhile1 (h0 := 2) (by decide) (fun K J _ _ => zb_X5_dryUp_0 K J) (fun K _ _ J => zb_X5_dryUp_2 K J) (fun X hR J hJ => zbs_X5_dryUp_0 hR J hJ) (fun X hR J hJ => zbs_X5_dryUp_2 hR J hJ) (fun avs M K h => ?_)
  unfold zc_X5_dryUp at h
  split at h
  · obtain ⟨rfl, hx, A, L, ⟨hA, hL, hn, hl⟩, h⟩ := h
    refine ⟨by simp [zent], fun q M' ls st => ∃ i, q = 120 - i ∧ i ≤ L.length ∧ ls = [some (.ref 10), some (.int (nI i))] ∧ st = [] ∧ zsm [13] M M' ∧ (∀ e, e < 120 → M'.2.1 13 e = nI (if e ∈ L.take i then 0 else A e)), ?_, ?_⟩
    · rintro q J hJ M' ls st ⟨i, rfl, hi, rfl, rfl, hs, hc⟩
      have h10 : M'.2.1 10 = M.2.1 10 := hs.2.2 10 (by simp)
      have h15 : M'.2.1 15 = M.2.1 15 := hs.2.2 15 (by simp)
      obtain ⟨x0, x1, x2, x3, x4, -⟩ := hx.to hs
      simp only [zb_X5_dryUp_2, zsh_10, zsh_13, zsh_15, x2, x4, h10, h15, hn, zT_push, zT_bin, zT_div, zT_bil, zT_shl, zT_un, zT_i2l, zT_l2i, zT_lcmp, zT_ild, zT_lld, zT_ald, zT_ist, zT_lst, zT_ast, zT_iinc, zT_dup, zT_dup2, zT_pop, zT_if1, zT_if2, zT_ifn, zT_getI, zT_getJ, zT_getR, zT_putI, zT_putZ, zT_putJ, zT_putR, zT_ald0, zT_lald, zT_aald, zT_iast, zT_zast, zT_bast, zT_last, zT_aast, zT_iret, zT_nret, zT_aret, zT_vret, zT_oi, zT_mm, zT_ialX, zT_S1, zT_S2, zT_S3, zT_V0, zT_V1, zT_V2, zT_V3, zT_V4, zT_V5, zT_V6, zT_I0, zT_I1, zT_I2, zlg, zlset, zlpr, zent, zok, va_rf, List.length_cons, List.length_nil, List.replicate, List.cons_append, List.nil_append, List.append_nil, Option.toList_some, Option.toList_none, Option.toList, Nat.reduceAdd, Nat.reduceSub, Nat.reduceLeDiff, Nat.zero_add, Nat.zero_le, true_and, and_true, Nat.le_refl, ge_iff_le, Nat.reduceEqDiff]
      have hend : i = L.length → zb_X5_dryUp_34 K J M' [some (.ref 10), some (.int (nI i))] [] := by
        intro e
        subst e
        simp only [zb_X5_dryUp_34, zsh_10, zT_push, zT_bin, zT_div, zT_bil, zT_shl, zT_un, zT_i2l, zT_l2i, zT_lcmp, zT_ild, zT_lld, zT_ald, zT_ist, zT_lst, zT_ast, zT_iinc, zT_dup, zT_dup2, zT_pop, zT_if1, zT_if2, zT_ifn, zT_getI, zT_getJ, zT_getR, zT_putI, zT_putZ, zT_putJ, zT_putR, zT_ald0, zT_lald, zT_aald, zT_iast, zT_zast, zT_bast, zT_last, zT_aast, zT_iret, zT_nret, zT_aret, zT_vret, zT_oi, zT_mm, zT_ialX, zT_S1, zT_S2, zT_S3, zT_V0, zT_V1, zT_V2, zT_V3, zT_V4, zT_V5, zT_V6, zT_I0, zT_I1, zT_I2, zlg, zlset, zlpr, zent, zok, va_rf, List.length_cons, List.length_nil, List.replicate, List.cons_append, List.nil_append, List.append_nil, Option.toList_some, Option.toList_none, Option.toList, Nat.reduceAdd, Nat.reduceSub, Nat.reduceLeDiff, Nat.zero_add, Nat.zero_le, true_and, and_true, Nat.le_refl, ge_iff_le, Nat.reduceEqDiff]
        refine h _ ((hs.up (by simp)).w (by simp)) (fun j hj => ?_) ?_ (fun e he => ?_)
        · simp only [zwI_L, zwI_I, zwI_J, zwI_R, zwJ_L, zwJ_I, zwJ_J, zwJ_R, zwR_L, zwR_I, zwR_J, zwR_R, zw2_s, zw2_n, ne_eq, not_false_eq_true, reduceCtorEq, not_true_eq_false, Nat.reduceEqDiff]; rw [zup_n hj, h10]
        · simp only [zwI_L, zwI_I, zwI_J, zwI_R, zwJ_L, zwJ_I, zwJ_J, zwJ_R, zwR_L, zwR_I, zwR_J, zwR_R, zw2_s, zw2_n, ne_eq, not_false_eq_true, reduceCtorEq, not_true_eq_false, Nat.reduceEqDiff, zup_s]
        · simp only [zwI_L, zwI_I, zwI_J, zwI_R, zwJ_L, zwJ_I, zwJ_J, zwJ_R, zwR_L, zwR_I, zwR_J, zwR_R, zw2_s, zw2_n, ne_eq, not_false_eq_true, reduceCtorEq, not_true_eq_false, Nat.reduceEqDiff]; rw [hc e he, List.take_length]
      refine ⟨fun h1 => ?_, fun h1 => ⟨fun h2 => ?_, fun h2 => ?_⟩⟩
      · have := (nI_leI (by omega) (by omega)).mp h1
        exact hend (by omega)
      · have := (nI_leI (a := 120) (by omega) (by omega)).mp h2
        exact hend (by omega)
      · have hlt : i < L.length := by
          rcases Nat.lt_or_ge i L.length with q | q
          · exact q
          · exact absurd (nI_le q (by omega)) h1
        have hg : L[i]? = some L[i] := List.getElem?_eq_getElem hlt
        obtain ⟨g1, g2⟩ := hL i _ hg
        rw [nI_clamp (by omega), g1]
        refine ⟨vp_in_nI (by omega) (by decide), vp_in_nI g2 (by decide), hJ (120 - (i + 1)) _ _ _ (by omega) ⟨i + 1, rfl, hlt, by rw [nI_1], rfl, hs.w (by simp), fun e he => ?_⟩⟩
        rw [nI_clamp (by omega)]
        simp only [zwI_L, zwI_I, zwI_J, zwI_R, zwJ_L, zwJ_I, zwJ_J, zwJ_R, zwR_L, zwR_I, zwR_J, zwR_R, zw2_s, zw2_n, ne_eq, not_false_eq_true, reduceCtorEq, not_true_eq_false, Nat.reduceEqDiff, zup_at]
        rw [List.take_succ, hg]
        by_cases e1 : e = L[i]
        · rw [if_pos e1, if_pos (List.mem_append_right _ (by rw [e1]; exact List.mem_cons_self))]
          rfl
        · rw [if_neg e1, hc e he]
          have : (e ∈ List.take i L ++ (some L[i]).toList) ↔ e ∈ List.take i L := by simp only [List.mem_append, Option.toList, List.mem_cons, List.not_mem_nil, or_false, e1]
          simp only [this]
    · intro J hJ
      simp only [zb_X5_dryUp_0, zT_push, zT_bin, zT_div, zT_bil, zT_shl, zT_un, zT_i2l, zT_l2i, zT_lcmp, zT_ild, zT_lld, zT_ald, zT_ist, zT_lst, zT_ast, zT_iinc, zT_dup, zT_dup2, zT_pop, zT_if1, zT_if2, zT_ifn, zT_getI, zT_getJ, zT_getR, zT_putI, zT_putZ, zT_putJ, zT_putR, zT_ald0, zT_lald, zT_aald, zT_iast, zT_zast, zT_bast, zT_last, zT_aast, zT_iret, zT_nret, zT_aret, zT_vret, zT_oi, zT_mm, zT_ialX, zT_S1, zT_S2, zT_S3, zT_V0, zT_V1, zT_V2, zT_V3, zT_V4, zT_V5, zT_V6, zT_I0, zT_I1, zT_I2, zlg, zlset, zlpr, zent, zok, va_rf, List.length_cons, List.length_nil, List.replicate, List.cons_append, List.nil_append, List.append_nil, Option.toList_some, Option.toList_none, Option.toList, Nat.reduceAdd, Nat.reduceSub, Nat.reduceLeDiff, Nat.zero_add, Nat.zero_le, true_and, and_true, Nat.le_refl, ge_iff_le, Nat.reduceEqDiff]
      exact hJ 120 _ _ _ ⟨0, rfl, Nat.zero_le _, rfl, rfl, zsm.rf, fun e he => by rw [hA e he]; simp⟩
  · exact h.elim
end
section
/-! PURE WORDS: counts, sums -/
def wct (p : Nat → Bool) : Nat → Nat
  | 0 => 0
  | n + 1 => wct p n + (if p n = true then 1 else 0)
def wsm (g : Nat → Nat) : Nat → Nat
  | 0 => 0
  | n + 1 => wsm g n + g n
theorem wct_le (p : Nat → Bool) : ∀ n, wct p n ≤ n
  | 0 => Nat.le_refl _
  | n + 1 => by
    have := wct_le p n
    unfold wct
    split <;> omega
theorem wct_mono {p q : Nat → Bool} : ∀ {n : Nat}, (∀ i, i < n → p i = true → q i = true) → wct p n ≤ wct q n
  | 0, _ => Nat.le_refl _
  | n + 1, h => by
    have ih := wct_mono (p := p) (q := q) (n := n) (fun i hi => h i (by omega))
    have := h n (by omega)
    unfold wct
    split
    · next hp => rw [if_pos (this hp)]; omega
    · omega
theorem wct_strict {p q : Nat → Bool} : ∀ {n : Nat}, (∀ i, i < n → p i = true → q i = true) → ∀ {j : Nat}, j < n → p j = false → q j = true → wct p n < wct q n
  | 0, _, j, hj, _, _ => absurd hj (Nat.not_lt_zero _)
  | n + 1, h, j, hj, h1, h2 => by
    have hm := wct_mono (p := p) (q := q) (n := n) (fun i hi => h i (by omega))
    unfold wct
    by_cases e : j = n
    · subst e
      rw [h1, h2]
      simp
      omega
    · have ih := wct_strict (p := p) (q := q) (n := n) (fun i hi => h i (by omega)) (j := j) (by omega) h1 h2
      have := h n (by omega)
      split
      · next hp => rw [if_pos (this hp)]; omega
      · omega
theorem wct_congr {p q : Nat → Bool} {n : Nat} (h : ∀ i, i < n → p i = q i) : wct p n = wct q n := Nat.le_antisymm (wct_mono fun i hi hp => by rw [← h i hi]; exact hp) (wct_mono fun i hi hp => by rw [h i hi]; exact hp)
theorem wct_all {p : Nat → Bool} : ∀ {n : Nat}, (∀ i, i < n → p i = true) → wct p n = n
  | 0, _ => rfl
  | n + 1, h => by
    unfold wct
    rw [wct_all (n := n) (fun i hi => h i (by omega)), if_pos (h n (by omega))]
theorem wct_ex {p : Nat → Bool} {n : Nat} (h : wct p n < n) : ∃ i, i < n ∧ p i = false := by
  rcases Classical.em (∃ i, i < n ∧ p i = false) with q | q
  · exact q
  · have := wct_all (p := p) (n := n) (fun i hi => by
      cases hp : p i with
      | true => rfl
      | false => exact absurd ⟨i, hi, hp⟩ q)
    omega
/-- one more is picked -/
theorem wct_up {p q : Nat → Bool} : ∀ {n g : Nat}, g < n → p g = false → (∀ i, i < n → q i = (if i = g then true else p i)) → wct q n = wct p n + 1
  | 0, g, hg, _, _ => absurd hg (Nat.not_lt_zero _)
  | n + 1, g, hg, hp, h => by
    unfold wct
    by_cases e : g = n
    · subst e
      have e1 : wct q g = wct p g := wct_congr fun i hi => by rw [h i (by omega), if_neg (by omega)]
      rw [e1, h g (by omega), if_pos rfl, hp]
      simp
    · have ih := wct_up (p := p) (q := q) (n := n) (g := g) (by omega) hp (fun i hi => h i (by omega))
      have e2 : q n = p n := by rw [h n (by omega), if_neg (fun z => e z.symm)]
      rw [ih, e2]
      omega
theorem wsm_congr {f g : Nat → Nat} : ∀ {n : Nat}, (∀ i, i < n → f i = g i) → wsm f n = wsm g n
  | 0, _ => rfl
  | n + 1, h => by
    unfold wsm
    rw [wsm_congr (n := n) (fun i hi => h i (by omega)), h n (by omega)]
theorem wsm_le {f g : Nat → Nat} : ∀ {n : Nat}, (∀ i, i < n → f i ≤ g i) → wsm f n ≤ wsm g n
  | 0, _ => Nat.le_refl _
  | n + 1, h => by
    have := wsm_le (f := f) (g := g) (n := n) (fun i hi => h i (by omega))
    have := h n (by omega)
    unfold wsm
    omega
theorem wsm_mem {f : Nat → Nat} : ∀ {n i : Nat}, i < n → f i ≤ wsm f n
  | 0, i, h => absurd h (Nat.not_lt_zero _)
  | n + 1, i, h => by
    unfold wsm
    by_cases e : i = n
    · subst e; omega
    · have := wsm_mem (f := f) (n := n) (i := i) (by omega)
      omega
theorem wsm_add {f g : Nat → Nat} : ∀ {n : Nat}, wsm (fun i => f i + g i) n = wsm f n + wsm g n
  | 0 => rfl
  | n + 1 => by
    unfold wsm
    rw [wsm_add (n := n)]
    omega
theorem wsm_mul {f : Nat → Nat} {c : Nat} : ∀ {n : Nat}, wsm (fun i => c * f i) n = c * wsm f n
  | 0 => rfl
  | n + 1 => by
    unfold wsm
    rw [wsm_mul (n := n), Nat.mul_add]
theorem wsm_const {c : Nat} : ∀ {n : Nat}, wsm (fun _ => c) n = n * c
  | 0 => by simp [wsm]
  | n + 1 => by
    unfold wsm
    rw [wsm_const (n := n), Nat.succ_mul]
/-- what division leaves of a sum: less than one for each part -/
theorem wsm_div {f : Nat → Nat} {c : Nat} {n : Nat} {D : Nat} (hD : 0 < D) : D * wsm (fun i => c * f i / D) n + wsm (fun i => c * f i % D) n = c * wsm f n := by
  rw [← wsm_mul, ← wsm_mul, ← wsm_add]
  exact wsm_congr fun i _ => Nat.div_add_mod _ _
theorem wsm_mod {f : Nat → Nat} {D : Nat} (hD : 0 < D) : ∀ {n : Nat}, 0 < n → wsm (fun i => f i % D) n < n * D
  | 0, h => absurd h (Nat.lt_irrefl _)
  | n + 1, _ => by
    unfold wsm
    have h1 := Nat.mod_lt (f n) hD
    rcases Nat.eq_zero_or_pos n with e | e
    · subst e
      simp only [wsm]
      omega
    · have := wsm_mod (f := f) hD (n := n) e
      rw [Nat.succ_mul]
      omega
/-- the share by drops: fewer are left over than there are ways -/
theorem wsm_left {r : Nat → Nat} {f n : Nat} (hn : 0 < n) (hD : 0 < wsm r n) : wsm (fun i => f * r i / wsm r n) n ≤ f ∧ f - wsm (fun i => f * r i / wsm r n) n < n := by
  have h1 := wsm_div (f := r) (c := f) (n := n) hD
  have h2 := wsm_mod (f := fun i => f * r i) hD hn
  generalize wsm r n = D at *
  generalize wsm (fun i => f * r i / D) n = B at *
  generalize wsm (fun i => f * r i % D) n = E at *
  have h3 : D * B ≤ D * f := by
    rw [Nat.mul_comm D f]
    omega
  have h4 : B ≤ f := Nat.le_of_mul_le_mul_left h3 hD
  refine ⟨h4, ?_⟩
  rcases Nat.lt_or_ge (f - B) n with q | q
  · exact q
  · have h5 : n * D ≤ (f - B) * D := Nat.mul_le_mul_right D q
    have h6 : (f - B) * D + B * D = f * D := by rw [← Nat.add_mul, Nat.sub_add_cancel h4]
    rw [Nat.mul_comm B D] at h6
    omega
end
section
/-! DeltaRuns$Water shareToLowest -/
theorem zd_X5_shareToLowest_0 : decode cX5_shareToLowest 0 = .ok (.aload_n 0, 1) := by decide +kernel
theorem zd_X5_shareToLowest_1 : decode cX5_shareToLowest 1 = .ok (.aload_n 0, 1) := by decide +kernel
theorem zd_X5_shareToLowest_2 : decode cX5_shareToLowest 2 = .ok (.getfield 31, 3) := by decide +kernel
theorem zd_X5_shareToLowest_5 : decode cX5_shareToLowest 5 = .ok (.invokevirtual 102, 3) := by decide +kernel
theorem zd_X5_shareToLowest_8 : decode cX5_shareToLowest 8 = .ok (.istore_n 2, 1) := by decide +kernel
theorem zd_X5_shareToLowest_9 : decode cX5_shareToLowest 9 = .ok (.iconst 0, 1) := by decide +kernel
theorem zd_X5_shareToLowest_10 : decode cX5_shareToLowest 10 = .ok (.istore_n 3, 1) := by decide +kernel
theorem zd_X5_shareToLowest_11 : decode cX5_shareToLowest 11 = .ok (.iload_n 3, 1) := by decide +kernel
theorem zd_X5_shareToLowest_12 : decode cX5_shareToLowest 12 = .ok (.aload_n 0, 1) := by decide +kernel
theorem zd_X5_shareToLowest_13 : decode cX5_shareToLowest 13 = .ok (.getfield 76, 3) := by decide +kernel
theorem zd_X5_shareToLowest_16 : decode cX5_shareToLowest 16 = .ok (.if_icmp .ge 25, 3) := by decide +kernel
theorem zd_X5_shareToLowest_19 : decode cX5_shareToLowest 19 = .ok (.aload_n 0, 1) := by decide +kernel
theorem zd_X5_shareToLowest_20 : decode cX5_shareToLowest 20 = .ok (.getfield 34, 3) := by decide +kernel
theorem zd_X5_shareToLowest_23 : decode cX5_shareToLowest 23 = .ok (.iload_n 3, 1) := by decide +kernel
theorem zd_X5_shareToLowest_24 : decode cX5_shareToLowest 24 = .ok (.iload_n 3, 1) := by decide +kernel
theorem zd_X5_shareToLowest_25 : decode cX5_shareToLowest 25 = .ok (.iload_n 2, 1) := by decide +kernel
theorem zd_X5_shareToLowest_26 : decode cX5_shareToLowest 26 = .ok (.if_icmp .ne 7, 3) := by decide +kernel
theorem zd_X5_shareToLowest_29 : decode cX5_shareToLowest 29 = .ok (.iload_n 1, 1) := by decide +kernel
theorem zd_X5_shareToLowest_30 : decode cX5_shareToLowest 30 = .ok (.goto 4, 3) := by decide +kernel
theorem zd_X5_shareToLowest_33 : decode cX5_shareToLowest 33 = .ok (.iconst 0, 1) := by decide +kernel
theorem zd_X5_shareToLowest_34 : decode cX5_shareToLowest 34 = .ok (.iastore, 1) := by decide +kernel
theorem zd_X5_shareToLowest_35 : decode cX5_shareToLowest 35 = .ok (.iinc 3 1, 3) := by decide +kernel
theorem zd_X5_shareToLowest_38 : decode cX5_shareToLowest 38 = .ok (.goto (-27), 3) := by decide +kernel
theorem zd_X5_shareToLowest_41 : decode cX5_shareToLowest 41 = .ok (.return_, 1) := by decide +kernel
def zb_X5_shareToLowest_0 (K : zKt) (J : Nat → zPP) : zPP := zT_ald 0 (zT_ald 0 (zT_getR 5 7 11 (zT_V1 zok 5 11 zc_X5_firstGreatest (zT_ist 2 (zT_push (.int 0) (zT_ist 3 (J 11)))))))
theorem zbs_X5_shareToLowest_0 {X : zCt} (hR : zRX X = { frames := 1, cells := 0, slots := 0, locals := 23 }) (J : Nat → zPP) (hJ : ∀ h ∈ ([11] : List Nat), zSd X RX5 "shareToLowest" cX5_shareToLowest 4 none h (J h)) : zSd X RX5 "shareToLowest" cX5_shareToLowest 4 none 0 (zb_X5_shareToLowest_0 (zKX X) J) := zs_aload_n zd_X5_shareToLowest_0 rfl (zs_aload_n zd_X5_shareToLowest_1 rfl (zs_getR (ci := 5) (j := 7) (T := TX5) rfl inX5 (by decide) gw_1_123 rfl zd_X5_shareToLowest_2 (zs_V (ci := 5) rfl rfl (zm_X5_firstGreatest _ _ _) gw_3_6 gw_3_3 gw_3_5 gw_0_18 gw_1_5 zdn_X5_firstGreatest (zrm hR (by decide) (by decide)) zd_X5_shareToLowest_5 (zCl_V1 zok_l) (zs_istore_n zd_X5_shareToLowest_8 rfl (by decide) (zs_iconst zd_X5_shareToLowest_9 (by decide) (zs_istore_n zd_X5_shareToLowest_10 rfl (by decide) (hJ 11 (by decide))))))))
def zb_X5_shareToLowest_34 (K : zKt) (J : Nat → zPP) : zPP := zT_iast (zT_iinc 3 1 (J 11))
theorem zbs_X5_shareToLowest_34 {X : zCt} (hR : zRX X = { frames := 1, cells := 0, slots := 0, locals := 23 }) (J : Nat → zPP) (hJ : ∀ h ∈ ([11] : List Nat), zSd X RX5 "shareToLowest" cX5_shareToLowest 4 none h (J h)) : zSd X RX5 "shareToLowest" cX5_shareToLowest 4 none 34 (zb_X5_shareToLowest_34 (zKX X) J) := zs_iast zd_X5_shareToLowest_34 (zs_iinc zd_X5_shareToLowest_35 (by decide) (by decide) (zs_goto (tgt := 11) zd_X5_shareToLowest_38 (by decide) (hJ 11 (by decide))))
def zb_X5_shareToLowest_11 (K : zKt) (J : Nat → zPP) : zPP := zT_ild 3 (zT_ald 0 (zT_getI 5 10 11 (zT_if2 (fun x y => y ≤ x) (zT_vret K) (zT_ald 0 (zT_getR 5 8 11 (zT_ild 3 (zT_ild 3 (zT_ild 2 (zT_if2 (fun x y => x = y) (zT_ild 1 (zb_X5_shareToLowest_34 K J)) (zT_push (.int 0) (zb_X5_shareToLowest_34 K J)))))))))))
theorem zbs_X5_shareToLowest_11 {X : zCt} (hR : zRX X = { frames := 1, cells := 0, slots := 0, locals := 23 }) (J : Nat → zPP) (hJ : ∀ h ∈ ([11] : List Nat), zSd X RX5 "shareToLowest" cX5_shareToLowest 4 none h (J h)) : zSd X RX5 "shareToLowest" cX5_shareToLowest 4 none 11 (zb_X5_shareToLowest_11 (zKX X) J) := zs_iload_n zd_X5_shareToLowest_11 rfl (zs_aload_n zd_X5_shareToLowest_12 rfl (zs_getI (ci := 5) (j := 10) (T := TX5) rfl inX5 (by decide) gw_1_126 rfl zd_X5_shareToLowest_13 (zs_icmp_ge (tgt := 41) zd_X5_shareToLowest_16 (by decide) (zs_vret rfl zd_X5_shareToLowest_41) (zs_aload_n zd_X5_shareToLowest_19 rfl (zs_getR (ci := 5) (j := 8) (T := TX5) rfl inX5 (by decide) gw_1_124 rfl zd_X5_shareToLowest_20 (zs_iload_n zd_X5_shareToLowest_23 rfl (zs_iload_n zd_X5_shareToLowest_24 rfl (zs_iload_n zd_X5_shareToLowest_25 rfl (zs_icmp_ne (tgt := 33) zd_X5_shareToLowest_26 (by decide) (zs_iconst zd_X5_shareToLowest_33 (by decide) (zbs_X5_shareToLowest_34 hR J hJ)) (zs_iload_n zd_X5_shareToLowest_29 rfl (zs_goto (tgt := 34) zd_X5_shareToLowest_30 (by decide) (zbs_X5_shareToLowest_34 hR J hJ))))))))))))
def zB_X5_shareToLowest (K : zKt) (J : Nat → zPP) (h : Nat) : zPP := if h = 11 then zb_X5_shareToLowest_11 K J else (fun _ _ _ => False)
theorem zBs_X5_shareToLowest {X : zCt} (hR : zRX X = { frames := 1, cells := 0, slots := 0, locals := 23 }) : ∀ J : Nat → zPP, (∀ h ∈ ([11] : List Nat), zSd X RX5 "shareToLowest" cX5_shareToLowest 4 none h (J h)) → ∀ h ∈ ([11] : List Nat), zSd X RX5 "shareToLowest" cX5_shareToLowest 4 none h (zB_X5_shareToLowest (zKX X) J h) := by
  intro J hJ h hh
  unfold zB_X5_shareToLowest
  simp only [List.mem_cons, List.not_mem_nil, or_false] at hh
  subst hh
  exact zbs_X5_shareToLowest_11 hR J hJ
theorem zdn_X5_shareToLowest : yX5_shareToLowest.cls ≠ "java/lang/invoke/MethodHandle" ∧ yX5_shareToLowest.cls ≠ "java/lang/invoke/VarHandle" ∧ (parseMethodDescriptor yX5_shareToLowest.desc).map (fun d => d.parameters.length) = some 1 := by decide +kernel
/-! DeltaRuns$Water shareByDrops -/
theorem zd_X5_shareByDrops_0 : decode cX5_shareByDrops 0 = .ok (.iconst 0, 1) := by decide +kernel
theorem zd_X5_shareByDrops_1 : decode cX5_shareByDrops 1 = .ok (.istore_n 2, 1) := by decide +kernel
theorem zd_X5_shareByDrops_2 : decode cX5_shareByDrops 2 = .ok (.iconst 0, 1) := by decide +kernel
theorem zd_X5_shareByDrops_3 : decode cX5_shareByDrops 3 = .ok (.istore_n 3, 1) := by decide +kernel
theorem zd_X5_shareByDrops_4 : decode cX5_shareByDrops 4 = .ok (.iload_n 3, 1) := by decide +kernel
theorem zd_X5_shareByDrops_5 : decode cX5_shareByDrops 5 = .ok (.aload_n 0, 1) := by decide +kernel
theorem zd_X5_shareByDrops_6 : decode cX5_shareByDrops 6 = .ok (.getfield 76, 3) := by decide +kernel
theorem zd_X5_shareByDrops_9 : decode cX5_shareByDrops 9 = .ok (.if_icmp .ge 18, 3) := by decide +kernel
theorem zd_X5_shareByDrops_12 : decode cX5_shareByDrops 12 = .ok (.iload_n 2, 1) := by decide +kernel
theorem zd_X5_shareByDrops_13 : decode cX5_shareByDrops 13 = .ok (.aload_n 0, 1) := by decide +kernel
theorem zd_X5_shareByDrops_14 : decode cX5_shareByDrops 14 = .ok (.getfield 31, 3) := by decide +kernel
theorem zd_X5_shareByDrops_17 : decode cX5_shareByDrops 17 = .ok (.iload_n 3, 1) := by decide +kernel
theorem zd_X5_shareByDrops_18 : decode cX5_shareByDrops 18 = .ok (.iaload, 1) := by decide +kernel
theorem zd_X5_shareByDrops_19 : decode cX5_shareByDrops 19 = .ok (.iadd, 1) := by decide +kernel
theorem zd_X5_shareByDrops_20 : decode cX5_shareByDrops 20 = .ok (.istore_n 2, 1) := by decide +kernel
theorem zd_X5_shareByDrops_21 : decode cX5_shareByDrops 21 = .ok (.iinc 3 1, 3) := by decide +kernel
theorem zd_X5_shareByDrops_24 : decode cX5_shareByDrops 24 = .ok (.goto (-20), 3) := by decide +kernel
theorem zd_X5_shareByDrops_27 : decode cX5_shareByDrops 27 = .ok (.iload_n 2, 1) := by decide +kernel
theorem zd_X5_shareByDrops_28 : decode cX5_shareByDrops 28 = .ok (.ifCond .gt 4, 3) := by decide +kernel
theorem zd_X5_shareByDrops_31 : decode cX5_shareByDrops 31 = .ok (.return_, 1) := by decide +kernel
theorem zd_X5_shareByDrops_32 : decode cX5_shareByDrops 32 = .ok (.iload_n 1, 1) := by decide +kernel
theorem zd_X5_shareByDrops_33 : decode cX5_shareByDrops 33 = .ok (.istore_n 3, 1) := by decide +kernel
theorem zd_X5_shareByDrops_34 : decode cX5_shareByDrops 34 = .ok (.iconst 0, 1) := by decide +kernel
theorem zd_X5_shareByDrops_35 : decode cX5_shareByDrops 35 = .ok (.istore 4, 2) := by decide +kernel
theorem zd_X5_shareByDrops_37 : decode cX5_shareByDrops 37 = .ok (.iload 4, 2) := by decide +kernel
theorem zd_X5_shareByDrops_39 : decode cX5_shareByDrops 39 = .ok (.aload_n 0, 1) := by decide +kernel
theorem zd_X5_shareByDrops_40 : decode cX5_shareByDrops 40 = .ok (.getfield 76, 3) := by decide +kernel
theorem zd_X5_shareByDrops_43 : decode cX5_shareByDrops 43 = .ok (.if_icmp .ge 55, 3) := by decide +kernel
theorem zd_X5_shareByDrops_46 : decode cX5_shareByDrops 46 = .ok (.aload_n 0, 1) := by decide +kernel
theorem zd_X5_shareByDrops_47 : decode cX5_shareByDrops 47 = .ok (.getfield 34, 3) := by decide +kernel
theorem zd_X5_shareByDrops_50 : decode cX5_shareByDrops 50 = .ok (.iload 4, 2) := by decide +kernel
theorem zd_X5_shareByDrops_52 : decode cX5_shareByDrops 52 = .ok (.iload_n 1, 1) := by decide +kernel
theorem zd_X5_shareByDrops_53 : decode cX5_shareByDrops 53 = .ok (.aload_n 0, 1) := by decide +kernel
theorem zd_X5_shareByDrops_54 : decode cX5_shareByDrops 54 = .ok (.getfield 31, 3) := by decide +kernel
theorem zd_X5_shareByDrops_57 : decode cX5_shareByDrops 57 = .ok (.iload 4, 2) := by decide +kernel
theorem zd_X5_shareByDrops_59 : decode cX5_shareByDrops 59 = .ok (.iaload, 1) := by decide +kernel
theorem zd_X5_shareByDrops_60 : decode cX5_shareByDrops 60 = .ok (.imul, 1) := by decide +kernel
theorem zd_X5_shareByDrops_61 : decode cX5_shareByDrops 61 = .ok (.iload_n 2, 1) := by decide +kernel
theorem zd_X5_shareByDrops_62 : decode cX5_shareByDrops 62 = .ok (.idiv, 1) := by decide +kernel
theorem zd_X5_shareByDrops_63 : decode cX5_shareByDrops 63 = .ok (.iastore, 1) := by decide +kernel
theorem zd_X5_shareByDrops_64 : decode cX5_shareByDrops 64 = .ok (.aload_n 0, 1) := by decide +kernel
theorem zd_X5_shareByDrops_65 : decode cX5_shareByDrops 65 = .ok (.getfield 37, 3) := by decide +kernel
theorem zd_X5_shareByDrops_68 : decode cX5_shareByDrops 68 = .ok (.iload 4, 2) := by decide +kernel
theorem zd_X5_shareByDrops_70 : decode cX5_shareByDrops 70 = .ok (.iload_n 1, 1) := by decide +kernel
theorem zd_X5_shareByDrops_71 : decode cX5_shareByDrops 71 = .ok (.aload_n 0, 1) := by decide +kernel
theorem zd_X5_shareByDrops_72 : decode cX5_shareByDrops 72 = .ok (.getfield 31, 3) := by decide +kernel
theorem zd_X5_shareByDrops_75 : decode cX5_shareByDrops 75 = .ok (.iload 4, 2) := by decide +kernel
theorem zd_X5_shareByDrops_77 : decode cX5_shareByDrops 77 = .ok (.iaload, 1) := by decide +kernel
theorem zd_X5_shareByDrops_78 : decode cX5_shareByDrops 78 = .ok (.imul, 1) := by decide +kernel
theorem zd_X5_shareByDrops_79 : decode cX5_shareByDrops 79 = .ok (.iload_n 2, 1) := by decide +kernel
theorem zd_X5_shareByDrops_80 : decode cX5_shareByDrops 80 = .ok (.irem, 1) := by decide +kernel
theorem zd_X5_shareByDrops_81 : decode cX5_shareByDrops 81 = .ok (.iastore, 1) := by decide +kernel
theorem zd_X5_shareByDrops_82 : decode cX5_shareByDrops 82 = .ok (.iload_n 3, 1) := by decide +kernel
theorem zd_X5_shareByDrops_83 : decode cX5_shareByDrops 83 = .ok (.aload_n 0, 1) := by decide +kernel
theorem zd_X5_shareByDrops_84 : decode cX5_shareByDrops 84 = .ok (.getfield 34, 3) := by decide +kernel
theorem zd_X5_shareByDrops_87 : decode cX5_shareByDrops 87 = .ok (.iload 4, 2) := by decide +kernel
theorem zd_X5_shareByDrops_89 : decode cX5_shareByDrops 89 = .ok (.iaload, 1) := by decide +kernel
theorem zd_X5_shareByDrops_90 : decode cX5_shareByDrops 90 = .ok (.isub, 1) := by decide +kernel
theorem zd_X5_shareByDrops_91 : decode cX5_shareByDrops 91 = .ok (.istore_n 3, 1) := by decide +kernel
theorem zd_X5_shareByDrops_92 : decode cX5_shareByDrops 92 = .ok (.iinc 4 1, 3) := by decide +kernel
theorem zd_X5_shareByDrops_95 : decode cX5_shareByDrops 95 = .ok (.goto (-58), 3) := by decide +kernel
theorem zd_X5_shareByDrops_98 : decode cX5_shareByDrops 98 = .ok (.iconst 0, 1) := by decide +kernel
theorem zd_X5_shareByDrops_99 : decode cX5_shareByDrops 99 = .ok (.istore 4, 2) := by decide +kernel
theorem zd_X5_shareByDrops_101 : decode cX5_shareByDrops 101 = .ok (.iload 4, 2) := by decide +kernel
theorem zd_X5_shareByDrops_103 : decode cX5_shareByDrops 103 = .ok (.iload_n 3, 1) := by decide +kernel
theorem zd_X5_shareByDrops_104 : decode cX5_shareByDrops 104 = .ok (.if_icmp .ge 38, 3) := by decide +kernel
theorem zd_X5_shareByDrops_107 : decode cX5_shareByDrops 107 = .ok (.aload_n 0, 1) := by decide +kernel
theorem zd_X5_shareByDrops_108 : decode cX5_shareByDrops 108 = .ok (.aload_n 0, 1) := by decide +kernel
theorem zd_X5_shareByDrops_109 : decode cX5_shareByDrops 109 = .ok (.getfield 37, 3) := by decide +kernel
theorem zd_X5_shareByDrops_112 : decode cX5_shareByDrops 112 = .ok (.invokevirtual 102, 3) := by decide +kernel
theorem zd_X5_shareByDrops_115 : decode cX5_shareByDrops 115 = .ok (.istore 5, 2) := by decide +kernel
theorem zd_X5_shareByDrops_117 : decode cX5_shareByDrops 117 = .ok (.aload_n 0, 1) := by decide +kernel
theorem zd_X5_shareByDrops_118 : decode cX5_shareByDrops 118 = .ok (.getfield 34, 3) := by decide +kernel
theorem zd_X5_shareByDrops_121 : decode cX5_shareByDrops 121 = .ok (.iload 5, 2) := by decide +kernel
theorem zd_X5_shareByDrops_123 : decode cX5_shareByDrops 123 = .ok (.dup2, 1) := by decide +kernel
theorem zd_X5_shareByDrops_124 : decode cX5_shareByDrops 124 = .ok (.iaload, 1) := by decide +kernel
theorem zd_X5_shareByDrops_125 : decode cX5_shareByDrops 125 = .ok (.iconst 1, 1) := by decide +kernel
theorem zd_X5_shareByDrops_126 : decode cX5_shareByDrops 126 = .ok (.iadd, 1) := by decide +kernel
theorem zd_X5_shareByDrops_127 : decode cX5_shareByDrops 127 = .ok (.iastore, 1) := by decide +kernel
theorem zd_X5_shareByDrops_128 : decode cX5_shareByDrops 128 = .ok (.aload_n 0, 1) := by decide +kernel
theorem zd_X5_shareByDrops_129 : decode cX5_shareByDrops 129 = .ok (.getfield 37, 3) := by decide +kernel
theorem zd_X5_shareByDrops_132 : decode cX5_shareByDrops 132 = .ok (.iload 5, 2) := by decide +kernel
theorem zd_X5_shareByDrops_134 : decode cX5_shareByDrops 134 = .ok (.iconst (-1), 1) := by decide +kernel
theorem zd_X5_shareByDrops_135 : decode cX5_shareByDrops 135 = .ok (.iastore, 1) := by decide +kernel
theorem zd_X5_shareByDrops_136 : decode cX5_shareByDrops 136 = .ok (.iinc 4 1, 3) := by decide +kernel
theorem zd_X5_shareByDrops_139 : decode cX5_shareByDrops 139 = .ok (.goto (-38), 3) := by decide +kernel
theorem zd_X5_shareByDrops_142 : decode cX5_shareByDrops 142 = .ok (.return_, 1) := by decide +kernel
def zb_X5_shareByDrops_0 (K : zKt) (J : Nat → zPP) : zPP := zT_push (.int 0) (zT_ist 2 (zT_push (.int 0) (zT_ist 3 (J 4))))
theorem zbs_X5_shareByDrops_0 {X : zCt} (hR : zRX X = { frames := 1, cells := 0, slots := 0, locals := 23 }) (J : Nat → zPP) (hJ : ∀ h ∈ ([4, 37, 101] : List Nat), zSd X RX5 "shareByDrops" cX5_shareByDrops 6 none h (J h)) : zSd X RX5 "shareByDrops" cX5_shareByDrops 6 none 0 (zb_X5_shareByDrops_0 (zKX X) J) := zs_iconst zd_X5_shareByDrops_0 (by decide) (zs_istore_n zd_X5_shareByDrops_1 rfl (by decide) (zs_iconst zd_X5_shareByDrops_2 (by decide) (zs_istore_n zd_X5_shareByDrops_3 rfl (by decide) (hJ 4 (by decide)))))
def zb_X5_shareByDrops_4 (K : zKt) (J : Nat → zPP) : zPP := zT_ild 3 (zT_ald 0 (zT_getI 5 10 11 (zT_if2 (fun x y => y ≤ x) (zT_ild 2 (zT_if1 (fun x => 0 < x) (zT_ild 1 (zT_ist 3 (zT_push (.int 0) (zT_ist 4 (J 37))))) (zT_vret K))) (zT_ild 2 (zT_ald 0 (zT_getR 5 7 11 (zT_ild 3 (zT_ald0 0 (zT_bin (fun x y => x + y) (zT_ist 2 (zT_iinc 3 1 (J 4))))))))))))
theorem zbs_X5_shareByDrops_4 {X : zCt} (hR : zRX X = { frames := 1, cells := 0, slots := 0, locals := 23 }) (J : Nat → zPP) (hJ : ∀ h ∈ ([4, 37, 101] : List Nat), zSd X RX5 "shareByDrops" cX5_shareByDrops 6 none h (J h)) : zSd X RX5 "shareByDrops" cX5_shareByDrops 6 none 4 (zb_X5_shareByDrops_4 (zKX X) J) := zs_iload_n zd_X5_shareByDrops_4 rfl (zs_aload_n zd_X5_shareByDrops_5 rfl (zs_getI (ci := 5) (j := 10) (T := TX5) rfl inX5 (by decide) gw_1_126 rfl zd_X5_shareByDrops_6 (zs_icmp_ge (tgt := 27) zd_X5_shareByDrops_9 (by decide) (zs_iload_n zd_X5_shareByDrops_27 rfl (zs_if_gt (tgt := 32) zd_X5_shareByDrops_28 (by decide) (zs_iload_n zd_X5_shareByDrops_32 rfl (zs_istore_n zd_X5_shareByDrops_33 rfl (by decide) (zs_iconst zd_X5_shareByDrops_34 (by decide) (zs_istore zd_X5_shareByDrops_35 (by decide) (hJ 37 (by decide)))))) (zs_vret rfl zd_X5_shareByDrops_31))) (zs_iload_n zd_X5_shareByDrops_12 rfl (zs_aload_n zd_X5_shareByDrops_13 rfl (zs_getR (ci := 5) (j := 7) (T := TX5) rfl inX5 (by decide) gw_1_123 rfl zd_X5_shareByDrops_14 (zs_iload_n zd_X5_shareByDrops_17 rfl (zs_iald zd_X5_shareByDrops_18 (zs_iadd zd_X5_shareByDrops_19 (zs_istore_n zd_X5_shareByDrops_20 rfl (by decide) (zs_iinc zd_X5_shareByDrops_21 (by decide) (by decide) (zs_goto (tgt := 4) zd_X5_shareByDrops_24 (by decide) (hJ 4 (by decide))))))))))))))
def zb_X5_shareByDrops_37 (K : zKt) (J : Nat → zPP) : zPP := zT_ild 4 (zT_ald 0 (zT_getI 5 10 11 (zT_if2 (fun x y => y ≤ x) (zT_push (.int 0) (zT_ist 4 (J 101))) (zT_ald 0 (zT_getR 5 8 11 (zT_ild 4 (zT_ild 1 (zT_ald 0 (zT_getR 5 7 11 (zT_ild 4 (zT_ald0 0 (zT_bin (fun x y => x * y) (zT_ild 2 (zT_div (fun x y => x / y) (zT_iast (zT_ald 0 (zT_getR 5 9 11 (zT_ild 4 (zT_ild 1 (zT_ald 0 (zT_getR 5 7 11 (zT_ild 4 (zT_ald0 0 (zT_bin (fun x y => x * y) (zT_ild 2 (zT_div (fun x y => x - x / y * y) (zT_iast (zT_ild 3 (zT_ald 0 (zT_getR 5 8 11 (zT_ild 4 (zT_ald0 0 (zT_bin (fun x y => x - y) (zT_ist 3 (zT_iinc 4 1 (J 37))))))))))))))))))))))))))))))))))))
theorem zbs_X5_shareByDrops_37 {X : zCt} (hR : zRX X = { frames := 1, cells := 0, slots := 0, locals := 23 }) (J : Nat → zPP) (hJ : ∀ h ∈ ([4, 37, 101] : List Nat), zSd X RX5 "shareByDrops" cX5_shareByDrops 6 none h (J h)) : zSd X RX5 "shareByDrops" cX5_shareByDrops 6 none 37 (zb_X5_shareByDrops_37 (zKX X) J) := zs_iload zd_X5_shareByDrops_37 (zs_aload_n zd_X5_shareByDrops_39 rfl (zs_getI (ci := 5) (j := 10) (T := TX5) rfl inX5 (by decide) gw_1_126 rfl zd_X5_shareByDrops_40 (zs_icmp_ge (tgt := 98) zd_X5_shareByDrops_43 (by decide) (zs_iconst zd_X5_shareByDrops_98 (by decide) (zs_istore zd_X5_shareByDrops_99 (by decide) (hJ 101 (by decide)))) (zs_aload_n zd_X5_shareByDrops_46 rfl (zs_getR (ci := 5) (j := 8) (T := TX5) rfl inX5 (by decide) gw_1_124 rfl zd_X5_shareByDrops_47 (zs_iload zd_X5_shareByDrops_50 (zs_iload_n zd_X5_shareByDrops_52 rfl (zs_aload_n zd_X5_shareByDrops_53 rfl (zs_getR (ci := 5) (j := 7) (T := TX5) rfl inX5 (by decide) gw_1_123 rfl zd_X5_shareByDrops_54 (zs_iload zd_X5_shareByDrops_57 (zs_iald zd_X5_shareByDrops_59 (zs_imul zd_X5_shareByDrops_60 (zs_iload_n zd_X5_shareByDrops_61 rfl (zs_idiv zd_X5_shareByDrops_62 (zs_iast zd_X5_shareByDrops_63 (zs_aload_n zd_X5_shareByDrops_64 rfl (zs_getR (ci := 5) (j := 9) (T := TX5) rfl inX5 (by decide) gw_1_125 rfl zd_X5_shareByDrops_65 (zs_iload zd_X5_shareByDrops_68 (zs_iload_n zd_X5_shareByDrops_70 rfl (zs_aload_n zd_X5_shareByDrops_71 rfl (zs_getR (ci := 5) (j := 7) (T := TX5) rfl inX5 (by decide) gw_1_123 rfl zd_X5_shareByDrops_72 (zs_iload zd_X5_shareByDrops_75 (zs_iald zd_X5_shareByDrops_77 (zs_imul zd_X5_shareByDrops_78 (zs_iload_n zd_X5_shareByDrops_79 rfl (zs_irem zd_X5_shareByDrops_80 (zs_iast zd_X5_shareByDrops_81 (zs_iload_n zd_X5_shareByDrops_82 rfl (zs_aload_n zd_X5_shareByDrops_83 rfl (zs_getR (ci := 5) (j := 8) (T := TX5) rfl inX5 (by decide) gw_1_124 rfl zd_X5_shareByDrops_84 (zs_iload zd_X5_shareByDrops_87 (zs_iald zd_X5_shareByDrops_89 (zs_isub zd_X5_shareByDrops_90 (zs_istore_n zd_X5_shareByDrops_91 rfl (by decide) (zs_iinc zd_X5_shareByDrops_92 (by decide) (by decide) (zs_goto (tgt := 37) zd_X5_shareByDrops_95 (by decide) (hJ 37 (by decide))))))))))))))))))))))))))))))))))))))
def zb_X5_shareByDrops_101 (K : zKt) (J : Nat → zPP) : zPP := zT_ild 4 (zT_ild 3 (zT_if2 (fun x y => y ≤ x) (zT_vret K) (zT_ald 0 (zT_ald 0 (zT_getR 5 9 11 (zT_V1 zok 5 11 zc_X5_firstGreatest (zT_ist 5 (zT_ald 0 (zT_getR 5 8 11 (zT_ild 5 (zT_dup2 (zT_ald0 0 (zT_push (.int 1) (zT_bin (fun x y => x + y) (zT_iast (zT_ald 0 (zT_getR 5 9 11 (zT_ild 5 (zT_push (.int (-1)) (zT_iast (zT_iinc 4 1 (J 101))))))))))))))))))))))
theorem zbs_X5_shareByDrops_101 {X : zCt} (hR : zRX X = { frames := 1, cells := 0, slots := 0, locals := 23 }) (J : Nat → zPP) (hJ : ∀ h ∈ ([4, 37, 101] : List Nat), zSd X RX5 "shareByDrops" cX5_shareByDrops 6 none h (J h)) : zSd X RX5 "shareByDrops" cX5_shareByDrops 6 none 101 (zb_X5_shareByDrops_101 (zKX X) J) := zs_iload zd_X5_shareByDrops_101 (zs_iload_n zd_X5_shareByDrops_103 rfl (zs_icmp_ge (tgt := 142) zd_X5_shareByDrops_104 (by decide) (zs_vret rfl zd_X5_shareByDrops_142) (zs_aload_n zd_X5_shareByDrops_107 rfl (zs_aload_n zd_X5_shareByDrops_108 rfl (zs_getR (ci := 5) (j := 9) (T := TX5) rfl inX5 (by decide) gw_1_125 rfl zd_X5_shareByDrops_109 (zs_V (ci := 5) rfl rfl (zm_X5_firstGreatest _ _ _) gw_3_6 gw_3_3 gw_3_5 gw_0_18 gw_1_5 zdn_X5_firstGreatest (zrm hR (by decide) (by decide)) zd_X5_shareByDrops_112 (zCl_V1 zok_l) (zs_istore zd_X5_shareByDrops_115 (by decide) (zs_aload_n zd_X5_shareByDrops_117 rfl (zs_getR (ci := 5) (j := 8) (T := TX5) rfl inX5 (by decide) gw_1_124 rfl zd_X5_shareByDrops_118 (zs_iload zd_X5_shareByDrops_121 (zs_dup2 zd_X5_shareByDrops_123 (zs_iald zd_X5_shareByDrops_124 (zs_iconst zd_X5_shareByDrops_125 (by decide) (zs_iadd zd_X5_shareByDrops_126 (zs_iast zd_X5_shareByDrops_127 (zs_aload_n zd_X5_shareByDrops_128 rfl (zs_getR (ci := 5) (j := 9) (T := TX5) rfl inX5 (by decide) gw_1_125 rfl zd_X5_shareByDrops_129 (zs_iload zd_X5_shareByDrops_132 (zs_iconst zd_X5_shareByDrops_134 (by decide) (zs_iast zd_X5_shareByDrops_135 (zs_iinc zd_X5_shareByDrops_136 (by decide) (by decide) (zs_goto (tgt := 101) zd_X5_shareByDrops_139 (by decide) (hJ 101 (by decide))))))))))))))))))))))))
def zB_X5_shareByDrops (K : zKt) (J : Nat → zPP) (h : Nat) : zPP := if h = 4 then zb_X5_shareByDrops_4 K J else if h = 37 then zb_X5_shareByDrops_37 K J else if h = 101 then zb_X5_shareByDrops_101 K J else (fun _ _ _ => False)
theorem zBs_X5_shareByDrops {X : zCt} (hR : zRX X = { frames := 1, cells := 0, slots := 0, locals := 23 }) : ∀ J : Nat → zPP, (∀ h ∈ ([4, 37, 101] : List Nat), zSd X RX5 "shareByDrops" cX5_shareByDrops 6 none h (J h)) → ∀ h ∈ ([4, 37, 101] : List Nat), zSd X RX5 "shareByDrops" cX5_shareByDrops 6 none h (zB_X5_shareByDrops (zKX X) J h) := by
  intro J hJ h hh
  unfold zB_X5_shareByDrops
  simp only [List.mem_cons, List.not_mem_nil, or_false] at hh
  rcases hh with rfl | rfl | rfl
  · exact zbs_X5_shareByDrops_4 hR J hJ
  · exact zbs_X5_shareByDrops_37 hR J hJ
  · exact zbs_X5_shareByDrops_101 hR J hJ
theorem zdn_X5_shareByDrops : yX5_shareByDrops.cls ≠ "java/lang/invoke/MethodHandle" ∧ yX5_shareByDrops.cls ≠ "java/lang/invoke/VarHandle" ∧ (parseMethodDescriptor yX5_shareByDrops.desc).map (fun d => d.parameters.length) = some 1 := by decide +kernel
/-! DeltaRuns$Water pour -/
theorem zd_X5_pour_0 : decode cX5_pour 0 = .ok (.iload_n 2, 1) := by decide +kernel
theorem zd_X5_pour_1 : decode cX5_pour 1 = .ok (.ifCond .le 83, 3) := by decide +kernel
theorem zd_X5_pour_4 : decode cX5_pour 4 = .ok (.aload_n 0, 1) := by decide +kernel
theorem zd_X5_pour_5 : decode cX5_pour 5 = .ok (.getfield 19, 3) := by decide +kernel
theorem zd_X5_pour_8 : decode cX5_pour 8 = .ok (.iload_n 1, 1) := by decide +kernel
theorem zd_X5_pour_9 : decode cX5_pour 9 = .ok (.iaload, 1) := by decide +kernel
theorem zd_X5_pour_10 : decode cX5_pour 10 = .ok (.ifCond .ne 74, 3) := by decide +kernel
theorem zd_X5_pour_13 : decode cX5_pour 13 = .ok (.aload_n 0, 1) := by decide +kernel
theorem zd_X5_pour_14 : decode cX5_pour 14 = .ok (.getfield 56, 3) := by decide +kernel
theorem zd_X5_pour_17 : decode cX5_pour 17 = .ok (.bipush 120, 2) := by decide +kernel
theorem zd_X5_pour_19 : decode cX5_pour 19 = .ok (.if_icmp .ge 65, 3) := by decide +kernel
theorem zd_X5_pour_22 : decode cX5_pour 22 = .ok (.aload_n 0, 1) := by decide +kernel
theorem zd_X5_pour_23 : decode cX5_pour 23 = .ok (.getfield 56, 3) := by decide +kernel
theorem zd_X5_pour_26 : decode cX5_pour 26 = .ok (.istore_n 3, 1) := by decide +kernel
theorem zd_X5_pour_27 : decode cX5_pour 27 = .ok (.iload_n 3, 1) := by decide +kernel
theorem zd_X5_pour_28 : decode cX5_pour 28 = .ok (.ifCond .le 39, 3) := by decide +kernel
theorem zd_X5_pour_31 : decode cX5_pour 31 = .ok (.aload_n 0, 1) := by decide +kernel
theorem zd_X5_pour_32 : decode cX5_pour 32 = .ok (.iload_n 1, 1) := by decide +kernel
theorem zd_X5_pour_33 : decode cX5_pour 33 = .ok (.aload_n 0, 1) := by decide +kernel
theorem zd_X5_pour_34 : decode cX5_pour 34 = .ok (.getfield 25, 3) := by decide +kernel
theorem zd_X5_pour_37 : decode cX5_pour 37 = .ok (.iload_n 3, 1) := by decide +kernel
theorem zd_X5_pour_38 : decode cX5_pour 38 = .ok (.iconst 1, 1) := by decide +kernel
theorem zd_X5_pour_39 : decode cX5_pour 39 = .ok (.isub, 1) := by decide +kernel
theorem zd_X5_pour_40 : decode cX5_pour 40 = .ok (.iaload, 1) := by decide +kernel
theorem zd_X5_pour_41 : decode cX5_pour 41 = .ok (.invokevirtual 106, 3) := by decide +kernel
theorem zd_X5_pour_44 : decode cX5_pour 44 = .ok (.ifCond .eq 23, 3) := by decide +kernel
theorem zd_X5_pour_47 : decode cX5_pour 47 = .ok (.aload_n 0, 1) := by decide +kernel
theorem zd_X5_pour_48 : decode cX5_pour 48 = .ok (.getfield 25, 3) := by decide +kernel
theorem zd_X5_pour_51 : decode cX5_pour 51 = .ok (.iload_n 3, 1) := by decide +kernel
theorem zd_X5_pour_52 : decode cX5_pour 52 = .ok (.aload_n 0, 1) := by decide +kernel
theorem zd_X5_pour_53 : decode cX5_pour 53 = .ok (.getfield 25, 3) := by decide +kernel
theorem zd_X5_pour_56 : decode cX5_pour 56 = .ok (.iload_n 3, 1) := by decide +kernel
theorem zd_X5_pour_57 : decode cX5_pour 57 = .ok (.iconst 1, 1) := by decide +kernel
theorem zd_X5_pour_58 : decode cX5_pour 58 = .ok (.isub, 1) := by decide +kernel
theorem zd_X5_pour_59 : decode cX5_pour 59 = .ok (.iaload, 1) := by decide +kernel
theorem zd_X5_pour_60 : decode cX5_pour 60 = .ok (.iastore, 1) := by decide +kernel
theorem zd_X5_pour_61 : decode cX5_pour 61 = .ok (.iinc 3 (-1), 3) := by decide +kernel
theorem zd_X5_pour_64 : decode cX5_pour 64 = .ok (.goto (-37), 3) := by decide +kernel
theorem zd_X5_pour_67 : decode cX5_pour 67 = .ok (.aload_n 0, 1) := by decide +kernel
theorem zd_X5_pour_68 : decode cX5_pour 68 = .ok (.getfield 25, 3) := by decide +kernel
theorem zd_X5_pour_71 : decode cX5_pour 71 = .ok (.iload_n 3, 1) := by decide +kernel
theorem zd_X5_pour_72 : decode cX5_pour 72 = .ok (.iload_n 1, 1) := by decide +kernel
theorem zd_X5_pour_73 : decode cX5_pour 73 = .ok (.iastore, 1) := by decide +kernel
theorem zd_X5_pour_74 : decode cX5_pour 74 = .ok (.aload_n 0, 1) := by decide +kernel
theorem zd_X5_pour_75 : decode cX5_pour 75 = .ok (.dup, 1) := by decide +kernel
theorem zd_X5_pour_76 : decode cX5_pour 76 = .ok (.getfield 56, 3) := by decide +kernel
theorem zd_X5_pour_79 : decode cX5_pour 79 = .ok (.iconst 1, 1) := by decide +kernel
theorem zd_X5_pour_80 : decode cX5_pour 80 = .ok (.iadd, 1) := by decide +kernel
theorem zd_X5_pour_81 : decode cX5_pour 81 = .ok (.putfield 56, 3) := by decide +kernel
theorem zd_X5_pour_84 : decode cX5_pour 84 = .ok (.aload_n 0, 1) := by decide +kernel
theorem zd_X5_pour_85 : decode cX5_pour 85 = .ok (.getfield 19, 3) := by decide +kernel
theorem zd_X5_pour_88 : decode cX5_pour 88 = .ok (.iload_n 1, 1) := by decide +kernel
theorem zd_X5_pour_89 : decode cX5_pour 89 = .ok (.dup2, 1) := by decide +kernel
theorem zd_X5_pour_90 : decode cX5_pour 90 = .ok (.iaload, 1) := by decide +kernel
theorem zd_X5_pour_91 : decode cX5_pour 91 = .ok (.iload_n 2, 1) := by decide +kernel
theorem zd_X5_pour_92 : decode cX5_pour 92 = .ok (.iadd, 1) := by decide +kernel
theorem zd_X5_pour_93 : decode cX5_pour 93 = .ok (.iastore, 1) := by decide +kernel
theorem zd_X5_pour_94 : decode cX5_pour 94 = .ok (.return_, 1) := by decide +kernel
def zb_X5_pour_84 (K : zKt) (J : Nat → zPP) : zPP := zT_ald 0 (zT_getR 5 2 11 (zT_ild 1 (zT_dup2 (zT_ald0 0 (zT_ild 2 (zT_bin (fun x y => x + y) (zT_iast (zT_vret K))))))))
theorem zbs_X5_pour_84 {X : zCt} (hR : zRX X = { frames := 1, cells := 0, slots := 0, locals := 22 }) (J : Nat → zPP) (hJ : ∀ h ∈ ([27] : List Nat), zSd X RX5 "pour" cX5_pour 4 none h (J h)) : zSd X RX5 "pour" cX5_pour 4 none 84 (zb_X5_pour_84 (zKX X) J) := zs_aload_n zd_X5_pour_84 rfl (zs_getR (ci := 5) (j := 2) (T := TX5) rfl inX5 (by decide) gw_1_117 rfl zd_X5_pour_85 (zs_iload_n zd_X5_pour_88 rfl (zs_dup2 zd_X5_pour_89 (zs_iald zd_X5_pour_90 (zs_iload_n zd_X5_pour_91 rfl (zs_iadd zd_X5_pour_92 (zs_iast zd_X5_pour_93 (zs_vret rfl zd_X5_pour_94))))))))
def zb_X5_pour_0 (K : zKt) (J : Nat → zPP) : zPP := zT_ild 2 (zT_if1 (fun x => x ≤ 0) (zb_X5_pour_84 K J) (zT_ald 0 (zT_getR 5 2 11 (zT_ild 1 (zT_ald0 0 (zT_if1 (fun x => x = 0) (zT_ald 0 (zT_getI 5 5 11 (zT_push (.int 120) (zT_if2 (fun x y => y ≤ x) (zb_X5_pour_84 K J) (zT_ald 0 (zT_getI 5 5 11 (zT_ist 3 (J 27)))))))) (zb_X5_pour_84 K J)))))))
theorem zbs_X5_pour_0 {X : zCt} (hR : zRX X = { frames := 1, cells := 0, slots := 0, locals := 22 }) (J : Nat → zPP) (hJ : ∀ h ∈ ([27] : List Nat), zSd X RX5 "pour" cX5_pour 4 none h (J h)) : zSd X RX5 "pour" cX5_pour 4 none 0 (zb_X5_pour_0 (zKX X) J) := zs_iload_n zd_X5_pour_0 rfl (zs_if_le (tgt := 84) zd_X5_pour_1 (by decide) (zbs_X5_pour_84 hR J hJ) (zs_aload_n zd_X5_pour_4 rfl (zs_getR (ci := 5) (j := 2) (T := TX5) rfl inX5 (by decide) gw_1_117 rfl zd_X5_pour_5 (zs_iload_n zd_X5_pour_8 rfl (zs_iald zd_X5_pour_9 (zs_if_ne (tgt := 84) zd_X5_pour_10 (by decide) (zbs_X5_pour_84 hR J hJ) (zs_aload_n zd_X5_pour_13 rfl (zs_getI (ci := 5) (j := 5) (T := TX5) rfl inX5 (by decide) gw_1_121 rfl zd_X5_pour_14 (zs_bipush zd_X5_pour_17 (by decide) (zs_icmp_ge (tgt := 84) zd_X5_pour_19 (by decide) (zbs_X5_pour_84 hR J hJ) (zs_aload_n zd_X5_pour_22 rfl (zs_getI (ci := 5) (j := 5) (T := TX5) rfl inX5 (by decide) gw_1_121 rfl zd_X5_pour_23 (zs_istore_n zd_X5_pour_26 rfl (by decide) (hJ 27 (by decide)))))))))))))))
def zb_X5_pour_67 (K : zKt) (J : Nat → zPP) : zPP := zT_ald 0 (zT_getR 5 4 11 (zT_ild 3 (zT_ild 1 (zT_iast (zT_ald 0 (zT_dup (zT_getI 5 5 11 (zT_push (.int 1) (zT_bin (fun x y => x + y) (zT_putI 5 5 11 (zb_X5_pour_84 K J)))))))))))
theorem zbs_X5_pour_67 {X : zCt} (hR : zRX X = { frames := 1, cells := 0, slots := 0, locals := 22 }) (J : Nat → zPP) (hJ : ∀ h ∈ ([27] : List Nat), zSd X RX5 "pour" cX5_pour 4 none h (J h)) : zSd X RX5 "pour" cX5_pour 4 none 67 (zb_X5_pour_67 (zKX X) J) := zs_aload_n zd_X5_pour_67 rfl (zs_getR (ci := 5) (j := 4) (T := TX5) rfl inX5 (by decide) gw_1_120 rfl zd_X5_pour_68 (zs_iload_n zd_X5_pour_71 rfl (zs_iload_n zd_X5_pour_72 rfl (zs_iast zd_X5_pour_73 (zs_aload_n zd_X5_pour_74 rfl (zs_dup zd_X5_pour_75 (zs_getI (ci := 5) (j := 5) (T := TX5) rfl inX5 (by decide) gw_1_121 rfl zd_X5_pour_76 (zs_iconst zd_X5_pour_79 (by decide) (zs_iadd zd_X5_pour_80 (zs_putI (ci := 5) (j := 5) (T := TX5) rfl inX5 tyX5_ok nmX5 (by decide) gw_1_121 rfl rfl rfl zd_X5_pour_81 (zbs_X5_pour_84 hR J hJ)))))))))))
def zb_X5_pour_27 (K : zKt) (J : Nat → zPP) : zPP := zT_ild 3 (zT_if1 (fun x => x ≤ 0) (zb_X5_pour_67 K J) (zT_ald 0 (zT_ild 1 (zT_ald 0 (zT_getR 5 4 11 (zT_ild 3 (zT_push (.int 1) (zT_bin (fun x y => x - y) (zT_ald0 0 (zT_V2 zok 5 11 zc_X5_goesAhead (zT_if1 (fun x => x = 0) (zb_X5_pour_67 K J) (zT_ald 0 (zT_getR 5 4 11 (zT_ild 3 (zT_ald 0 (zT_getR 5 4 11 (zT_ild 3 (zT_push (.int 1) (zT_bin (fun x y => x - y) (zT_ald0 0 (zT_iast (zT_iinc 3 (-1) (J 27)))))))))))))))))))))))
theorem zbs_X5_pour_27 {X : zCt} (hR : zRX X = { frames := 1, cells := 0, slots := 0, locals := 22 }) (J : Nat → zPP) (hJ : ∀ h ∈ ([27] : List Nat), zSd X RX5 "pour" cX5_pour 4 none h (J h)) : zSd X RX5 "pour" cX5_pour 4 none 27 (zb_X5_pour_27 (zKX X) J) := zs_iload_n zd_X5_pour_27 rfl (zs_if_le (tgt := 67) zd_X5_pour_28 (by decide) (zbs_X5_pour_67 hR J hJ) (zs_aload_n zd_X5_pour_31 rfl (zs_iload_n zd_X5_pour_32 rfl (zs_aload_n zd_X5_pour_33 rfl (zs_getR (ci := 5) (j := 4) (T := TX5) rfl inX5 (by decide) gw_1_120 rfl zd_X5_pour_34 (zs_iload_n zd_X5_pour_37 rfl (zs_iconst zd_X5_pour_38 (by decide) (zs_isub zd_X5_pour_39 (zs_iald zd_X5_pour_40 (zs_V (ci := 5) rfl rfl (zm_X5_goesAhead _ _ _) gw_2_224 gw_2_221 gw_2_223 gw_0_14 gw_1_5 zdn_X5_goesAhead (zrm hR (by decide) (by decide)) zd_X5_pour_41 (zCl_V2 zok_l) (zs_if_eq (tgt := 67) zd_X5_pour_44 (by decide) (zbs_X5_pour_67 hR J hJ) (zs_aload_n zd_X5_pour_47 rfl (zs_getR (ci := 5) (j := 4) (T := TX5) rfl inX5 (by decide) gw_1_120 rfl zd_X5_pour_48 (zs_iload_n zd_X5_pour_51 rfl (zs_aload_n zd_X5_pour_52 rfl (zs_getR (ci := 5) (j := 4) (T := TX5) rfl inX5 (by decide) gw_1_120 rfl zd_X5_pour_53 (zs_iload_n zd_X5_pour_56 rfl (zs_iconst zd_X5_pour_57 (by decide) (zs_isub zd_X5_pour_58 (zs_iald zd_X5_pour_59 (zs_iast zd_X5_pour_60 (zs_iinc zd_X5_pour_61 (by decide) (by decide) (zs_goto (tgt := 27) zd_X5_pour_64 (by decide) (hJ 27 (by decide)))))))))))))))))))))))))
def zB_X5_pour (K : zKt) (J : Nat → zPP) (h : Nat) : zPP := if h = 27 then zb_X5_pour_27 K J else (fun _ _ _ => False)
theorem zBs_X5_pour {X : zCt} (hR : zRX X = { frames := 1, cells := 0, slots := 0, locals := 22 }) : ∀ J : Nat → zPP, (∀ h ∈ ([27] : List Nat), zSd X RX5 "pour" cX5_pour 4 none h (J h)) → ∀ h ∈ ([27] : List Nat), zSd X RX5 "pour" cX5_pour 4 none h (zB_X5_pour (zKX X) J h) := by
  intro J hJ h hh
  unfold zB_X5_pour
  simp only [List.mem_cons, List.not_mem_nil, or_false] at hh
  subst hh
  exact zbs_X5_pour_27 hR J hJ
theorem zdn_X5_pour : yX5_pour.cls ≠ "java/lang/invoke/MethodHandle" ∧ yX5_pour.cls ≠ "java/lang/invoke/VarHandle" ∧ (parseMethodDescriptor yX5_pour.desc).map (fun d => d.parameters.length) = some 2 := by decide +kernel
/-! WATER: the three ways to share -/
theorem zn_ge {a b : Nat} (h : ¬ nI b ≤ nI a) (ha : a < 2 ^ 31) (hb : b < 2 ^ 31) : a < b := by
  rcases Nat.lt_or_ge a b with q | q
  · exact q
  · exact absurd (nI_le q ha) h
theorem zn_ge' {a b : Nat} (h : nI b ≤ nI a) (ha : a < 2 ^ 31) (hb : b < 2 ^ 31) : b ≤ a := (nI_leI hb ha).mp h
def zc_X5_shareToLowest (a : List Value) (M : zMm) (K : zKt) : Prop := match a with
  | [.ref k, .int x] => k = 10 ∧ zxw M ∧ ∃ n, n ≤ 4 ∧ M.2.1 10 10 = nI n ∧ ∀ M', zsm [18] M M' → (∀ i, i < n → M'.2.1 18 i = if i = zfg (M.2.1 17) n then x else 0) → K none M'
  | _ => False
theorem zm_X5_shareToLowest (l : Launch) (D : va_G) (Y : Nat → ClassId) : zMt l D Y yX5_shareToLowest cX5_shareToLowest 4 none 1 23 0 0 zc_X5_shareToLowest := by
  refine zwhile1 (h0 := 11) (by decide) (fun K J _ _ => zb_X5_shareToLowest_0 K J) (fun K _ _ J => zb_X5_shareToLowest_11 K J) (fun X hR J hJ => zbs_X5_shareToLowest_0 hR J hJ) (fun X hR J hJ => zbs_X5_shareToLowest_11 hR J hJ) (fun avs M K h => ?_)
  unfold zc_X5_shareToLowest at h
  split at h
  · next k x =>
    obtain ⟨rfl, hx, n, hn, hw, h⟩ := h
    have hfg := zfg_le (M.2.1 17) n
    refine ⟨by simp [zent], fun q M' ls st => ∃ i, q = 4 - i ∧ i ≤ n ∧ ls = [some (.ref 10), some (.int x), some (.int (nI (zfg (M.2.1 17) n))), some (.int (nI i))] ∧ st = [] ∧ zsm [18] M M' ∧ (∀ j, j < i → M'.2.1 18 j = if j = zfg (M.2.1 17) n then x else 0), ?_, ?_⟩
    · rintro q J hJ M' ls st ⟨i, rfl, hi, rfl, rfl, hs, hc⟩
      have h10 : M'.2.1 10 = M.2.1 10 := hs.2.2 10 (by simp)
      obtain ⟨x0, x1, x2, x3, x4, x5, x6, x7, x8⟩ := hx.to hs
      simp only [zb_X5_shareToLowest_11, zsh_10, x7, h10, hw, zT_push, zT_bin, zT_div, zT_bil, zT_shl, zT_un, zT_i2l, zT_l2i, zT_lcmp, zT_ild, zT_lld, zT_ald, zT_ist, zT_lst, zT_ast, zT_iinc, zT_dup, zT_dup2, zT_pop, zT_if1, zT_if2, zT_ifn, zT_getI, zT_getJ, zT_getR, zT_putI, zT_putZ, zT_putJ, zT_putR, zT_ald0, zT_lald, zT_aald, zT_iast, zT_zast, zT_bast, zT_last, zT_aast, zT_iret, zT_nret, zT_aret, zT_vret, zT_oi, zT_mm, zT_ialX, zT_S1, zT_S2, zT_S3, zT_V0, zT_V1, zT_V2, zT_V3, zT_V4, zT_V5, zT_V6, zT_I0, zT_I1, zT_I2, zlg, zlset, zlpr, zent, zok, va_rf, List.length_cons, List.length_nil, List.replicate, List.cons_append, List.nil_append, List.append_nil, Option.toList_some, Option.toList_none, Option.toList, Nat.reduceAdd, Nat.reduceSub, Nat.reduceLeDiff, Nat.zero_add, Nat.zero_le, true_and, and_true, Nat.le_refl, ge_iff_le, Nat.reduceEqDiff]
      refine ⟨fun h1 => ?_, fun h1 => ?_⟩
      · have := zn_ge' h1 (by omega) (by omega)
        have e : i = n := by omega
        subst e
        exact h M' hs hc
      · have hlt := zn_ge h1 (by omega) (by omega)
        have key : ∀ v, v = (if i = zfg (M.2.1 17) n then x else 0) → zb_X5_shareToLowest_34 K J M' [some (.ref 10), some (.int x), some (.int (nI (zfg (M.2.1 17) n))), some (.int (nI i))] [.int v, .int (nI i), .ref 18] := by
          intro v hv
          simp only [zb_X5_shareToLowest_34, zsh_18, zT_push, zT_bin, zT_div, zT_bil, zT_shl, zT_un, zT_i2l, zT_l2i, zT_lcmp, zT_ild, zT_lld, zT_ald, zT_ist, zT_lst, zT_ast, zT_iinc, zT_dup, zT_dup2, zT_pop, zT_if1, zT_if2, zT_ifn, zT_getI, zT_getJ, zT_getR, zT_putI, zT_putZ, zT_putJ, zT_putR, zT_ald0, zT_lald, zT_aald, zT_iast, zT_zast, zT_bast, zT_last, zT_aast, zT_iret, zT_nret, zT_aret, zT_vret, zT_oi, zT_mm, zT_ialX, zT_S1, zT_S2, zT_S3, zT_V0, zT_V1, zT_V2, zT_V3, zT_V4, zT_V5, zT_V6, zT_I0, zT_I1, zT_I2, zlg, zlset, zlpr, zent, zok, va_rf, List.length_cons, List.length_nil, List.replicate, List.cons_append, List.nil_append, List.append_nil, Option.toList_some, Option.toList_none, Option.toList, Nat.reduceAdd, Nat.reduceSub, Nat.reduceLeDiff, Nat.zero_add, Nat.zero_le, true_and, and_true, Nat.le_refl, ge_iff_le, Nat.reduceEqDiff]
          refine ⟨vp_in_nI (by omega) (by decide), hJ (4 - (i + 1)) _ _ _ (by omega) ⟨i + 1, rfl, hlt, by rw [nI_1], rfl, hs.w (by simp), fun j hj => ?_⟩⟩
          rw [nI_clamp (by omega)]
          simp only [zwI_L, zwI_I, zwI_J, zwI_R, zwJ_L, zwJ_I, zwJ_J, zwJ_R, zwR_L, zwR_I, zwR_J, zwR_R, zw2_s, zw2_n, ne_eq, not_false_eq_true, reduceCtorEq, not_true_eq_false, Nat.reduceEqDiff, zup_at]
          by_cases e : j = i
          · rw [if_pos e, e, hv]
          · rw [if_neg e]
            exact hc j (by omega)
        refine ⟨fun h2 => key _ ?_, fun h2 => key _ ?_⟩
        · rw [if_pos ((nI_eq (by omega) (by omega)).mp h2)]
        · rw [if_neg (fun e => h2 (by rw [e]))]
    · intro J hJ
      obtain ⟨x0, x1, x2, x3, x4, x5, x6, x7, x8⟩ := hx
      simp only [zb_X5_shareToLowest_0, zsh_10, x6, zT_push, zT_bin, zT_div, zT_bil, zT_shl, zT_un, zT_i2l, zT_l2i, zT_lcmp, zT_ild, zT_lld, zT_ald, zT_ist, zT_lst, zT_ast, zT_iinc, zT_dup, zT_dup2, zT_pop, zT_if1, zT_if2, zT_ifn, zT_getI, zT_getJ, zT_getR, zT_putI, zT_putZ, zT_putJ, zT_putR, zT_ald0, zT_lald, zT_aald, zT_iast, zT_zast, zT_bast, zT_last, zT_aast, zT_iret, zT_nret, zT_aret, zT_vret, zT_oi, zT_mm, zT_ialX, zT_S1, zT_S2, zT_S3, zT_V0, zT_V1, zT_V2, zT_V3, zT_V4, zT_V5, zT_V6, zT_I0, zT_I1, zT_I2, zlg, zlset, zlpr, zent, zok, va_rf, List.length_cons, List.length_nil, List.replicate, List.cons_append, List.nil_append, List.append_nil, Option.toList_some, Option.toList_none, Option.toList, Nat.reduceAdd, Nat.reduceSub, Nat.reduceLeDiff, Nat.zero_add, Nat.zero_le, true_and, and_true, Nat.le_refl, ge_iff_le, Nat.reduceEqDiff]
      unfold zc_X5_firstGreatest
      dsimp only
      refine ⟨rfl, Or.inl rfl, n, hn, hw, ?_⟩
      try simp only [zT_push, zT_bin, zT_div, zT_bil, zT_shl, zT_un, zT_i2l, zT_l2i, zT_lcmp, zT_ild, zT_lld, zT_ald, zT_ist, zT_lst, zT_ast, zT_iinc, zT_dup, zT_dup2, zT_pop, zT_if1, zT_if2, zT_ifn, zT_getI, zT_getJ, zT_getR, zT_putI, zT_putZ, zT_putJ, zT_putR, zT_ald0, zT_lald, zT_aald, zT_iast, zT_zast, zT_bast, zT_last, zT_aast, zT_iret, zT_nret, zT_aret, zT_vret, zT_oi, zT_mm, zT_ialX, zT_S1, zT_S2, zT_S3, zT_V0, zT_V1, zT_V2, zT_V3, zT_V4, zT_V5, zT_V6, zT_I0, zT_I1, zT_I2, zlg, zlset, zlpr, zent, zok, va_rf, List.length_cons, List.length_nil, List.replicate, List.cons_append, List.nil_append, List.append_nil, Option.toList_some, Option.toList_none, Option.toList, Nat.reduceAdd, Nat.reduceSub, Nat.reduceLeDiff, Nat.zero_add, Nat.zero_le, true_and, and_true, Nat.le_refl, ge_iff_le, Nat.reduceEqDiff]
      exact hJ 4 _ _ _ ⟨0, rfl, Nat.zero_le _, rfl, rfl, zsm.rf, fun j hj => absurd hj (Nat.not_lt_zero _)⟩
  · exact h.elim
def zc_X5_shareEvenly (a : List Value) (M : zMm) (K : zKt) : Prop := match a with
  | [.ref k, .int x] => k = 10 ∧ zxw M ∧ ∃ n f, n ≤ 4 ∧ M.2.1 10 10 = nI n ∧ x = nI f ∧ f < 100000 ∧ ∀ M', zsm [18] M M' → (∀ i, i < n → M'.2.1 18 i = nI (f / n + if i < f % n then 1 else 0)) → K none M'
  | _ => False
theorem zm_X5_shareEvenly (l : Launch) (D : va_G) (Y : Nat → ClassId) : zMt l D Y yX5_shareEvenly cX5_shareEvenly 3 none 0 0 0 0 zc_X5_shareEvenly := by
  refine zwhile1 (h0 := 9) (by decide) (fun K J _ _ => zb_X5_shareEvenly_0 K J) (fun K _ _ J => zb_X5_shareEvenly_9 K J) (fun X hR J hJ => zbs_X5_shareEvenly_0 hR J hJ) (fun X hR J hJ => zbs_X5_shareEvenly_9 hR J hJ) (fun avs M K h => ?_)
  unfold zc_X5_shareEvenly at h
  split at h
  · next k x =>
    obtain ⟨rfl, hx, n, f, hn, hw, rfl, hf, h⟩ := h
    refine ⟨by simp [zent], fun q M' ls st => ∃ i, q = 4 - i ∧ 0 < n ∧ i ≤ n ∧ ls = [some (.ref 10), some (.int (nI f)), some (.int (nI i))] ∧ st = [] ∧ zsm [18] M M' ∧ (∀ j, j < i → M'.2.1 18 j = nI (f / n + if j < f % n then 1 else 0)), ?_, ?_⟩
    · rintro q J hJ M' ls st ⟨i, rfl, hn0, hi, rfl, rfl, hs, hc⟩
      have h10 : M'.2.1 10 = M.2.1 10 := hs.2.2 10 (by simp)
      have hdiv : f / n ≤ f := Nat.div_le_self _ _
      have hmod : f % n < n := Nat.mod_lt _ hn0
      obtain ⟨x0, x1, x2, x3, x4, x5, x6, x7, x8⟩ := hx.to hs
      simp only [zb_X5_shareEvenly_9, zsh_10, x7, h10, hw, zT_push, zT_bin, zT_div, zT_bil, zT_shl, zT_un, zT_i2l, zT_l2i, zT_lcmp, zT_ild, zT_lld, zT_ald, zT_ist, zT_lst, zT_ast, zT_iinc, zT_dup, zT_dup2, zT_pop, zT_if1, zT_if2, zT_ifn, zT_getI, zT_getJ, zT_getR, zT_putI, zT_putZ, zT_putJ, zT_putR, zT_ald0, zT_lald, zT_aald, zT_iast, zT_zast, zT_bast, zT_last, zT_aast, zT_iret, zT_nret, zT_aret, zT_vret, zT_oi, zT_mm, zT_ialX, zT_S1, zT_S2, zT_S3, zT_V0, zT_V1, zT_V2, zT_V3, zT_V4, zT_V5, zT_V6, zT_I0, zT_I1, zT_I2, zlg, zlset, zlpr, zent, zok, va_rf, List.length_cons, List.length_nil, List.replicate, List.cons_append, List.nil_append, List.append_nil, Option.toList_some, Option.toList_none, Option.toList, Nat.reduceAdd, Nat.reduceSub, Nat.reduceLeDiff, Nat.zero_add, Nat.zero_le, true_and, and_true, Nat.le_refl, ge_iff_le, Nat.reduceEqDiff]
      rw [pk_rem (a := f) (by omega) hn0 (by omega), pk_div (by omega) hn0 (by omega)]
      refine ⟨fun h1 => ?_, fun h1 => ?_⟩
      · have := zn_ge' h1 (by omega) (by omega)
        have e : i = n := by omega
        subst e
        simp only [zb_X5_shareEvenly_51, zT_push, zT_bin, zT_div, zT_bil, zT_shl, zT_un, zT_i2l, zT_l2i, zT_lcmp, zT_ild, zT_lld, zT_ald, zT_ist, zT_lst, zT_ast, zT_iinc, zT_dup, zT_dup2, zT_pop, zT_if1, zT_if2, zT_ifn, zT_getI, zT_getJ, zT_getR, zT_putI, zT_putZ, zT_putJ, zT_putR, zT_ald0, zT_lald, zT_aald, zT_iast, zT_zast, zT_bast, zT_last, zT_aast, zT_iret, zT_nret, zT_aret, zT_vret, zT_oi, zT_mm, zT_ialX, zT_S1, zT_S2, zT_S3, zT_V0, zT_V1, zT_V2, zT_V3, zT_V4, zT_V5, zT_V6, zT_I0, zT_I1, zT_I2, zlg, zlset, zlpr, zent, zok, va_rf, List.length_cons, List.length_nil, List.replicate, List.cons_append, List.nil_append, List.append_nil, Option.toList_some, Option.toList_none, Option.toList, Nat.reduceAdd, Nat.reduceSub, Nat.reduceLeDiff, Nat.zero_add, Nat.zero_le, true_and, and_true, Nat.le_refl, ge_iff_le, Nat.reduceEqDiff]
        exact h M' hs hc
      · have hlt := zn_ge h1 (by omega) (by omega)
        have hne : ¬ nI n = 0 := nI_ne0 hn0 (by omega)
        have key : ∀ v, nI (f / n) + v = nI (f / n + if i < f % n then 1 else 0) → zb_X5_shareEvenly_43 K J M' [some (.ref 10), some (.int (nI f)), some (.int (nI i))] [.int v, .int (nI (f / n)), .int (nI i), .ref 18] := by
          intro v hv
          simp only [zb_X5_shareEvenly_43, zsh_18, zT_push, zT_bin, zT_div, zT_bil, zT_shl, zT_un, zT_i2l, zT_l2i, zT_lcmp, zT_ild, zT_lld, zT_ald, zT_ist, zT_lst, zT_ast, zT_iinc, zT_dup, zT_dup2, zT_pop, zT_if1, zT_if2, zT_ifn, zT_getI, zT_getJ, zT_getR, zT_putI, zT_putZ, zT_putJ, zT_putR, zT_ald0, zT_lald, zT_aald, zT_iast, zT_zast, zT_bast, zT_last, zT_aast, zT_iret, zT_nret, zT_aret, zT_vret, zT_oi, zT_mm, zT_ialX, zT_S1, zT_S2, zT_S3, zT_V0, zT_V1, zT_V2, zT_V3, zT_V4, zT_V5, zT_V6, zT_I0, zT_I1, zT_I2, zlg, zlset, zlpr, zent, zok, va_rf, List.length_cons, List.length_nil, List.replicate, List.cons_append, List.nil_append, List.append_nil, Option.toList_some, Option.toList_none, Option.toList, Nat.reduceAdd, Nat.reduceSub, Nat.reduceLeDiff, Nat.zero_add, Nat.zero_le, true_and, and_true, Nat.le_refl, ge_iff_le, Nat.reduceEqDiff]
          refine ⟨vp_in_nI (by omega) (by decide), hJ (4 - (i + 1)) _ _ _ (by omega) ⟨i + 1, rfl, hn0, hlt, by rw [nI_1], rfl, hs.w (by simp), fun j hj => ?_⟩⟩
          rw [nI_clamp (by omega)]
          simp only [zwI_L, zwI_I, zwI_J, zwI_R, zwJ_L, zwJ_I, zwJ_J, zwJ_R, zwR_L, zwR_I, zwR_J, zwR_R, zw2_s, zw2_n, ne_eq, not_false_eq_true, reduceCtorEq, not_true_eq_false, Nat.reduceEqDiff, zup_at]
          by_cases e : j = i
          · rw [if_pos e, e, hv]
          · rw [if_neg e]
            exact hc j (by omega)
        refine ⟨hne, hne, fun h2 => key _ ?_, fun h2 => key _ ?_⟩
        · have := zn_ge' h2 (by omega) (by omega)
          rw [if_neg (by omega)]
          exact (nI_add _ 0)
        · have := zn_ge h2 (by omega) (by omega)
          rw [if_pos this]
          exact (nI_add _ 1)
    · intro J hJ
      simp only [zb_X5_shareEvenly_0, zsh_10, hw, zT_push, zT_bin, zT_div, zT_bil, zT_shl, zT_un, zT_i2l, zT_l2i, zT_lcmp, zT_ild, zT_lld, zT_ald, zT_ist, zT_lst, zT_ast, zT_iinc, zT_dup, zT_dup2, zT_pop, zT_if1, zT_if2, zT_ifn, zT_getI, zT_getJ, zT_getR, zT_putI, zT_putZ, zT_putJ, zT_putR, zT_ald0, zT_lald, zT_aald, zT_iast, zT_zast, zT_bast, zT_last, zT_aast, zT_iret, zT_nret, zT_aret, zT_vret, zT_oi, zT_mm, zT_ialX, zT_S1, zT_S2, zT_S3, zT_V0, zT_V1, zT_V2, zT_V3, zT_V4, zT_V5, zT_V6, zT_I0, zT_I1, zT_I2, zlg, zlset, zlpr, zent, zok, va_rf, List.length_cons, List.length_nil, List.replicate, List.cons_append, List.nil_append, List.append_nil, Option.toList_some, Option.toList_none, Option.toList, Nat.reduceAdd, Nat.reduceSub, Nat.reduceLeDiff, Nat.zero_add, Nat.zero_le, true_and, and_true, Nat.le_refl, ge_iff_le, Nat.reduceEqDiff]
      refine ⟨fun h1 => ?_, fun h1 => ?_⟩
      · have := zn_ge' (a := 0) h1 (by omega) (by omega)
        simp only [zb_X5_shareEvenly_51, zT_push, zT_bin, zT_div, zT_bil, zT_shl, zT_un, zT_i2l, zT_l2i, zT_lcmp, zT_ild, zT_lld, zT_ald, zT_ist, zT_lst, zT_ast, zT_iinc, zT_dup, zT_dup2, zT_pop, zT_if1, zT_if2, zT_ifn, zT_getI, zT_getJ, zT_getR, zT_putI, zT_putZ, zT_putJ, zT_putR, zT_ald0, zT_lald, zT_aald, zT_iast, zT_zast, zT_bast, zT_last, zT_aast, zT_iret, zT_nret, zT_aret, zT_vret, zT_oi, zT_mm, zT_ialX, zT_S1, zT_S2, zT_S3, zT_V0, zT_V1, zT_V2, zT_V3, zT_V4, zT_V5, zT_V6, zT_I0, zT_I1, zT_I2, zlg, zlset, zlpr, zent, zok, va_rf, List.length_cons, List.length_nil, List.replicate, List.cons_append, List.nil_append, List.append_nil, Option.toList_some, Option.toList_none, Option.toList, Nat.reduceAdd, Nat.reduceSub, Nat.reduceLeDiff, Nat.zero_add, Nat.zero_le, true_and, and_true, Nat.le_refl, ge_iff_le, Nat.reduceEqDiff]
        exact h M zsm.rf (fun i hi => by omega)
      · have := zn_ge (a := 0) h1 (by omega) (by omega)
        exact hJ 4 _ _ _ ⟨0, rfl, by omega, Nat.zero_le _, rfl, rfl, zsm.rf, fun j hj => absurd hj (Nat.not_lt_zero _)⟩
  · exact h.elim
/-- i goes ahead of j among the rests g -/
def wah (g : Nat → Nat) (j : Nat) (i : Nat) : Bool := decide (g j < g i ∨ (g i = g j ∧ i < j))
/-- the share by drops: D are the drops of n ways, f flows -/
def wsd (D : Nat → Nat) (n f i : Nat) : Nat := f * D i / wsm D n + if wct (wah (fun j => f * D j % wsm D n) i) n < f - wsm (fun j => f * D j / wsm D n) n then 1 else 0
theorem zfg_max (f : Nat → Int32) : ∀ n i, i < n → f i ≤ f (zfg f n) ∧ (i < zfg f n → f i < f (zfg f n))
  | 0, i, h => absurd h (Nat.not_lt_zero _)
  | n + 1, i, h => by
    unfold zfg
    by_cases e : n = 0
    · subst e
      have : i = 0 := by omega
      subst this
      simp
    · rw [if_neg e]
      have hl := zfg_le f n
      by_cases hq : f (zfg f n) < f n
      · rw [if_pos hq]
        by_cases ei : i = n
        · subst ei; simp
        · have := (zfg_max f n i (by omega)).1
          exact ⟨Int32.le_of_lt (Int32.lt_of_le_of_lt this hq), fun _ => Int32.lt_of_le_of_lt this hq⟩
      · rw [if_neg hq]
        by_cases ei : i = n
        · subst ei
          exact ⟨Int32.not_lt.mp hq, fun z => by omega⟩
        · exact zfg_max f n i (by omega)
end
section
/-! WATER: the share by drops -/
theorem zneg1 {a : Nat} (h : a < 2 ^ 31) : (-1 : Int32) < nI a := by
  have h1 := nI_toInt h
  have h2 : (-1 : Int32).toInt = -1 := by decide
  rw [Int32.lt_iff_toInt_lt, h1, h2]
  omega
theorem wah_t {g : Nat → Nat} {i j : Nat} : wah g j i = true ↔ (g j < g i ∨ (g i = g j ∧ i < j)) := by simp [wah]
theorem wah_f {g : Nat → Nat} {i j : Nat} : wah g j i = false ↔ ¬ (g j < g i ∨ (g i = g j ∧ i < j)) := by simp [wah]
/-- the picked ones: those that go ahead of all others; as many as were picked -/
theorem wpick {g : Nat → Nat} {p : Nat → Bool} {n k : Nat} (hc : wct p n = k) (hu : ∀ i j, i < n → j < n → p i = true → p j = false → wah g j i = true) : ∀ i, i < n → (p i = true ↔ wct (wah g i) n < k) := by
  intro i hi
  constructor
  · intro hp
    rw [← hc]
    refine wct_strict (fun j hj hw => ?_) hi (by rw [wah_f]; omega) hp
    cases hpj : p j with
    | true => rfl
    | false =>
      have h1 := wah_t.mp (hu i j hi hj hp hpj)
      have h2 := wah_t.mp hw
      omega
  · intro hlt
    cases hpi : p i with
    | true => rfl
    | false =>
      have : wct p n ≤ wct (wah g i) n := wct_mono fun j hj hpj => hu j i hj hi hpj hpi
      omega
def zc_X5_shareByDrops (a : List Value) (M : zMm) (K : zKt) : Prop := match a with
  | [.ref k, .int x] => k = 10 ∧ zxw M ∧ ∃ n f D, n ≤ 4 ∧ M.2.1 10 10 = nI n ∧ x = nI f ∧ f ≤ 10000 ∧ (∀ i, i < n → M.2.1 17 i = nI (D i) ∧ 1 ≤ D i ∧ D i ≤ 200) ∧ ∀ M', zsm [18, 19] M M' → (∀ i, i < n → M'.2.1 18 i = nI (wsd D n f i)) → K none M'
  | _ => False
theorem wsm_bd {D : Nat → Nat} {b : Nat} : ∀ {n : Nat}, (∀ i, i < n → D i ≤ b) → wsm D n ≤ n * b
  | 0, _ => Nat.zero_le _
  | n + 1, h => by
    have := wsm_bd (D := D) (n := n) (fun i hi => h i (by omega))
    have := h n (by omega)
    unfold wsm
    rw [Nat.succ_mul]
    omega
theorem wsm_mn {g : Nat → Nat} {a : Nat} : ∀ {b : Nat}, a ≤ b → wsm g a ≤ wsm g b
  | 0, h => by
    have : a = 0 := by omega
    subst this; exact Nat.le_refl _
  | b + 1, h => by
    rcases Nat.lt_or_ge a (b + 1) with z | z
    · have := wsm_mn (g := g) (a := a) (b := b) (by omega)
      show wsm g a ≤ wsm g b + g b
      omega
    · have : a = b + 1 := by omega
      subst this; exact Nat.le_refl _
set_option maxHeartbeats 1000000 in
theorem zm_X5_shareByDrops (l : Launch) (D : va_G) (Y : Nat → ClassId) : zMt l D Y yX5_shareByDrops cX5_shareByDrops 6 none 1 23 0 0 zc_X5_shareByDrops := by
  refine zwhile (heads := [4, 37, 101]) (by decide) (fun K J _ _ => zb_X5_shareByDrops_0 K J) (fun K _ _ J h => zB_X5_shareByDrops K J h) (fun X hR J hJ => zbs_X5_shareByDrops_0 hR J hJ) (fun X hR => zBs_X5_shareByDrops hR) (fun avs M K h => ?_)
  unfold zc_X5_shareByDrops at h
  split at h
  · next k x =>
    obtain ⟨rfl, hx, n, f, D, hn, hw, rfl, hf, hD, h⟩ := h
    have hT := wsm_bd (D := D) (b := 200) (n := n) (fun i hi => (hD i hi).2.2)
    have hmem : ∀ i, i < n → D i ≤ wsm D n := fun i hi => wsm_mem hi
    have hfd : ∀ i, i < n → f * D i ≤ 2000000 := fun i hi => by
      have := Nat.mul_le_mul hf (hD i hi).2.2
      omega
    refine ⟨by simp [zent], fun q h' M' ls st => (h' = 4 ∧ ∃ i, q = 300 - i ∧ i ≤ n ∧ ls = [some (.ref 10), some (.int (nI f)), some (.int (nI (wsm D i))), some (.int (nI i)), none, none] ∧ st = [] ∧ M' = M) ∨
      (h' = 37 ∧ 0 < n ∧ ∃ i, q = 200 - i ∧ i ≤ n ∧ ls = [some (.ref 10), some (.int (nI f)), some (.int (nI (wsm D n))), some (.int (nI (f - wsm (fun j => f * D j / wsm D n) i))), some (.int (nI i)), none] ∧ st = [] ∧ zsm [18, 19] M M' ∧ (∀ j, j < i → M'.2.1 18 j = nI (f * D j / wsm D n) ∧ M'.2.1 19 j = nI (f * D j % wsm D n))) ∨
      (h' = 101 ∧ 0 < n ∧ ∃ i o p, q = 100 - i ∧ i ≤ f - wsm (fun j => f * D j / wsm D n) n ∧ ls = [some (.ref 10), some (.int (nI f)), some (.int (nI (wsm D n))), some (.int (nI (f - wsm (fun j => f * D j / wsm D n) n))), some (.int (nI i)), o] ∧ st = [] ∧ zsm [18, 19] M M' ∧ wct p n = i ∧ (∀ i j, i < n → j < n → p i = true → p j = false → wah (fun j => f * D j % wsm D n) j i = true) ∧ (∀ j, j < n → M'.2.1 18 j = nI (f * D j / wsm D n + if p j = true then 1 else 0) ∧ M'.2.1 19 j = if p j = true then -1 else nI (f * D j % wsm D n))), ?_, ?_⟩
    · rintro q J hJ h' - M' ls st (⟨rfl, i, rfl, hi, rfl, rfl, rfl⟩ | ⟨rfl, hn0, i, rfl, hi, rfl, rfl, hs, hc⟩ | ⟨rfl, hn0, i, o, p, rfl, hi, rfl, rfl, hs, hpc, hpu, hc⟩)
      · have hbi := wsm_bd (D := D) (b := 200) (n := i) (fun j hj => (hD j (by omega)).2.2)
        obtain ⟨x0, x1, x2, x3, x4, x5, x6, x7, x8⟩ := hx
        simp only [zB_X5_shareByDrops, zb_X5_shareByDrops_4, ↓reduceIte, zsh_10, zsh_17, x6, hw, zT_push, zT_bin, zT_div, zT_bil, zT_shl, zT_un, zT_i2l, zT_l2i, zT_lcmp, zT_ild, zT_lld, zT_ald, zT_ist, zT_lst, zT_ast, zT_iinc, zT_dup, zT_dup2, zT_pop, zT_if1, zT_if2, zT_ifn, zT_getI, zT_getJ, zT_getR, zT_putI, zT_putZ, zT_putJ, zT_putR, zT_ald0, zT_lald, zT_aald, zT_iast, zT_zast, zT_bast, zT_last, zT_aast, zT_iret, zT_nret, zT_aret, zT_vret, zT_oi, zT_mm, zT_ialX, zT_S1, zT_S2, zT_S3, zT_V0, zT_V1, zT_V2, zT_V3, zT_V4, zT_V5, zT_V6, zT_I0, zT_I1, zT_I2, zlg, zlset, zlpr, zent, zok, va_rf, List.length_cons, List.length_nil, List.replicate, List.cons_append, List.nil_append, List.append_nil, Option.toList_some, Option.toList_none, Option.toList, Nat.reduceAdd, Nat.reduceSub, Nat.reduceLeDiff, Nat.zero_add, Nat.zero_le, true_and, and_true, Nat.le_refl, ge_iff_le, Nat.reduceEqDiff]
        refine ⟨fun h1 => ⟨fun h2 => ?_, fun h2 => ?_⟩, fun h1 => ?_⟩
        · have := zn_ge' h1 (by omega) (by omega)
          have e : i = n := by omega
          subst e
          have hpos := (nI_ltI (a := 0) (by omega) (by omega)).mp h2
          have hn0 : 0 < i := by
            rcases Nat.eq_zero_or_pos i with z | z
            · subst z
              exact absurd hpos (Nat.lt_irrefl _)
            · exact z
          exact hJ 200 (by omega) 37 (by simp) _ _ _ (Or.inr (Or.inl ⟨rfl, hn0, 0, rfl, Nat.zero_le _, rfl, rfl, zsm.rf, fun j hj => absurd hj (Nat.not_lt_zero _)⟩))
        · have := zn_ge' h1 (by omega) (by omega)
          have e : i = n := by omega
          subst e
          refine h M' zsm.rf (fun j hj => ?_)
          have h3 : ¬ 0 < wsm D i := fun z => h2 ((nI_ltI (a := 0) (by omega) (by omega)).mpr z)
          have := hmem j hj
          have := (hD j hj).2.1
          omega
        · have hlt := zn_ge h1 (by omega) (by omega)
          rw [nI_clamp (by omega), (hD i hlt).1]
          refine ⟨vp_in_nI (by omega) (by decide), hJ (300 - (i + 1)) (by omega) 4 (by simp) _ _ _ (Or.inl ⟨rfl, i + 1, rfl, hlt, ?_, rfl, rfl⟩)⟩
          rw [nI_1, nI_add]
          rfl
      · have hT0 : 0 < wsm D n := Nat.lt_of_lt_of_le (hD 0 hn0).2.1 (hmem 0 hn0)
        have hleft := wsm_left (r := D) (f := f) hn0 hT0
        have h10 : M'.2.1 10 = M.2.1 10 := hs.2.2 10 (by simp)
        have h17 : M'.2.1 17 = M.2.1 17 := hs.2.2 17 (by simp)
        obtain ⟨x0, x1, x2, x3, x4, x5, x6, x7, x8⟩ := hx.to hs
        simp only [zB_X5_shareByDrops, zb_X5_shareByDrops_37, ↓reduceIte, Nat.reduceEqDiff, zsh_10, zsh_17, zsh_18, zsh_19, x6, x7, x8, h10, h17, hw, zT_push, zT_bin, zT_div, zT_bil, zT_shl, zT_un, zT_i2l, zT_l2i, zT_lcmp, zT_ild, zT_lld, zT_ald, zT_ist, zT_lst, zT_ast, zT_iinc, zT_dup, zT_dup2, zT_pop, zT_if1, zT_if2, zT_ifn, zT_getI, zT_getJ, zT_getR, zT_putI, zT_putZ, zT_putJ, zT_putR, zT_ald0, zT_lald, zT_aald, zT_iast, zT_zast, zT_bast, zT_last, zT_aast, zT_iret, zT_nret, zT_aret, zT_vret, zT_oi, zT_mm, zT_ialX, zT_S1, zT_S2, zT_S3, zT_V0, zT_V1, zT_V2, zT_V3, zT_V4, zT_V5, zT_V6, zT_I0, zT_I1, zT_I2, zlg, zlset, zlpr, zent, zok, va_rf, List.length_cons, List.length_nil, List.replicate, List.cons_append, List.nil_append, List.append_nil, Option.toList_some, Option.toList_none, Option.toList, Nat.reduceAdd, Nat.reduceSub, Nat.reduceLeDiff, Nat.zero_add, Nat.zero_le, true_and, and_true, Nat.le_refl, ge_iff_le, Nat.reduceEqDiff, zwI_L, zwI_I, zwI_J, zwI_R, zwJ_L, zwJ_I, zwJ_J, zwJ_R, zwR_L, zwR_I, zwR_J, zwR_R, zw2_s, zw2_n, ne_eq, not_false_eq_true, reduceCtorEq, not_true_eq_false, Nat.reduceEqDiff]
        refine ⟨fun h1 => ?_, fun h1 => ?_⟩
        · have := zn_ge' h1 (by omega) (by omega)
          have e : i = n := by omega
          subst e
          refine hJ 100 (by omega) 101 (by simp) _ _ _ (Or.inr (Or.inr ⟨rfl, hn0, 0, none, fun _ => false, rfl, Nat.zero_le _, rfl, rfl, hs, ?_, fun i j _ _ hp => absurd hp Bool.false_ne_true, fun j hj => ?_⟩))
          · have : ∀ m, wct (fun _ => false) m = 0 := by
              intro m
              induction m with
              | zero => rfl
              | succ m ih => unfold wct; rw [ih]; rfl
            exact this _
          · obtain ⟨c1, c2⟩ := hc j hj
            exact ⟨c1, c2⟩
        · have hlt := zn_ge h1 (by omega) (by omega)
          have hne : ¬ nI (wsm D n) = 0 := nI_ne0 hT0 (by omega)
          have hfd' := hfd i hlt
          have hdv : f * D i / wsm D n ≤ f * D i := Nat.div_le_self _ _
          have hbase : wsm (fun j => f * D j / wsm D n) (i + 1) ≤ f := by
            refine Nat.le_trans ?_ hleft.1
            exact wsm_mn hlt
          have hsplit : wsm (fun j => f * D j / wsm D n) (i + 1) = wsm (fun j => f * D j / wsm D n) i + f * D i / wsm D n := rfl
          rw [nI_clamp (by omega), (hD i hlt).1, pk_mul, pk_rem (a := f * D i) (by omega) hT0 (by omega), pk_div (by omega) hT0 (by omega), zup_s, pk_sub (by omega)]
          refine ⟨vp_in_nI (by omega) (by decide), hne, vp_in_nI (by omega) (by decide), vp_in_nI (by omega) (by decide), hne, vp_in_nI (by omega) (by decide), vp_in_nI (by omega) (by decide), hJ (200 - (i + 1)) (by omega) 37 (by simp) _ _ _ (Or.inr (Or.inl ⟨rfl, hn0, i + 1, rfl, hlt, ?_, rfl, (hs.w (by simp)).w (by simp), fun j hj => ?_⟩))⟩
          · rw [nI_1, hsplit, Nat.sub_sub]
          · simp only [zwI_L, zwI_I, zwI_J, zwI_R, zwJ_L, zwJ_I, zwJ_J, zwJ_R, zwR_L, zwR_I, zwR_J, zwR_R, zw2_s, zw2_n, ne_eq, not_false_eq_true, reduceCtorEq, not_true_eq_false, Nat.reduceEqDiff, zup_at]
            by_cases e : j = i
            · subst e
              simp
            · rw [if_neg e, if_neg e]
              exact hc j (by omega)
      · have hT0 : 0 < wsm D n := Nat.lt_of_lt_of_le (hD 0 hn0).2.1 (hmem 0 hn0)
        have hleft := wsm_left (r := D) (f := f) hn0 hT0
        have h10 : M'.2.1 10 = M.2.1 10 := hs.2.2 10 (by simp)
        obtain ⟨x0, x1, x2, x3, x4, x5, x6, x7, x8⟩ := hx.to hs
        simp only [zB_X5_shareByDrops, zb_X5_shareByDrops_101, ↓reduceIte, Nat.reduceEqDiff, zsh_10, x8, x7, zT_push, zT_bin, zT_div, zT_bil, zT_shl, zT_un, zT_i2l, zT_l2i, zT_lcmp, zT_ild, zT_lld, zT_ald, zT_ist, zT_lst, zT_ast, zT_iinc, zT_dup, zT_dup2, zT_pop, zT_if1, zT_if2, zT_ifn, zT_getI, zT_getJ, zT_getR, zT_putI, zT_putZ, zT_putJ, zT_putR, zT_ald0, zT_lald, zT_aald, zT_iast, zT_zast, zT_bast, zT_last, zT_aast, zT_iret, zT_nret, zT_aret, zT_vret, zT_oi, zT_mm, zT_ialX, zT_S1, zT_S2, zT_S3, zT_V0, zT_V1, zT_V2, zT_V3, zT_V4, zT_V5, zT_V6, zT_I0, zT_I1, zT_I2, zlg, zlset, zlpr, zent, zok, va_rf, List.length_cons, List.length_nil, List.replicate, List.cons_append, List.nil_append, List.append_nil, Option.toList_some, Option.toList_none, Option.toList, Nat.reduceAdd, Nat.reduceSub, Nat.reduceLeDiff, Nat.zero_add, Nat.zero_le, true_and, and_true, Nat.le_refl, ge_iff_le, Nat.reduceEqDiff]
        refine ⟨fun h1 => ?_, fun h1 => ?_⟩
        · have := zn_ge' h1 (by omega) (by omega)
          have e : i = f - wsm (fun j => f * D j / wsm D n) n := by omega
          refine h M' hs (fun j hj => ?_)
          rw [(hc j hj).1]
          unfold wsd
          have hp := wpick hpc hpu j hj
          rw [← e]
          by_cases hq : p j = true
          · rw [if_pos hq, if_pos (hp.mp hq)]
          · rw [if_neg hq, if_neg (fun z => hq (hp.mpr z))]
        · have hlt := zn_ge h1 (by omega) (by omega)
          unfold zc_X5_firstGreatest
          dsimp only
          refine ⟨rfl, Or.inr rfl, n, hn, by rw [h10]; exact hw, ?_⟩
          have hg0 := zfg_le (M'.2.1 19) n
          have hgm := zfg_max (M'.2.1 19) n
          generalize zfg (M'.2.1 19) n = g0 at hg0 hgm ⊢
          have hg1 : g0 < n := by omega
          have hmod : ∀ j, f * D j % wsm D n < 2 ^ 31 := fun j => Nat.lt_of_lt_of_le (Nat.mod_lt _ hT0) (by omega)
          have hpg : p g0 = false := by
            obtain ⟨j, hj, hpj⟩ := wct_ex (p := p) (n := n) (by omega)
            cases hq : p g0 with
            | false => rfl
            | true =>
              have h3 := (hgm j hj).1
              rw [(hc j hj).2, (hc g0 hg1).2, hpj, hq] at h3
              exact absurd (zneg1 (hmod j)) (Int32.not_lt.mpr h3)
          have hb : f * D g0 / wsm D n ≤ f * D g0 := Nat.div_le_self _ _
          have := hfd g0 hg1
          simp only [zsh_18, zsh_19, x7, x8, zT_push, zT_bin, zT_div, zT_bil, zT_shl, zT_un, zT_i2l, zT_l2i, zT_lcmp, zT_ild, zT_lld, zT_ald, zT_ist, zT_lst, zT_ast, zT_iinc, zT_dup, zT_dup2, zT_pop, zT_if1, zT_if2, zT_ifn, zT_getI, zT_getJ, zT_getR, zT_putI, zT_putZ, zT_putJ, zT_putR, zT_ald0, zT_lald, zT_aald, zT_iast, zT_zast, zT_bast, zT_last, zT_aast, zT_iret, zT_nret, zT_aret, zT_vret, zT_oi, zT_mm, zT_ialX, zT_S1, zT_S2, zT_S3, zT_V0, zT_V1, zT_V2, zT_V3, zT_V4, zT_V5, zT_V6, zT_I0, zT_I1, zT_I2, zlg, zlset, zlpr, zent, zok, va_rf, List.length_cons, List.length_nil, List.replicate, List.cons_append, List.nil_append, List.append_nil, Option.toList_some, Option.toList_none, Option.toList, Nat.reduceAdd, Nat.reduceSub, Nat.reduceLeDiff, Nat.zero_add, Nat.zero_le, true_and, and_true, Nat.le_refl, ge_iff_le, Nat.reduceEqDiff, zwI_L, zwI_I, zwI_J, zwI_R, zwJ_L, zwJ_I, zwJ_J, zwJ_R, zwR_L, zwR_I, zwR_J, zwR_R, zw2_s, zw2_n, ne_eq, not_false_eq_true, reduceCtorEq, not_true_eq_false, Nat.reduceEqDiff]
          rw [nI_clamp (by omega), (hc g0 hg1).1, hpg]
          refine ⟨vp_in_nI (by omega) (by decide), vp_in_nI (by omega) (by decide), vp_in_nI (by omega) (by decide), hJ (100 - (i + 1)) (by omega) 101 (by simp) _ _ _ (Or.inr (Or.inr ⟨rfl, hn0, i + 1, some (.int (nI g0)), fun j => if j = g0 then true else p j, rfl, hlt, by rw [nI_1], rfl, (hs.w (by simp)).w (by simp), by rw [wct_up hg1 hpg (fun _ _ => rfl), hpc], fun a b ha hb' hpa hpb => ?_, fun j hj => ?_⟩))⟩
          · dsimp only at hpa hpb
            have hbg : b ≠ g0 := by
              intro e
              rw [if_pos e] at hpb
              cases hpb
            rw [if_neg hbg] at hpb
            by_cases ea : a = g0
            · subst ea
              have h3 := hgm b hb'
              rw [(hc b hb').2, (hc a ha).2, hpb, hpg] at h3
              simp only [Bool.false_eq_true, if_false] at h3
              rw [nI_leI (hmod b) (hmod a), nI_ltI (hmod b) (hmod a)] at h3
              rw [wah_t]
              omega
            · rw [if_neg ea] at hpa
              exact hpu a b ha hb' hpa hpb
          · simp only [zwI_L, zwI_I, zwI_J, zwI_R, zwJ_L, zwJ_I, zwJ_J, zwJ_R, zwR_L, zwR_I, zwR_J, zwR_R, zw2_s, zw2_n, ne_eq, not_false_eq_true, reduceCtorEq, not_true_eq_false, Nat.reduceEqDiff, zup_at]
            by_cases e : j = g0
            · subst e
              refine ⟨?_, ?_⟩ <;> simp [nI_1]
            · have h5 := hc j hj
              simp only [e, if_false]
              exact h5
    · intro J hJ
      simp only [zb_X5_shareByDrops_0, zT_push, zT_bin, zT_div, zT_bil, zT_shl, zT_un, zT_i2l, zT_l2i, zT_lcmp, zT_ild, zT_lld, zT_ald, zT_ist, zT_lst, zT_ast, zT_iinc, zT_dup, zT_dup2, zT_pop, zT_if1, zT_if2, zT_ifn, zT_getI, zT_getJ, zT_getR, zT_putI, zT_putZ, zT_putJ, zT_putR, zT_ald0, zT_lald, zT_aald, zT_iast, zT_zast, zT_bast, zT_last, zT_aast, zT_iret, zT_nret, zT_aret, zT_vret, zT_oi, zT_mm, zT_ialX, zT_S1, zT_S2, zT_S3, zT_V0, zT_V1, zT_V2, zT_V3, zT_V4, zT_V5, zT_V6, zT_I0, zT_I1, zT_I2, zlg, zlset, zlpr, zent, zok, va_rf, List.length_cons, List.length_nil, List.replicate, List.cons_append, List.nil_append, List.append_nil, Option.toList_some, Option.toList_none, Option.toList, Nat.reduceAdd, Nat.reduceSub, Nat.reduceLeDiff, Nat.zero_add, Nat.zero_le, true_and, and_true, Nat.le_refl, ge_iff_le, Nat.reduceEqDiff]
      exact hJ 300 4 (by simp) _ _ _ (Or.inl ⟨rfl, 0, rfl, Nat.zero_le _, rfl, rfl, rfl⟩)
  · exact h.elim
end
section
/-! WATER: pour -/
/-- the place from the end: b e: it goes ahead of e -/
def wps (b : Nat → Bool) (g : Nat → Nat) : Nat → Nat
  | 0 => 0
  | n + 1 => if b (g n) = true then wps b g n else n + 1
theorem wps_le (b : Nat → Bool) (g : Nat → Nat) : ∀ n, wps b g n ≤ n
  | 0 => Nat.le_refl _
  | n + 1 => by
    have := wps_le b g n
    unfold wps
    split <;> omega
def wat (L : List Nat) (i : Nat) : Nat := L.getD i 0
theorem wat_get {L : List Nat} {i : Nat} (h : i < L.length) : L[i]? = some (wat L i) := by
  unfold wat
  rw [List.getD_eq_getElem?_getD, List.getElem?_eq_getElem h]
  rfl
theorem wat_of {L : List Nat} {i x : Nat} (h : L[i]? = some x) : i < L.length ∧ wat L i = x := by
  obtain ⟨h1, h2⟩ := List.getElem?_eq_some_iff.mp h
  refine ⟨h1, ?_⟩
  have := wat_get h1
  rw [h] at this
  cases this
  rfl
/-- put c into the row, from the end on -/
def win (b : Nat → Bool) (c : Nat) (L : List Nat) : List Nat := L.take (wps b (wat L) L.length) ++ c :: L.drop (wps b (wat L) L.length)
theorem win_len (b : Nat → Bool) (c : Nat) (L : List Nat) : (win b c L).length = L.length + 1 := by
  have := wps_le b (wat L) L.length
  unfold win
  simp
  omega
theorem wins_get {L : List Nat} {p c i x : Nat} (hp : p ≤ L.length) (h : (L.take p ++ c :: L.drop p)[i]? = some x) : (i < p ∧ L[i]? = some x) ∨ (i = p ∧ x = c) ∨ (p < i ∧ L[i - 1]? = some x) := by
  have hl : (L.take p).length = p := by rw [List.length_take]; omega
  rcases Nat.lt_trichotomy i p with q | q | q
  · rw [List.getElem?_append_left (by omega), List.getElem?_take_of_lt q] at h
    exact Or.inl ⟨q, h⟩
  · subst q
    rw [List.getElem?_append_right (by omega), hl, Nat.sub_self] at h
    cases h
    exact Or.inr (Or.inl ⟨rfl, rfl⟩)
  · rw [List.getElem?_append_right (by omega), hl] at h
    obtain ⟨m, rfl⟩ : ∃ m, i = p + 1 + m := ⟨i - p - 1, by omega⟩
    rw [show p + 1 + m - p = m + 1 from by omega, List.getElem?_cons_succ, List.getElem?_drop] at h
    exact Or.inr (Or.inr ⟨q, by rw [show p + 1 + m - 1 = p + m from by omega]; exact h⟩)
theorem win_mem {b : Nat → Bool} {c : Nat} {L : List Nat} {x : Nat} : x ∈ win b c L ↔ x = c ∨ x ∈ L := by
  unfold win
  rw [List.mem_append, List.mem_cons]
  constructor
  · rintro (h | h | h)
    · exact Or.inr (List.mem_of_mem_take h)
    · exact Or.inl h
    · exact Or.inr (List.mem_of_mem_drop h)
  · rintro (h | h)
    · exact Or.inr (Or.inl h)
    · have := List.take_append_drop (wps b (wat L) L.length) L
      rw [← this] at h
      rcases List.mem_append.mp h with h | h
      · exact Or.inl h
      · exact Or.inr (Or.inr h)
def zc_X5_pour (a : List Value) (M : zMm) (K : zKt) : Prop := match a with
  | [.ref k, .int x, .int y] => k = 10 ∧ zxw M ∧ ∃ c f A L, x = nI c ∧ y = nI f ∧ c < 120 ∧ f ≤ 10000 ∧ A c ≤ 10000 ∧ zwt M A L ∧ (0 < f → A c = 0 → L.length < 120) ∧ ∀ M', zsm [10, 13, 15] M M' → (∀ j, j ≠ 5 → M'.2.1 10 j = M.2.1 10 j) → zwt M' (va_up A c (A c + f)) (if 0 < f ∧ A c = 0 then win (zbb (M.2.1 11) c) c L else L) → K none M'
  | _ => False
set_option maxHeartbeats 1000000 in
theorem zm_X5_pour (l : Launch) (D : va_G) (Y : Nat → ClassId) : zMt l D Y yX5_pour cX5_pour 4 none 1 22 0 0 zc_X5_pour := by
  refine zwhile1 (h0 := 27) (by decide) (fun K J _ _ => zb_X5_pour_0 K J) (fun K _ _ J => zb_X5_pour_27 K J) (fun X hR J hJ => zbs_X5_pour_0 hR J hJ) (fun X hR J hJ => zbs_X5_pour_27 hR J hJ) (fun avs M K h => ?_)
  unfold zc_X5_pour at h
  split at h
  · next k x y =>
    obtain ⟨rfl, hx, c, f, A, L, rfl, rfl, hc, hf, hAc, ⟨hA, hL, hn, hl⟩, hroom, h⟩ := h
    have hb := wps_le (zbb (M.2.1 11) c) (wat L) L.length
    have hL' : ∀ i, i < L.length → M.2.1 15 i = nI (wat L i) ∧ wat L i < 120 := fun i hi => hL i _ (wat_get hi)
    -- the last stretch: what came grows
    have fin : ∀ M' (J : Nat → zPP) o, zsm [10, 13, 15] M M' → M'.2.1 13 = M.2.1 13 → (∀ j, j ≠ 5 → M'.2.1 10 j = M.2.1 10 j) → (∀ i x, (if 0 < f ∧ A c = 0 then win (zbb (M.2.1 11) c) c L else L)[i]? = some x → M'.2.1 15 i = nI x ∧ x < 120) → M'.2.1 10 5 = nI (if 0 < f ∧ A c = 0 then win (zbb (M.2.1 11) c) c L else L).length → (if 0 < f ∧ A c = 0 then win (zbb (M.2.1 11) c) c L else L).length ≤ 120 → zb_X5_pour_84 K J M' [some (.ref 10), some (.int (nI c)), some (.int (nI f)), o] [] := by
      intro M' J o hs h13 h10 h15 h5 hlen
      obtain ⟨x0, x1, x2, x3, x4, x5, x6, x7, x8⟩ := hx.to hs
      simp only [zb_X5_pour_84, zsh_10, zsh_13, x2, zT_push, zT_bin, zT_div, zT_bil, zT_shl, zT_un, zT_i2l, zT_l2i, zT_lcmp, zT_ild, zT_lld, zT_ald, zT_ist, zT_lst, zT_ast, zT_iinc, zT_dup, zT_dup2, zT_pop, zT_if1, zT_if2, zT_ifn, zT_getI, zT_getJ, zT_getR, zT_putI, zT_putZ, zT_putJ, zT_putR, zT_ald0, zT_lald, zT_aald, zT_iast, zT_zast, zT_bast, zT_last, zT_aast, zT_iret, zT_nret, zT_aret, zT_vret, zT_oi, zT_mm, zT_ialX, zT_S1, zT_S2, zT_S3, zT_V0, zT_V1, zT_V2, zT_V3, zT_V4, zT_V5, zT_V6, zT_I0, zT_I1, zT_I2, zlg, zlset, zlpr, zent, zok, va_rf, List.length_cons, List.length_nil, List.replicate, List.cons_append, List.nil_append, List.append_nil, Option.toList_some, Option.toList_none, Option.toList, Nat.reduceAdd, Nat.reduceSub, Nat.reduceLeDiff, Nat.zero_add, Nat.zero_le, true_and, and_true, Nat.le_refl, ge_iff_le, Nat.reduceEqDiff]
      rw [nI_clamp (by omega)]
      refine ⟨vp_in_nI hc (by decide), vp_in_nI hc (by decide), h _ (hs.w (by simp)) (fun j hj => ?_) ⟨fun e he => ?_, fun i x hi => ?_, ?_, hlen⟩⟩
      · simp only [zwI_L, zwI_I, zwI_J, zwI_R, zwJ_L, zwJ_I, zwJ_J, zwJ_R, zwR_L, zwR_I, zwR_J, zwR_R, zw2_s, zw2_n, ne_eq, not_false_eq_true, reduceCtorEq, not_true_eq_false, Nat.reduceEqDiff]; exact h10 j hj
      · simp only [zwI_L, zwI_I, zwI_J, zwI_R, zwJ_L, zwJ_I, zwJ_J, zwJ_R, zwR_L, zwR_I, zwR_J, zwR_R, zw2_s, zw2_n, ne_eq, not_false_eq_true, reduceCtorEq, not_true_eq_false, Nat.reduceEqDiff, zup_at, h13]
        by_cases q : e = c
        · rw [if_pos q, if_pos q, hA c hc, nI_add]
        · rw [if_neg q, if_neg q, hA e he]
      · simp only [zwI_L, zwI_I, zwI_J, zwI_R, zwJ_L, zwJ_I, zwJ_J, zwJ_R, zwR_L, zwR_I, zwR_J, zwR_R, zw2_s, zw2_n, ne_eq, not_false_eq_true, reduceCtorEq, not_true_eq_false, Nat.reduceEqDiff]; exact h15 i x hi
      · simp only [zwI_L, zwI_I, zwI_J, zwI_R, zwJ_L, zwJ_I, zwJ_J, zwJ_R, zwR_L, zwR_I, zwR_J, zwR_R, zw2_s, zw2_n, ne_eq, not_false_eq_true, reduceCtorEq, not_true_eq_false, Nat.reduceEqDiff]; exact h5
    refine ⟨by simp [zent], fun q M' ls st => ∃ i, q = i ∧ i ≤ L.length ∧ 0 < f ∧ A c = 0 ∧ ls = [some (.ref 10), some (.int (nI c)), some (.int (nI f)), some (.int (nI i))] ∧ st = [] ∧ zsm [15] M M' ∧ wps (zbb (M.2.1 11) c) (wat L) i = wps (zbb (M.2.1 11) c) (wat L) L.length ∧ (∀ j, j < i → M'.2.1 15 j = nI (wat L j)) ∧ (∀ j, i < j → j ≤ L.length → M'.2.1 15 j = nI (wat L (j - 1))), ?_, ?_⟩
    · rintro i J hJ M' ls st ⟨_, rfl, hi, hf0, hA0, rfl, rfl, hs, hw, hlo, hhi⟩
      have h10 : M'.2.1 10 = M.2.1 10 := hs.2.2 10 (by simp)
      have h11 : M'.2.1 11 = M.2.1 11 := hs.2.2 11 (by simp)
      have h13 : M'.2.1 13 = M.2.1 13 := hs.2.2 13 (by simp)
      have hll := hroom hf0 hA0
      obtain ⟨x0, x1, x2, x3, x4, x5, x6, x7, x8⟩ := hx.to hs
      have hend : i = wps (zbb (M.2.1 11) c) (wat L) L.length → zb_X5_pour_67 K J M' [some (.ref 10), some (.int (nI c)), some (.int (nI f)), some (.int (nI i))] [] := by
        intro e
        simp only [zb_X5_pour_67, zsh_10, zsh_15, x4, zT_push, zT_bin, zT_div, zT_bil, zT_shl, zT_un, zT_i2l, zT_l2i, zT_lcmp, zT_ild, zT_lld, zT_ald, zT_ist, zT_lst, zT_ast, zT_iinc, zT_dup, zT_dup2, zT_pop, zT_if1, zT_if2, zT_ifn, zT_getI, zT_getJ, zT_getR, zT_putI, zT_putZ, zT_putJ, zT_putR, zT_ald0, zT_lald, zT_aald, zT_iast, zT_zast, zT_bast, zT_last, zT_aast, zT_iret, zT_nret, zT_aret, zT_vret, zT_oi, zT_mm, zT_ialX, zT_S1, zT_S2, zT_S3, zT_V0, zT_V1, zT_V2, zT_V3, zT_V4, zT_V5, zT_V6, zT_I0, zT_I1, zT_I2, zlg, zlset, zlpr, zent, zok, va_rf, List.length_cons, List.length_nil, List.replicate, List.cons_append, List.nil_append, List.append_nil, Option.toList_some, Option.toList_none, Option.toList, Nat.reduceAdd, Nat.reduceSub, Nat.reduceLeDiff, Nat.zero_add, Nat.zero_le, true_and, and_true, Nat.le_refl, ge_iff_le, Nat.reduceEqDiff]
        rw [nI_clamp (by omega)]
        refine ⟨vp_in_nI (by omega) (by decide), fin _ J _ (((hs.up (by simp)).w (by simp)).w (by simp)) ?_ (fun j hj => ?_) (fun j x hjx => ?_) ?_ ?_⟩
        · simp only [zwI_L, zwI_I, zwI_J, zwI_R, zwJ_L, zwJ_I, zwJ_J, zwJ_R, zwR_L, zwR_I, zwR_J, zwR_R, zw2_s, zw2_n, ne_eq, not_false_eq_true, reduceCtorEq, not_true_eq_false, Nat.reduceEqDiff]; exact h13
        · simp only [zwI_L, zwI_I, zwI_J, zwI_R, zwJ_L, zwJ_I, zwJ_J, zwJ_R, zwR_L, zwR_I, zwR_J, zwR_R, zw2_s, zw2_n, ne_eq, not_false_eq_true, reduceCtorEq, not_true_eq_false, Nat.reduceEqDiff]; rw [zup_n hj, h10]
        · rw [if_pos ⟨hf0, hA0⟩] at hjx
          unfold win at hjx
          rw [← e] at hjx
          simp only [zwI_L, zwI_I, zwI_J, zwI_R, zwJ_L, zwJ_I, zwJ_J, zwJ_R, zwR_L, zwR_I, zwR_J, zwR_R, zw2_s, zw2_n, ne_eq, not_false_eq_true, reduceCtorEq, not_true_eq_false, Nat.reduceEqDiff, zup_at]
          rcases wins_get hi hjx with ⟨q1, q2⟩ | ⟨q1, q2⟩ | ⟨q1, q2⟩
          · obtain ⟨q3, q4⟩ := wat_of q2
            rw [if_neg (by omega), hlo j q1, ← q4]
            exact ⟨rfl, (hL' j q3).2⟩
          · rw [if_pos q1, q2]
            exact ⟨rfl, hc⟩
          · obtain ⟨q3, q4⟩ := wat_of q2
            rw [if_neg (by omega), hhi j q1 (by omega), ← q4]
            exact ⟨rfl, (hL' _ q3).2⟩
        · rw [if_pos ⟨hf0, hA0⟩, win_len]
          simp only [zwI_L, zwI_I, zwI_J, zwI_R, zwJ_L, zwJ_I, zwJ_J, zwJ_R, zwR_L, zwR_I, zwR_J, zwR_R, zw2_s, zw2_n, ne_eq, not_false_eq_true, reduceCtorEq, not_true_eq_false, Nat.reduceEqDiff, zup_s]
          rw [h10, hn, nI_1]
        · rw [if_pos ⟨hf0, hA0⟩, win_len]
          omega
      simp only [zb_X5_pour_27, zsh_10, zsh_15, x4, zT_push, zT_bin, zT_div, zT_bil, zT_shl, zT_un, zT_i2l, zT_l2i, zT_lcmp, zT_ild, zT_lld, zT_ald, zT_ist, zT_lst, zT_ast, zT_iinc, zT_dup, zT_dup2, zT_pop, zT_if1, zT_if2, zT_ifn, zT_getI, zT_getJ, zT_getR, zT_putI, zT_putZ, zT_putJ, zT_putR, zT_ald0, zT_lald, zT_aald, zT_iast, zT_zast, zT_bast, zT_last, zT_aast, zT_iret, zT_nret, zT_aret, zT_vret, zT_oi, zT_mm, zT_ialX, zT_S1, zT_S2, zT_S3, zT_V0, zT_V1, zT_V2, zT_V3, zT_V4, zT_V5, zT_V6, zT_I0, zT_I1, zT_I2, zlg, zlset, zlpr, zent, zok, va_rf, List.length_cons, List.length_nil, List.replicate, List.cons_append, List.nil_append, List.append_nil, Option.toList_some, Option.toList_none, Option.toList, Nat.reduceAdd, Nat.reduceSub, Nat.reduceLeDiff, Nat.zero_add, Nat.zero_le, true_and, and_true, Nat.le_refl, ge_iff_le, Nat.reduceEqDiff, zwI_L, zwI_I, zwI_J, zwI_R, zwJ_L, zwJ_I, zwJ_J, zwJ_R, zwR_L, zwR_I, zwR_J, zwR_R, zw2_s, zw2_n, ne_eq, not_false_eq_true, reduceCtorEq, not_true_eq_false, Nat.reduceEqDiff]
      refine ⟨fun h1 => ?_, fun h1 => ?_⟩
      · have := zn_ge' (a := 0) h1 (by omega) (by omega)
        have e : i = 0 := by omega
        refine hend ?_
        rw [← hw, e]
        rfl
      · have hi0 := zn_ge (a := 0) h1 (by omega) (by omega)
        obtain ⟨m, rfl⟩ : ∃ m, i = m + 1 := ⟨i - 1, by omega⟩
        have hm := hL' m (by omega)
        rw [nI_pred, nI_clamp (by omega), hlo m (by omega)]
        refine ⟨vp_in_nI (by omega) (by decide), ?_⟩
        unfold zc_X5_goesAhead
        dsimp only
        refine ⟨rfl, x0, c, wat L m, rfl, rfl, hc, hm.2, ?_⟩
        simp only [x4, zsh_15, zT_push, zT_bin, zT_div, zT_bil, zT_shl, zT_un, zT_i2l, zT_l2i, zT_lcmp, zT_ild, zT_lld, zT_ald, zT_ist, zT_lst, zT_ast, zT_iinc, zT_dup, zT_dup2, zT_pop, zT_if1, zT_if2, zT_ifn, zT_getI, zT_getJ, zT_getR, zT_putI, zT_putZ, zT_putJ, zT_putR, zT_ald0, zT_lald, zT_aald, zT_iast, zT_zast, zT_bast, zT_last, zT_aast, zT_iret, zT_nret, zT_aret, zT_vret, zT_oi, zT_mm, zT_ialX, zT_S1, zT_S2, zT_S3, zT_V0, zT_V1, zT_V2, zT_V3, zT_V4, zT_V5, zT_V6, zT_I0, zT_I1, zT_I2, zlg, zlset, zlpr, zent, zok, va_rf, List.length_cons, List.length_nil, List.replicate, List.cons_append, List.nil_append, List.append_nil, Option.toList_some, Option.toList_none, Option.toList, Nat.reduceAdd, Nat.reduceSub, Nat.reduceLeDiff, Nat.zero_add, Nat.zero_le, true_and, and_true, Nat.le_refl, ge_iff_le, Nat.reduceEqDiff, zwI_L, zwI_I, zwI_J, zwI_R, zwJ_L, zwJ_I, zwJ_J, zwJ_R, zwR_L, zwR_I, zwR_J, zwR_R, zw2_s, zw2_n, ne_eq, not_false_eq_true, reduceCtorEq, not_true_eq_false, Nat.reduceEqDiff]
        rw [h11]
        have hw : (if zbb (M.2.1 11) c (wat L m) = true then wps (zbb (M.2.1 11) c) (wat L) m else m + 1) = wps (zbb (M.2.1 11) c) (wat L) L.length := hw
        by_cases hq : zbb (M.2.1 11) c (wat L m) = true
        · rw [if_pos hq] at hw ⊢
          rw [nI_clamp (n := m + 1) (by omega), nI_clamp (by omega), hlo m (by omega)]
          refine ⟨fun z => absurd z (by decide), fun _ => ⟨vp_in_nI (by omega) (by decide), vp_in_nI (by omega) (by decide), hJ m _ _ _ (by omega) ⟨m, rfl, by omega, hf0, hA0, by rw [pk_m1], rfl, hs.w (by simp), hw, fun j hj => ?_, fun j hj1 hj2 => ?_⟩⟩⟩
          · simp only [zwI_L, zwI_I, zwI_J, zwI_R, zwJ_L, zwJ_I, zwJ_J, zwJ_R, zwR_L, zwR_I, zwR_J, zwR_R, zw2_s, zw2_n, ne_eq, not_false_eq_true, reduceCtorEq, not_true_eq_false, Nat.reduceEqDiff]
            rw [zup_n (by omega)]
            exact hlo j (by omega)
          · simp only [zwI_L, zwI_I, zwI_J, zwI_R, zwJ_L, zwJ_I, zwJ_J, zwJ_R, zwR_L, zwR_I, zwR_J, zwR_R, zw2_s, zw2_n, ne_eq, not_false_eq_true, reduceCtorEq, not_true_eq_false, Nat.reduceEqDiff, zup_at]
            by_cases q : j = m + 1
            · rw [if_pos q, q]
              rfl
            · rw [if_neg q]
              exact hhi j (by omega) hj2
        · rw [if_neg hq] at hw ⊢
          exact ⟨fun _ => hend hw, fun z => absurd rfl z⟩
    · intro J hJ
      have hx' := hx
      obtain ⟨x0, x1, x2, x3, x4, x5, x6, x7, x8⟩ := hx
      simp only [zb_X5_pour_0, zsh_10, zsh_13, x2, zT_push, zT_bin, zT_div, zT_bil, zT_shl, zT_un, zT_i2l, zT_l2i, zT_lcmp, zT_ild, zT_lld, zT_ald, zT_ist, zT_lst, zT_ast, zT_iinc, zT_dup, zT_dup2, zT_pop, zT_if1, zT_if2, zT_ifn, zT_getI, zT_getJ, zT_getR, zT_putI, zT_putZ, zT_putJ, zT_putR, zT_ald0, zT_lald, zT_aald, zT_iast, zT_zast, zT_bast, zT_last, zT_aast, zT_iret, zT_nret, zT_aret, zT_vret, zT_oi, zT_mm, zT_ialX, zT_S1, zT_S2, zT_S3, zT_V0, zT_V1, zT_V2, zT_V3, zT_V4, zT_V5, zT_V6, zT_I0, zT_I1, zT_I2, zlg, zlset, zlpr, zent, zok, va_rf, List.length_cons, List.length_nil, List.replicate, List.cons_append, List.nil_append, List.append_nil, Option.toList_some, Option.toList_none, Option.toList, Nat.reduceAdd, Nat.reduceSub, Nat.reduceLeDiff, Nat.zero_add, Nat.zero_le, true_and, and_true, Nat.le_refl, ge_iff_le, Nat.reduceEqDiff]
      rw [nI_clamp (by omega), hA c hc, hn]
      have plain : ¬ (0 < f ∧ A c = 0) → ∀ o, zb_X5_pour_84 K J M [some (.ref 10), some (.int (nI c)), some (.int (nI f)), o] [] := by
        intro hq o
        refine fin M J o zsm.rf rfl (fun _ _ => rfl) ?_ ?_ ?_
        · rw [if_neg hq]; exact hL
        · rw [if_neg hq]; exact hn
        · rw [if_neg hq]; exact hl
      refine ⟨fun h1 => ?_, fun h1 => ⟨vp_in_nI hc (by decide), fun h2 => ⟨fun h3 => ?_, fun h3 => ?_⟩, fun h2 => ?_⟩⟩
      · have := zn_ge' (a := 0) h1 (by omega) (by omega)
        exact plain (by omega) _
      · have e1 := zn_ge (a := 0) h1 (by omega) (by omega)
        have e2 := (nI_eq (b := 0) (by omega) (by omega)).mp h2
        have e3 := zn_ge' (b := 120) h3 (by omega) (by omega)
        have := hroom e1 e2
        omega
      · have e1 := zn_ge (a := 0) h1 (by omega) (by omega)
        have e2 := (nI_eq (b := 0) (by omega) (by omega)).mp h2
        refine hJ L.length _ _ _ ⟨L.length, rfl, Nat.le_refl _, e1, e2, rfl, rfl, zsm.rf, rfl, fun j hj => (hL' j hj).1, fun j hj1 hj2 => by omega⟩
      · refine plain (fun z => h2 ?_) _
        rw [z.2]
        rfl
  · exact h.elim
end
section
/-! DeltaRuns$Water findWays -/
theorem zd_X5_findWays_0 : decode cX5_findWays 0 = .ok (.aload_n 0, 1) := by decide +kernel
theorem zd_X5_findWays_1 : decode cX5_findWays 1 = .ok (.iconst 0, 1) := by decide +kernel
theorem zd_X5_findWays_2 : decode cX5_findWays 2 = .ok (.putfield 76, 3) := by decide +kernel
theorem zd_X5_findWays_5 : decode cX5_findWays 5 = .ok (.iconst 0, 1) := by decide +kernel
theorem zd_X5_findWays_6 : decode cX5_findWays 6 = .ok (.istore_n 3, 1) := by decide +kernel
theorem zd_X5_findWays_7 : decode cX5_findWays 7 = .ok (.iload_n 3, 1) := by decide +kernel
theorem zd_X5_findWays_8 : decode cX5_findWays 8 = .ok (.iconst 4, 1) := by decide +kernel
theorem zd_X5_findWays_9 : decode cX5_findWays 9 = .ok (.if_icmp .ge 123, 3) := by decide +kernel
theorem zd_X5_findWays_12 : decode cX5_findWays 12 = .ok (.iload_n 2, 1) := by decide +kernel
theorem zd_X5_findWays_13 : decode cX5_findWays 13 = .ok (.bipush 12, 2) := by decide +kernel
theorem zd_X5_findWays_15 : decode cX5_findWays 15 = .ok (.irem, 1) := by decide +kernel
theorem zd_X5_findWays_16 : decode cX5_findWays 16 = .ok (.getstatic 89, 3) := by decide +kernel
theorem zd_X5_findWays_19 : decode cX5_findWays 19 = .ok (.iload_n 3, 1) := by decide +kernel
theorem zd_X5_findWays_20 : decode cX5_findWays 20 = .ok (.iaload, 1) := by decide +kernel
theorem zd_X5_findWays_21 : decode cX5_findWays 21 = .ok (.iadd, 1) := by decide +kernel
theorem zd_X5_findWays_22 : decode cX5_findWays 22 = .ok (.istore 4, 2) := by decide +kernel
theorem zd_X5_findWays_24 : decode cX5_findWays 24 = .ok (.iload_n 2, 1) := by decide +kernel
theorem zd_X5_findWays_25 : decode cX5_findWays 25 = .ok (.bipush 12, 2) := by decide +kernel
theorem zd_X5_findWays_27 : decode cX5_findWays 27 = .ok (.idiv, 1) := by decide +kernel
theorem zd_X5_findWays_28 : decode cX5_findWays 28 = .ok (.getstatic 92, 3) := by decide +kernel
theorem zd_X5_findWays_31 : decode cX5_findWays 31 = .ok (.iload_n 3, 1) := by decide +kernel
theorem zd_X5_findWays_32 : decode cX5_findWays 32 = .ok (.iaload, 1) := by decide +kernel
theorem zd_X5_findWays_33 : decode cX5_findWays 33 = .ok (.iadd, 1) := by decide +kernel
theorem zd_X5_findWays_34 : decode cX5_findWays 34 = .ok (.istore 5, 2) := by decide +kernel
theorem zd_X5_findWays_36 : decode cX5_findWays 36 = .ok (.aload_n 1, 1) := by decide +kernel
theorem zd_X5_findWays_37 : decode cX5_findWays 37 = .ok (.iload 4, 2) := by decide +kernel
theorem zd_X5_findWays_39 : decode cX5_findWays 39 = .ok (.iload 5, 2) := by decide +kernel
theorem zd_X5_findWays_41 : decode cX5_findWays 41 = .ok (.invokevirtual 95, 3) := by decide +kernel
theorem zd_X5_findWays_44 : decode cX5_findWays 44 = .ok (.ifCond .eq 82, 3) := by decide +kernel
theorem zd_X5_findWays_47 : decode cX5_findWays 47 = .ok (.iload 4, 2) := by decide +kernel
theorem zd_X5_findWays_49 : decode cX5_findWays 49 = .ok (.iload 5, 2) := by decide +kernel
theorem zd_X5_findWays_51 : decode cX5_findWays 51 = .ok (.invokestatic 99, 3) := by decide +kernel
theorem zd_X5_findWays_54 : decode cX5_findWays 54 = .ok (.istore 6, 2) := by decide +kernel
theorem zd_X5_findWays_56 : decode cX5_findWays 56 = .ok (.aload_n 0, 1) := by decide +kernel
theorem zd_X5_findWays_57 : decode cX5_findWays 57 = .ok (.getfield 9, 3) := by decide +kernel
theorem zd_X5_findWays_60 : decode cX5_findWays 60 = .ok (.iload 6, 2) := by decide +kernel
theorem zd_X5_findWays_62 : decode cX5_findWays 62 = .ok (.iaload, 1) := by decide +kernel
theorem zd_X5_findWays_63 : decode cX5_findWays 63 = .ok (.aload_n 0, 1) := by decide +kernel
theorem zd_X5_findWays_64 : decode cX5_findWays 64 = .ok (.getfield 9, 3) := by decide +kernel
theorem zd_X5_findWays_67 : decode cX5_findWays 67 = .ok (.iload_n 2, 1) := by decide +kernel
theorem zd_X5_findWays_68 : decode cX5_findWays 68 = .ok (.iaload, 1) := by decide +kernel
theorem zd_X5_findWays_69 : decode cX5_findWays 69 = .ok (.if_icmp .ge 57, 3) := by decide +kernel
theorem zd_X5_findWays_72 : decode cX5_findWays 72 = .ok (.aload_n 0, 1) := by decide +kernel
theorem zd_X5_findWays_73 : decode cX5_findWays 73 = .ok (.getfield 15, 3) := by decide +kernel
theorem zd_X5_findWays_76 : decode cX5_findWays 76 = .ok (.iload 6, 2) := by decide +kernel
theorem zd_X5_findWays_78 : decode cX5_findWays 78 = .ok (.baload, 1) := by decide +kernel
theorem zd_X5_findWays_79 : decode cX5_findWays 79 = .ok (.ifCond .ne 47, 3) := by decide +kernel
theorem zd_X5_findWays_82 : decode cX5_findWays 82 = .ok (.aload_n 0, 1) := by decide +kernel
theorem zd_X5_findWays_83 : decode cX5_findWays 83 = .ok (.getfield 28, 3) := by decide +kernel
theorem zd_X5_findWays_86 : decode cX5_findWays 86 = .ok (.aload_n 0, 1) := by decide +kernel
theorem zd_X5_findWays_87 : decode cX5_findWays 87 = .ok (.getfield 76, 3) := by decide +kernel
theorem zd_X5_findWays_90 : decode cX5_findWays 90 = .ok (.iload 6, 2) := by decide +kernel
theorem zd_X5_findWays_92 : decode cX5_findWays 92 = .ok (.iastore, 1) := by decide +kernel
theorem zd_X5_findWays_93 : decode cX5_findWays 93 = .ok (.aload_n 0, 1) := by decide +kernel
theorem zd_X5_findWays_94 : decode cX5_findWays 94 = .ok (.getfield 31, 3) := by decide +kernel
theorem zd_X5_findWays_97 : decode cX5_findWays 97 = .ok (.aload_n 0, 1) := by decide +kernel
theorem zd_X5_findWays_98 : decode cX5_findWays 98 = .ok (.getfield 76, 3) := by decide +kernel
theorem zd_X5_findWays_101 : decode cX5_findWays 101 = .ok (.aload_n 0, 1) := by decide +kernel
theorem zd_X5_findWays_102 : decode cX5_findWays 102 = .ok (.getfield 9, 3) := by decide +kernel
theorem zd_X5_findWays_105 : decode cX5_findWays 105 = .ok (.iload_n 2, 1) := by decide +kernel
theorem zd_X5_findWays_106 : decode cX5_findWays 106 = .ok (.iaload, 1) := by decide +kernel
theorem zd_X5_findWays_107 : decode cX5_findWays 107 = .ok (.aload_n 0, 1) := by decide +kernel
theorem zd_X5_findWays_108 : decode cX5_findWays 108 = .ok (.getfield 9, 3) := by decide +kernel
theorem zd_X5_findWays_111 : decode cX5_findWays 111 = .ok (.iload 6, 2) := by decide +kernel
theorem zd_X5_findWays_113 : decode cX5_findWays 113 = .ok (.iaload, 1) := by decide +kernel
theorem zd_X5_findWays_114 : decode cX5_findWays 114 = .ok (.isub, 1) := by decide +kernel
theorem zd_X5_findWays_115 : decode cX5_findWays 115 = .ok (.iastore, 1) := by decide +kernel
theorem zd_X5_findWays_116 : decode cX5_findWays 116 = .ok (.aload_n 0, 1) := by decide +kernel
theorem zd_X5_findWays_117 : decode cX5_findWays 117 = .ok (.dup, 1) := by decide +kernel
theorem zd_X5_findWays_118 : decode cX5_findWays 118 = .ok (.getfield 76, 3) := by decide +kernel
theorem zd_X5_findWays_121 : decode cX5_findWays 121 = .ok (.iconst 1, 1) := by decide +kernel
theorem zd_X5_findWays_122 : decode cX5_findWays 122 = .ok (.iadd, 1) := by decide +kernel
theorem zd_X5_findWays_123 : decode cX5_findWays 123 = .ok (.putfield 76, 3) := by decide +kernel
theorem zd_X5_findWays_126 : decode cX5_findWays 126 = .ok (.iinc 3 1, 3) := by decide +kernel
theorem zd_X5_findWays_129 : decode cX5_findWays 129 = .ok (.goto (-122), 3) := by decide +kernel
theorem zd_X5_findWays_132 : decode cX5_findWays 132 = .ok (.return_, 1) := by decide +kernel
def zb_X5_findWays_0 (K : zKt) (J : Nat → zPP) : zPP := zT_ald 0 (zT_push (.int 0) (zT_putI 5 10 11 (zT_push (.int 0) (zT_ist 3 (J 7)))))
theorem zbs_X5_findWays_0 {X : zCt} (hR : zRX X = { frames := 1, cells := 0, slots := 0, locals := 22 }) (J : Nat → zPP) (hJ : ∀ h ∈ ([7] : List Nat), zSd X RX5 "findWays" cX5_findWays 7 none h (J h)) : zSd X RX5 "findWays" cX5_findWays 7 none 0 (zb_X5_findWays_0 (zKX X) J) := zs_aload_n zd_X5_findWays_0 rfl (zs_iconst zd_X5_findWays_1 (by decide) (zs_putI (ci := 5) (j := 10) (T := TX5) rfl inX5 tyX5_ok nmX5 (by decide) gw_1_126 rfl rfl rfl zd_X5_findWays_2 (zs_iconst zd_X5_findWays_5 (by decide) (zs_istore_n zd_X5_findWays_6 rfl (by decide) (hJ 7 (by decide))))))
def zb_X5_findWays_126 (K : zKt) (J : Nat → zPP) : zPP := zT_iinc 3 1 (J 7)
theorem zbs_X5_findWays_126 {X : zCt} (hR : zRX X = { frames := 1, cells := 0, slots := 0, locals := 22 }) (J : Nat → zPP) (hJ : ∀ h ∈ ([7] : List Nat), zSd X RX5 "findWays" cX5_findWays 7 none h (J h)) : zSd X RX5 "findWays" cX5_findWays 7 none 126 (zb_X5_findWays_126 (zKX X) J) := zs_iinc zd_X5_findWays_126 (by decide) (by decide) (zs_goto (tgt := 7) zd_X5_findWays_129 (by decide) (hJ 7 (by decide)))
def zb_X5_findWays_7 (K : zKt) (J : Nat → zPP) : zPP := zT_ild 3 (zT_push (.int 4) (zT_if2 (fun x y => y ≤ x) (zT_vret K) (zT_ild 2 (zT_push (.int 12) (zT_div (fun x y => x - x / y * y) (zT_push (.ref 2001) (zT_ild 3 (zT_ialX 2001 zXs (zT_bin (fun x y => x + y) (zT_ist 4 (zT_ild 2 (zT_push (.int 12) (zT_div (fun x y => x / y) (zT_push (.ref 2002) (zT_ild 3 (zT_ialX 2002 zYs (zT_bin (fun x y => x + y) (zT_ist 5 (zT_ald 1 (zT_ild 4 (zT_ild 5 (zT_V2 zok 1 6 zc_X1_has (zT_if1 (fun x => x = 0) (zb_X5_findWays_126 K J) (zT_ild 4 (zT_ild 5 (zT_S2 zok zc_X7_cellAt (zT_ist 6 (zT_ald 0 (zT_getR 5 0 11 (zT_ild 6 (zT_ald0 0 (zT_ald 0 (zT_getR 5 0 11 (zT_ild 2 (zT_ald0 0 (zT_if2 (fun x y => y ≤ x) (zb_X5_findWays_126 K J) (zT_ald 0 (zT_getR 5 1 11 (zT_ild 6 (zT_ald0 1 (zT_if1 (fun x => x = 0) (zT_ald 0 (zT_getR 5 6 11 (zT_ald 0 (zT_getI 5 10 11 (zT_ild 6 (zT_iast (zT_ald 0 (zT_getR 5 7 11 (zT_ald 0 (zT_getI 5 10 11 (zT_ald 0 (zT_getR 5 0 11 (zT_ild 2 (zT_ald0 0 (zT_ald 0 (zT_getR 5 0 11 (zT_ild 6 (zT_ald0 0 (zT_bin (fun x y => x - y) (zT_iast (zT_ald 0 (zT_dup (zT_getI 5 10 11 (zT_push (.int 1) (zT_bin (fun x y => x + y) (zT_putI 5 10 11 (zb_X5_findWays_126 K J))))))))))))))))))))))))))) (zb_X5_findWays_126 K J))))))))))))))))))))))))))))))))))))))))))
theorem zbs_X5_findWays_7 {X : zCt} (hR : zRX X = { frames := 1, cells := 0, slots := 0, locals := 22 }) (J : Nat → zPP) (hJ : ∀ h ∈ ([7] : List Nat), zSd X RX5 "findWays" cX5_findWays 7 none h (J h)) : zSd X RX5 "findWays" cX5_findWays 7 none 7 (zb_X5_findWays_7 (zKX X) J) := zs_iload_n zd_X5_findWays_7 rfl (zs_iconst zd_X5_findWays_8 (by decide) (zs_icmp_ge (tgt := 132) zd_X5_findWays_9 (by decide) (zs_vret rfl zd_X5_findWays_132) (zs_iload_n zd_X5_findWays_12 rfl (zs_bipush zd_X5_findWays_13 (by decide) (zs_irem zd_X5_findWays_15 (zs_sx rfl zd_X5_findWays_16 (zs_iload_n zd_X5_findWays_19 rfl (zs_ialX zd_X5_findWays_20 (zs_iadd zd_X5_findWays_21 (zs_istore zd_X5_findWays_22 (by decide) (zs_iload_n zd_X5_findWays_24 rfl (zs_bipush zd_X5_findWays_25 (by decide) (zs_idiv zd_X5_findWays_27 (zs_sy rfl zd_X5_findWays_28 (zs_iload_n zd_X5_findWays_31 rfl (zs_ialY zd_X5_findWays_32 (zs_iadd zd_X5_findWays_33 (zs_istore zd_X5_findWays_34 (by decide) (zs_aload_n zd_X5_findWays_36 rfl (zs_iload zd_X5_findWays_37 (zs_iload zd_X5_findWays_39 (zs_V (ci := 1) rfl rfl (zm_X1_has _ _ _) gw_2_0 gw_2_237 gw_1_238 gw_1_239 gw_1_2 zdn_X1_has (zrm hR (by decide) (by decide)) zd_X5_findWays_41 (zCl_V2 zok_l) (zs_if_eq (tgt := 126) zd_X5_findWays_44 (by decide) (zbs_X5_findWays_126 hR J hJ) (zs_iload zd_X5_findWays_47 (zs_iload zd_X5_findWays_49 (zs_SN (zm_X7_cellAt _ _ _) gw_2_7 (List.mem_of_getElem? (i := 8) rfl) gw_2_6 gw_1_1 zdn_X7_cellAt (zrm hR (by decide) (by decide)) zd_X5_findWays_51 (zCl_S2 zok_l) (zs_istore zd_X5_findWays_54 (by decide) (zs_aload_n zd_X5_findWays_56 rfl (zs_getR (ci := 5) (j := 0) (T := TX5) rfl inX5 (by decide) gw_1_111 rfl zd_X5_findWays_57 (zs_iload zd_X5_findWays_60 (zs_iald zd_X5_findWays_62 (zs_aload_n zd_X5_findWays_63 rfl (zs_getR (ci := 5) (j := 0) (T := TX5) rfl inX5 (by decide) gw_1_111 rfl zd_X5_findWays_64 (zs_iload_n zd_X5_findWays_67 rfl (zs_iald zd_X5_findWays_68 (zs_icmp_ge (tgt := 126) zd_X5_findWays_69 (by decide) (zbs_X5_findWays_126 hR J hJ) (zs_aload_n zd_X5_findWays_72 rfl (zs_getR (ci := 5) (j := 1) (T := TX5) rfl inX5 (by decide) gw_1_114 rfl zd_X5_findWays_73 (zs_iload zd_X5_findWays_76 (zs_zald zd_X5_findWays_78 (zs_if_ne (tgt := 126) zd_X5_findWays_79 (by decide) (zbs_X5_findWays_126 hR J hJ) (zs_aload_n zd_X5_findWays_82 rfl (zs_getR (ci := 5) (j := 6) (T := TX5) rfl inX5 (by decide) gw_1_122 rfl zd_X5_findWays_83 (zs_aload_n zd_X5_findWays_86 rfl (zs_getI (ci := 5) (j := 10) (T := TX5) rfl inX5 (by decide) gw_1_126 rfl zd_X5_findWays_87 (zs_iload zd_X5_findWays_90 (zs_iast zd_X5_findWays_92 (zs_aload_n zd_X5_findWays_93 rfl (zs_getR (ci := 5) (j := 7) (T := TX5) rfl inX5 (by decide) gw_1_123 rfl zd_X5_findWays_94 (zs_aload_n zd_X5_findWays_97 rfl (zs_getI (ci := 5) (j := 10) (T := TX5) rfl inX5 (by decide) gw_1_126 rfl zd_X5_findWays_98 (zs_aload_n zd_X5_findWays_101 rfl (zs_getR (ci := 5) (j := 0) (T := TX5) rfl inX5 (by decide) gw_1_111 rfl zd_X5_findWays_102 (zs_iload_n zd_X5_findWays_105 rfl (zs_iald zd_X5_findWays_106 (zs_aload_n zd_X5_findWays_107 rfl (zs_getR (ci := 5) (j := 0) (T := TX5) rfl inX5 (by decide) gw_1_111 rfl zd_X5_findWays_108 (zs_iload zd_X5_findWays_111 (zs_iald zd_X5_findWays_113 (zs_isub zd_X5_findWays_114 (zs_iast zd_X5_findWays_115 (zs_aload_n zd_X5_findWays_116 rfl (zs_dup zd_X5_findWays_117 (zs_getI (ci := 5) (j := 10) (T := TX5) rfl inX5 (by decide) gw_1_126 rfl zd_X5_findWays_118 (zs_iconst zd_X5_findWays_121 (by decide) (zs_iadd zd_X5_findWays_122 (zs_putI (ci := 5) (j := 10) (T := TX5) rfl inX5 tyX5_ok nmX5 (by decide) gw_1_126 rfl rfl rfl zd_X5_findWays_123 (zbs_X5_findWays_126 hR J hJ))))))))))))))))))))))))))))))))))))))))))))))))))))))))))))))))))))
def zB_X5_findWays (K : zKt) (J : Nat → zPP) (h : Nat) : zPP := if h = 7 then zb_X5_findWays_7 K J else (fun _ _ _ => False)
theorem zBs_X5_findWays {X : zCt} (hR : zRX X = { frames := 1, cells := 0, slots := 0, locals := 22 }) : ∀ J : Nat → zPP, (∀ h ∈ ([7] : List Nat), zSd X RX5 "findWays" cX5_findWays 7 none h (J h)) → ∀ h ∈ ([7] : List Nat), zSd X RX5 "findWays" cX5_findWays 7 none h (zB_X5_findWays (zKX X) J h) := by
  intro J hJ h hh
  unfold zB_X5_findWays
  simp only [List.mem_cons, List.not_mem_nil, or_false] at hh
  subst hh
  exact zbs_X5_findWays_7 hR J hJ
theorem zdn_X5_findWays : yX5_findWays.cls ≠ "java/lang/invoke/MethodHandle" ∧ yX5_findWays.cls ≠ "java/lang/invoke/VarHandle" ∧ (parseMethodDescriptor yX5_findWays.desc).map (fun d => d.parameters.length) = some 2 := by decide +kernel
/-! WATER: the ways down from a cell. Cells are numbered 12 y + x -/
def wnb (w h c d : Nat) : Option Nat := match d with
  | 0 => if c % 12 + 1 < w then some (c + 1) else none
  | 1 => if c / 12 + 1 < h then some (c + 12) else none
  | 2 => if 0 < c % 12 then some (c - 1) else none
  | _ => if 0 < c / 12 then some (c - 12) else none
/-- the drop to a side, 0 where there is no way -/
def wdr (w h : Nat) (H : Nat → Nat) (D : Nat → Bool) (c d : Nat) : Nat := match wnb w h c d with
  | some x => if D x = true then 0 else H c - H x
  | none => 0
def wpo (r : Nat → Nat) (d : Nat) : Bool := decide (0 < r d)
/-- the sides that are ways, among the first m -/
def wds (r : Nat → Nat) (m : Nat) : List Nat := (List.range m).filter (wpo r)
theorem wds_s (r : Nat → Nat) (m : Nat) : wds r (m + 1) = wds r m ++ (if wpo r m = true then [m] else []) := by
  unfold wds
  rw [List.range_succ, List.filter_append]
  congr 1
  cases h : wpo r m <;> simp [List.filter, h]
theorem wds_len (r : Nat → Nat) : ∀ m, (wds r m).length = wct (wpo r) m
  | 0 => rfl
  | m + 1 => by
    rw [wds_s, List.length_append, wds_len r m]
    show _ = wct (wpo r) m + _
    cases wpo r m <;> rfl
theorem wds_get (r : Nat → Nat) : ∀ m i d, (wds r m)[i]? = some d → d < m ∧ wpo r d = true ∧ i = wct (wpo r) d
  | 0, i, d, h => by simp [wds] at h
  | m + 1, i, d, h => by
    rw [wds_s] at h
    by_cases hi : i < (wds r m).length
    · rw [List.getElem?_append_left hi] at h
      obtain ⟨h1, h2, h3⟩ := wds_get r m i d h
      exact ⟨by omega, h2, h3⟩
    · rw [List.getElem?_append_right (by omega)] at h
      by_cases hp : wpo r m = true
      · rw [if_pos hp] at h
        have hz : i - (wds r m).length < 1 := (List.getElem?_eq_some_iff.mp h).1
        have e : i = (wds r m).length := by omega
        subst e
        rw [Nat.sub_self] at h
        cases h
        exact ⟨by omega, hp, wds_len r m⟩
      · rw [if_neg hp] at h
        cases h
theorem wds_at (r : Nat → Nat) {m d : Nat} (hd : d < m) (hp : wpo r d = true) : (wds r m)[wct (wpo r) d]? = some d := by
  have hm : d ∈ wds r m := List.mem_filter.mpr ⟨List.mem_range.mpr hd, hp⟩
  obtain ⟨i, hi⟩ := List.getElem?_of_mem hm
  rw [← (wds_get r m i d hi).2.2]
  exact hi
theorem wct_lt {p : Nat → Bool} {a b : Nat} (h : a < b) (ha : p a = true) : wct p a < wct p b := by
  have h1 : wct p (a + 1) ≤ wct p b := by
    have : ∀ m, a + 1 ≤ m → wct p (a + 1) ≤ wct p m := by
      intro m
      induction m with
      | zero => intro z; omega
      | succ m ih =>
        intro z
        rcases Nat.lt_or_ge (a + 1) (m + 1) with q | q
        · have := ih (by omega)
          show _ ≤ wct p m + _
          omega
        · have : m = a := by omega
          subst this; exact Nat.le_refl _
    exact this b h
  have h2 : wct p (a + 1) = wct p a + 1 := by
    show wct p a + _ = _
    rw [if_pos ha]
  omega
/-- what a water's world is: the land's size, the heights, the dykes -/
def zld (M : zMm) (w h : Nat) (H : Nat → Nat) (D : Nat → Bool) : Prop := M.2.1 1 1 = nI w ∧ M.2.1 1 2 = nI h ∧ w ≤ 12 ∧ h ≤ 10 ∧ (∀ e, e < 120 → M.2.1 11 e = nI (H e) ∧ H e ≤ 200) ∧ ∀ e, e < 120 → M.2.1 12 e = if D e = true then 1 else 0
theorem zld.to {M M' : zMm} {w h : Nat} {H : Nat → Nat} {D : Nat → Bool} {ks : List Nat} (hl : zld M w h H D) (hs : zsm ks M M') (h1 : 1 ∉ ks) (h2 : 11 ∉ ks) (h3 : 12 ∉ ks) : zld M' w h H D := by
  unfold zld
  rw [hs.2.2 1 h1, hs.2.2 11 h2, hs.2.2 12 h3]
  exact hl
def wil (w h c : Nat) : Prop := c % 12 < w ∧ c / 12 < h
theorem zn_m1 {n : Nat} (h : 0 < n) : nI n + (-1) = nI (n - 1) := sb_m1 h
theorem wside {w h c : Nat} (hw : w ≤ 12) (hh : h ≤ 10) (hc : wil w h c) {d : Nat} (hd : d < 4) : match wnb w h c d with
    | none => ¬ (0 ≤ nI (c % 12) + zXs d ∧ nI (c % 12) + zXs d < nI w ∧ 0 ≤ nI (c / 12) + zYs d ∧ nI (c / 12) + zYs d < nI h)
    | some e => (0 ≤ nI (c % 12) + zXs d ∧ nI (c % 12) + zXs d < nI w ∧ 0 ≤ nI (c / 12) + zYs d ∧ nI (c / 12) + zYs d < nI h) ∧ (nI (c / 12) + zYs d) * 12 + (nI (c % 12) + zXs d) = nI e ∧ e < 120 ∧ wil w h e := by
  obtain ⟨hx, hy⟩ := hc
  have hneg : ¬ (0 : Int32) ≤ nI 0 + (-1) := by decide
  have e12 : (12 : Int32) = nI 12 := rfl
  have z0 : ∀ n, nI n + 0 = nI n := fun n => nI_add n 0
  have pos : ∀ n, n < 2 ^ 31 → (0 : Int32) ≤ nI n := fun n h => nI_pos' h
  unfold wil
  match d, hd with
  | 0, _ =>
    simp only [wnb, zXs, zYs]
    by_cases q : c % 12 + 1 < w
    · rw [if_pos q]
      dsimp only
      rw [z0, nI_1, e12, pk_mul, nI_add]
      exact ⟨⟨pos _ (by omega), (nI_ltI (by omega) (by omega)).mpr q, pos _ (by omega), (nI_ltI (by omega) (by omega)).mpr hy⟩, congrArg nI (by omega), by omega, by omega, by omega⟩
    · rw [if_neg q]
      dsimp only
      rw [nI_1]
      exact fun z => q ((nI_ltI (by omega) (by omega)).mp z.2.1)
  | 1, _ =>
    simp only [wnb, zXs, zYs]
    by_cases q : c / 12 + 1 < h
    · rw [if_pos q]
      dsimp only
      rw [z0, nI_1, e12, pk_mul, nI_add]
      exact ⟨⟨pos _ (by omega), (nI_ltI (by omega) (by omega)).mpr hx, pos _ (by omega), (nI_ltI (by omega) (by omega)).mpr q⟩, congrArg nI (by omega), by omega, by omega, by omega⟩
    · rw [if_neg q]
      dsimp only
      rw [nI_1]
      exact fun z => q ((nI_ltI (by omega) (by omega)).mp z.2.2.2)
  | 2, _ =>
    simp only [wnb, zXs, zYs]
    by_cases q : 0 < c % 12
    · rw [if_pos q]
      dsimp only
      rw [z0, zn_m1 q, e12, pk_mul, nI_add]
      exact ⟨⟨pos _ (by omega), (nI_ltI (by omega) (by omega)).mpr (by omega), pos _ (by omega), (nI_ltI (by omega) (by omega)).mpr hy⟩, congrArg nI (by omega), by omega, by omega, by omega⟩
    · rw [if_neg q]
      dsimp only
      rw [show c % 12 = 0 from by omega]
      exact fun z => hneg z.1
  | 3, _ =>
    simp only [wnb, zXs, zYs]
    by_cases q : 0 < c / 12
    · rw [if_pos q]
      dsimp only
      rw [z0, zn_m1 q, e12, pk_mul, nI_add]
      exact ⟨⟨pos _ (by omega), (nI_ltI (by omega) (by omega)).mpr hx, pos _ (by omega), (nI_ltI (by omega) (by omega)).mpr (by omega)⟩, congrArg nI (by omega), by omega, by omega, by omega⟩
    · rw [if_neg q]
      dsimp only
      rw [show c / 12 = 0 from by omega]
      exact fun z => hneg z.2.2.1
def zc_X5_findWays (a : List Value) (M : zMm) (K : zKt) : Prop := match a with
  | [.ref k, .ref k', .int x] => k = 10 ∧ k' = 1 ∧ zxw M ∧ ∃ w h H D c, zld M w h H D ∧ x = nI c ∧ c < 120 ∧ wil w h c ∧ ∀ M', zsm [10, 16, 17] M M' → (∀ j, j ≠ 10 → M'.2.1 10 j = M.2.1 10 j) → M'.2.1 10 10 = nI (wct (wpo (wdr w h H D c)) 4) → (∀ i d, (wds (wdr w h H D c) 4)[i]? = some d → (∃ e, wnb w h c d = some e ∧ M'.2.1 16 i = nI e) ∧ M'.2.1 17 i = nI (wdr w h H D c d)) → K none M'
  | _ => False
set_option maxHeartbeats 1000000 in
theorem zm_X5_findWays (l : Launch) (D : va_G) (Y : Nat → ClassId) : zMt l D Y yX5_findWays cX5_findWays 7 none 1 22 0 0 zc_X5_findWays := by
  refine zwhile1 (h0 := 7) (by decide) (fun K J _ _ => zb_X5_findWays_0 K J) (fun K _ _ J => zb_X5_findWays_7 K J) (fun X hR J hJ => zbs_X5_findWays_0 hR J hJ) (fun X hR J hJ => zbs_X5_findWays_7 hR J hJ) (fun avs M K h => ?_)
  unfold zc_X5_findWays at h
  split at h
  · next k k' x =>
    obtain ⟨rfl, rfl, hx, w, h', H, D, c, hld, rfl, hc, hil, h⟩ := h
    refine ⟨by simp [zent], fun q M' ls st => ∃ d o1 o2 o3, q = 4 - d ∧ d ≤ 4 ∧ ls = [some (.ref 10), some (.ref 1), some (.int (nI c)), some (.int (nI d)), o1, o2, o3] ∧ st = [] ∧ zsm [10, 16, 17] M M' ∧ (∀ j, j ≠ 10 → M'.2.1 10 j = M.2.1 10 j) ∧ M'.2.1 10 10 = nI (wct (wpo (wdr w h' H D c)) d) ∧ (∀ i e, (wds (wdr w h' H D c) d)[i]? = some e → (∃ x, wnb w h' c e = some x ∧ M'.2.1 16 i = nI x) ∧ M'.2.1 17 i = nI (wdr w h' H D c e)), ?_, ?_⟩
    · rintro q J hJ M' ls st ⟨d, o1, o2, o3, rfl, hd, rfl, rfl, hs, h10, hn, hc'⟩
      obtain ⟨hw1, hh1, hw, hh, hH, hD⟩ := hld.to hs (by simp) (by simp) (by simp)
      obtain ⟨x0, x1, x2, x3, x4, x5, x6, x7, x8⟩ := hx.to hs
      have hct := wct_le (wpo (wdr w h' H D c)) d
      simp only [zb_X5_findWays_7, zT_push, zT_bin, zT_div, zT_bil, zT_shl, zT_un, zT_i2l, zT_l2i, zT_lcmp, zT_ild, zT_lld, zT_ald, zT_ist, zT_lst, zT_ast, zT_iinc, zT_dup, zT_dup2, zT_pop, zT_if1, zT_if2, zT_ifn, zT_getI, zT_getJ, zT_getR, zT_putI, zT_putZ, zT_putJ, zT_putR, zT_ald0, zT_lald, zT_aald, zT_iast, zT_zast, zT_bast, zT_last, zT_aast, zT_iret, zT_nret, zT_aret, zT_vret, zT_oi, zT_mm, zT_ialX, zT_S1, zT_S2, zT_S3, zT_V0, zT_V1, zT_V2, zT_V3, zT_V4, zT_V5, zT_V6, zT_I0, zT_I1, zT_I2, zlg, zlset, zlpr, zent, zok, va_rf, List.length_cons, List.length_nil, List.replicate, List.cons_append, List.nil_append, List.append_nil, Option.toList_some, Option.toList_none, Option.toList, Nat.reduceAdd, Nat.reduceSub, Nat.reduceLeDiff, Nat.zero_add, Nat.zero_le, true_and, and_true, Nat.le_refl, ge_iff_le, Nat.reduceEqDiff]
      refine ⟨fun h1 => ?_, fun h1 => ?_⟩
      · have := zn_ge' (b := 4) h1 (by omega) (by omega)
        have e : d = 4 := by omega
        subst e
        exact h M' hs h10 hn hc'
      · have hlt := zn_ge (b := 4) h1 (by omega) (by omega)
        rw [show (12 : Int32) = nI 12 from rfl, pk_rem (by omega) (by omega) (by omega), pk_div (by omega) (by omega) (by omega), nI_clamp (n := d) (by omega)]
        refine ⟨by decide, vp_in_nI hlt (by decide), by decide, vp_in_nI hlt (by decide), rfl, ?_⟩
        have ws := wside hw hh hil hlt
        have hHc := hH c hc
        have skip : wpo (wdr w h' H D c) d = false → ∀ o1 o2 o3, zb_X5_findWays_126 K J M' [some (.ref 10), some (.ref 1), some (.int (nI c)), some (.int (nI d)), o1, o2, o3] [] := by
          intro hp o1 o2 o3
          simp only [zb_X5_findWays_126, zT_push, zT_bin, zT_div, zT_bil, zT_shl, zT_un, zT_i2l, zT_l2i, zT_lcmp, zT_ild, zT_lld, zT_ald, zT_ist, zT_lst, zT_ast, zT_iinc, zT_dup, zT_dup2, zT_pop, zT_if1, zT_if2, zT_ifn, zT_getI, zT_getJ, zT_getR, zT_putI, zT_putZ, zT_putJ, zT_putR, zT_ald0, zT_lald, zT_aald, zT_iast, zT_zast, zT_bast, zT_last, zT_aast, zT_iret, zT_nret, zT_aret, zT_vret, zT_oi, zT_mm, zT_ialX, zT_S1, zT_S2, zT_S3, zT_V0, zT_V1, zT_V2, zT_V3, zT_V4, zT_V5, zT_V6, zT_I0, zT_I1, zT_I2, zlg, zlset, zlpr, zent, zok, va_rf, List.length_cons, List.length_nil, List.replicate, List.cons_append, List.nil_append, List.append_nil, Option.toList_some, Option.toList_none, Option.toList, Nat.reduceAdd, Nat.reduceSub, Nat.reduceLeDiff, Nat.zero_add, Nat.zero_le, true_and, and_true, Nat.le_refl, ge_iff_le, Nat.reduceEqDiff]
          refine hJ (4 - (d + 1)) _ _ _ (by omega) ⟨d + 1, o1, o2, o3, rfl, hlt, by rw [nI_1], rfl, hs, h10, ?_, fun i e he => ?_⟩
          · rw [hn]
            show _ = nI (wct _ d + if wpo _ d = true then 1 else 0)
            rw [hp]
            rfl
          · rw [wds_s, hp] at he
            simp only [Bool.false_eq_true, if_false, List.append_nil] at he
            exact hc' i e he
        unfold zc_X1_has
        dsimp only
        refine ⟨rfl, ?_⟩
        rw [hw1, hh1]
        simp only [zbI_0, x0, x1, x5, x6, zsh_10, zsh_11, zsh_12, zsh_16, zsh_17, zT_push, zT_bin, zT_div, zT_bil, zT_shl, zT_un, zT_i2l, zT_l2i, zT_lcmp, zT_ild, zT_lld, zT_ald, zT_ist, zT_lst, zT_ast, zT_iinc, zT_dup, zT_dup2, zT_pop, zT_if1, zT_if2, zT_ifn, zT_getI, zT_getJ, zT_getR, zT_putI, zT_putZ, zT_putJ, zT_putR, zT_ald0, zT_lald, zT_aald, zT_iast, zT_zast, zT_bast, zT_last, zT_aast, zT_iret, zT_nret, zT_aret, zT_vret, zT_oi, zT_mm, zT_ialX, zT_S1, zT_S2, zT_S3, zT_V0, zT_V1, zT_V2, zT_V3, zT_V4, zT_V5, zT_V6, zT_I0, zT_I1, zT_I2, zlg, zlset, zlpr, zent, zok, va_rf, List.length_cons, List.length_nil, List.replicate, List.cons_append, List.nil_append, List.append_nil, Option.toList_some, Option.toList_none, Option.toList, Nat.reduceAdd, Nat.reduceSub, Nat.reduceLeDiff, Nat.zero_add, Nat.zero_le, true_and, and_true, Nat.le_refl, ge_iff_le, Nat.reduceEqDiff]
        cases hnb : wnb w h' c d with
        | none =>
          rw [hnb] at ws
          refine ⟨fun _ => skip ?_ _ _ _, fun z => absurd ws z⟩
          unfold wpo wdr
          rw [hnb]
          rfl
        | some e =>
          rw [hnb] at ws
          dsimp only at ws
          obtain ⟨w1, w2, w3, w4⟩ := ws
          have hHe := hH e w3
          refine ⟨fun z => absurd w1 z, fun _ => ?_⟩
          unfold zc_X7_cellAt
          dsimp only
          rw [w2]
          simp only [x0, x1, x5, x6, zsh_10, zsh_11, zsh_12, zsh_16, zsh_17, zT_push, zT_bin, zT_div, zT_bil, zT_shl, zT_un, zT_i2l, zT_l2i, zT_lcmp, zT_ild, zT_lld, zT_ald, zT_ist, zT_lst, zT_ast, zT_iinc, zT_dup, zT_dup2, zT_pop, zT_if1, zT_if2, zT_ifn, zT_getI, zT_getJ, zT_getR, zT_putI, zT_putZ, zT_putJ, zT_putR, zT_ald0, zT_lald, zT_aald, zT_iast, zT_zast, zT_bast, zT_last, zT_aast, zT_iret, zT_nret, zT_aret, zT_vret, zT_oi, zT_mm, zT_ialX, zT_S1, zT_S2, zT_S3, zT_V0, zT_V1, zT_V2, zT_V3, zT_V4, zT_V5, zT_V6, zT_I0, zT_I1, zT_I2, zlg, zlset, zlpr, zent, zok, va_rf, List.length_cons, List.length_nil, List.replicate, List.cons_append, List.nil_append, List.append_nil, Option.toList_some, Option.toList_none, Option.toList, Nat.reduceAdd, Nat.reduceSub, Nat.reduceLeDiff, Nat.zero_add, Nat.zero_le, true_and, and_true, Nat.le_refl, ge_iff_le, Nat.reduceEqDiff, zwI_L, zwI_I, zwI_J, zwI_R, zwJ_L, zwJ_I, zwJ_J, zwJ_R, zwR_L, zwR_I, zwR_J, zwR_R, zw2_s, zw2_n, ne_eq, not_false_eq_true, reduceCtorEq, not_true_eq_false, Nat.reduceEqDiff]
          rw [nI_clamp (n := e) (by omega), nI_clamp (n := c) (by omega), hHe.1, hHc.1, hD e w3]
          have hwdr : wdr w h' H D c d = if D e = true then 0 else H c - H e := by
            unfold wdr
            rw [hnb]
          refine ⟨vp_in_nI w3 (by decide), vp_in_nI hc (by decide), fun h2 => skip ?_ _ _ _, fun h2 => ⟨vp_in_nI w3 (by decide), fun h3 => ?_, fun h3 => skip ?_ _ _ _⟩⟩
          · have := zn_ge' h2 (by omega) (by omega)
            unfold wpo
            rw [hwdr]
            split <;> simp
            omega
          · have h4 := zn_ge h2 (by omega) (by omega)
            have hDe : D e = false := by
              cases hq : D e with
              | false => rfl
              | true => rw [hq] at h3; exact absurd h3 (by decide)
            have hp : wpo (wdr w h' H D c) d = true := by
              unfold wpo
              rw [hwdr, hDe]
              simp
              omega
            have hdr : wdr w h' H D c d = H c - H e := by
              rw [hwdr, hDe]
              rfl
            rw [hn, nI_clamp (by omega), pk_sub (by omega), nI_1]
            simp only [zb_X5_findWays_126, zT_push, zT_bin, zT_div, zT_bil, zT_shl, zT_un, zT_i2l, zT_l2i, zT_lcmp, zT_ild, zT_lld, zT_ald, zT_ist, zT_lst, zT_ast, zT_iinc, zT_dup, zT_dup2, zT_pop, zT_if1, zT_if2, zT_ifn, zT_getI, zT_getJ, zT_getR, zT_putI, zT_putZ, zT_putJ, zT_putR, zT_ald0, zT_lald, zT_aald, zT_iast, zT_zast, zT_bast, zT_last, zT_aast, zT_iret, zT_nret, zT_aret, zT_vret, zT_oi, zT_mm, zT_ialX, zT_S1, zT_S2, zT_S3, zT_V0, zT_V1, zT_V2, zT_V3, zT_V4, zT_V5, zT_V6, zT_I0, zT_I1, zT_I2, zlg, zlset, zlpr, zent, zok, va_rf, List.length_cons, List.length_nil, List.replicate, List.cons_append, List.nil_append, List.append_nil, Option.toList_some, Option.toList_none, Option.toList, Nat.reduceAdd, Nat.reduceSub, Nat.reduceLeDiff, Nat.zero_add, Nat.zero_le, true_and, and_true, Nat.le_refl, ge_iff_le, Nat.reduceEqDiff]
            refine ⟨vp_in_nI (by omega) (by decide), vp_in_nI hc (by decide), vp_in_nI w3 (by decide), vp_in_nI (by omega) (by decide), hJ (4 - (d + 1)) _ _ _ (by omega) ⟨d + 1, _, _, _, rfl, hlt, by rw [nI_1], rfl, ((hs.w (by simp)).w (by simp)).w (by simp), fun j hj => ?_, ?_, fun i e' he => ?_⟩⟩
            · simp only [zwI_L, zwI_I, zwI_J, zwI_R, zwJ_L, zwJ_I, zwJ_J, zwJ_R, zwR_L, zwR_I, zwR_J, zwR_R, zw2_s, zw2_n, ne_eq, not_false_eq_true, reduceCtorEq, not_true_eq_false, Nat.reduceEqDiff]
              rw [zup_n hj]
              exact h10 j hj
            · simp only [zwI_L, zwI_I, zwI_J, zwI_R, zwJ_L, zwJ_I, zwJ_J, zwJ_R, zwR_L, zwR_I, zwR_J, zwR_R, zw2_s, zw2_n, ne_eq, not_false_eq_true, reduceCtorEq, not_true_eq_false, Nat.reduceEqDiff, zup_s]
              show _ = nI (wct _ d + if wpo _ d = true then 1 else 0)
              rw [hp]
              rfl
            · rw [wds_s, hp] at he
              simp only [if_true] at he
              simp only [zwI_L, zwI_I, zwI_J, zwI_R, zwJ_L, zwJ_I, zwJ_J, zwJ_R, zwR_L, zwR_I, zwR_J, zwR_R, zw2_s, zw2_n, ne_eq, not_false_eq_true, reduceCtorEq, not_true_eq_false, Nat.reduceEqDiff]
              by_cases hi : i < (wds (wdr w h' H D c) d).length
              · rw [List.getElem?_append_left hi] at he
                rw [wds_len] at hi
                rw [zup_n (by omega), zup_n (by omega)]
                exact hc' i e' he
              · rw [List.getElem?_append_right (by omega)] at he
                have hz : i - (wds (wdr w h' H D c) d).length < 1 := (List.getElem?_eq_some_iff.mp he).1
                have ei : i = (wds (wdr w h' H D c) d).length := by omega
                rw [ei, Nat.sub_self] at he
                cases he
                rw [wds_len] at ei
                subst ei
                rw [zup_s, zup_s, hdr]
                exact ⟨⟨e, hnb, rfl⟩, rfl⟩
          · have hDe : D e = true := by
              cases hq : D e with
              | true => rfl
              | false => rw [hq] at h3; exact absurd rfl h3
            unfold wpo
            rw [hwdr, hDe]
            rfl
    · intro J hJ
      simp only [zb_X5_findWays_0, zsh_10, zT_push, zT_bin, zT_div, zT_bil, zT_shl, zT_un, zT_i2l, zT_l2i, zT_lcmp, zT_ild, zT_lld, zT_ald, zT_ist, zT_lst, zT_ast, zT_iinc, zT_dup, zT_dup2, zT_pop, zT_if1, zT_if2, zT_ifn, zT_getI, zT_getJ, zT_getR, zT_putI, zT_putZ, zT_putJ, zT_putR, zT_ald0, zT_lald, zT_aald, zT_iast, zT_zast, zT_bast, zT_last, zT_aast, zT_iret, zT_nret, zT_aret, zT_vret, zT_oi, zT_mm, zT_ialX, zT_S1, zT_S2, zT_S3, zT_V0, zT_V1, zT_V2, zT_V3, zT_V4, zT_V5, zT_V6, zT_I0, zT_I1, zT_I2, zlg, zlset, zlpr, zent, zok, va_rf, List.length_cons, List.length_nil, List.replicate, List.cons_append, List.nil_append, List.append_nil, Option.toList_some, Option.toList_none, Option.toList, Nat.reduceAdd, Nat.reduceSub, Nat.reduceLeDiff, Nat.zero_add, Nat.zero_le, true_and, and_true, Nat.le_refl, ge_iff_le, Nat.reduceEqDiff]
      exact hJ 4 _ _ _ ⟨0, none, none, none, rfl, by omega, rfl, rfl, zsm.rf.w (by simp), fun j hj => by simp only [zwI_L, zwI_I, zwI_J, zwI_R, zwJ_L, zwJ_I, zwJ_J, zwJ_R, zwR_L, zwR_I, zwR_J, zwR_R, zw2_s, zw2_n, ne_eq, not_false_eq_true, reduceCtorEq, not_true_eq_false, Nat.reduceEqDiff]; rw [zup_n hj], by simp only [zwI_L, zwI_I, zwI_J, zwI_R, zwJ_L, zwJ_I, zwJ_J, zwJ_R, zwR_L, zwR_I, zwR_J, zwR_R, zw2_s, zw2_n, ne_eq, not_false_eq_true, reduceCtorEq, not_true_eq_false, Nat.reduceEqDiff, zup_s]; rfl, fun i e he => by simp [wds] at he⟩
  · exact h.elim
end
section
/-! PURE: what a cell gives to its sides -/
def wfg (g : Nat → Nat) : Nat → Nat
  | 0 => 0
  | n + 1 => if n = 0 then 0 else if g (wfg g n) < g n then n else wfg g n
theorem wfg_le (g : Nat → Nat) : ∀ n, wfg g n ≤ n - 1
  | 0 => Nat.le_refl _
  | n + 1 => by
    have := wfg_le g n
    unfold wfg
    split
    · omega
    · split <;> omega
theorem wfg_max (f : Nat → Nat) : ∀ n i, i < n → f i ≤ f (wfg f n) ∧ (i < wfg f n → f i < f (wfg f n))
  | 0, i, h => absurd h (Nat.not_lt_zero _)
  | n + 1, i, h => by
    unfold wfg
    by_cases e : n = 0
    · subst e
      have : i = 0 := by omega
      subst this
      simp
    · rw [if_neg e]
      have hl := wfg_le f n
      by_cases hq : f (wfg f n) < f n
      · rw [if_pos hq]
        by_cases ei : i = n
        · subst ei; simp
        · have := (wfg_max f n i (by omega)).1
          exact ⟨by omega, fun _ => by omega⟩
      · rw [if_neg hq]
        by_cases ei : i = n
        · subst ei
          exact ⟨by omega, fun z => by omega⟩
        · exact wfg_max f n i (by omega)
theorem wfg_uniq {g : Nat → Nat} {n d : Nat} (hd : d < n) (h1 : ∀ j, j < n → g j ≤ g d) (h2 : ∀ j, j < d → g j < g d) : wfg g n = d := by
  have hl := wfg_le g n
  have h3 := wfg_max g n d hd
  have h4 := h1 (wfg g n) (by omega)
  rcases Nat.lt_trichotomy (wfg g n) d with q | q | q
  · have := h2 _ q
    omega
  · exact q
  · have := h3.2 q
    omega
def wgv (sort f : Nat) (r : Nat → Nat) (d : Nat) : Nat :=
  if r d = 0 then 0 else if sort = 0 then (if d = wfg r 4 then f else 0)
  else if sort = 1 then f / wct (wpo r) 4 + (if wct (wpo r) d < f % wct (wpo r) 4 then 1 else 0)
  else f * r d / wsm r 4 + (if wct (fun o => wpo r o && wah (fun j => f * r j % wsm r 4) d o) 4 < f - wsm (fun j => f * r j / wsm r 4) 4 then 1 else 0)
theorem wat_l {a b : List Nat} {i : Nat} (h : i < a.length) : wat (a ++ b) i = wat a i := by
  have h1 := wat_get h
  have h2 : (a ++ b)[i]? = some (wat a i) := by rw [List.getElem?_append_left h]; exact h1
  exact (wat_of h2).2
theorem wat_r {a : List Nat} {x : Nat} : wat (a ++ [x]) a.length = x := by
  have h2 : (a ++ [x])[a.length]? = some x := by rw [List.getElem?_append_right (Nat.le_refl _), Nat.sub_self]; rfl
  exact (wat_of h2).2
theorem wds_sum (r g : Nat → Nat) : ∀ m, wsm (fun i => g (wat (wds r m) i)) (wct (wpo r) m) = wsm (fun d => if wpo r d = true then g d else 0) m
  | 0 => rfl
  | m + 1 => by
    have ih := wds_sum r g m
    have hl := wds_len r m
    show wsm _ (wct (wpo r) m + if wpo r m = true then 1 else 0) = wsm _ m + if wpo r m = true then g m else 0
    rw [← ih]
    by_cases hp : wpo r m = true
    · rw [if_pos hp, if_pos hp]
      show wsm _ (wct (wpo r) m) + _ = _
      have e1 : wsm (fun i => g (wat (wds r (m + 1)) i)) (wct (wpo r) m) = wsm (fun i => g (wat (wds r m) i)) (wct (wpo r) m) := wsm_congr fun i hi => by
        rw [wds_s, wat_l (by omega)]
      rw [e1]
      dsimp only
      rw [wds_s, if_pos hp, ← hl, wat_r]
    · rw [if_neg hp, if_neg hp, Nat.add_zero, Nat.add_zero]
      refine wsm_congr fun i hi => ?_
      rw [wds_s, if_neg hp, List.append_nil]
theorem wds_cnt (r : Nat → Nat) (p : Nat → Bool) : ∀ m, wct (fun i => p (wat (wds r m) i)) (wct (wpo r) m) = wct (fun d => wpo r d && p d) m
  | 0 => rfl
  | m + 1 => by
    have ih := wds_cnt r p m
    have hl := wds_len r m
    show wct _ (wct (wpo r) m + if wpo r m = true then 1 else 0) = wct _ m + if (wpo r m && p m) = true then 1 else 0
    rw [← ih]
    by_cases hp : wpo r m = true
    · rw [if_pos hp, hp, Bool.true_and]
      show wct _ (wct (wpo r) m) + _ = _
      have e1 : wct (fun i => p (wat (wds r (m + 1)) i)) (wct (wpo r) m) = wct (fun i => p (wat (wds r m) i)) (wct (wpo r) m) := wct_congr fun i hi => by
        rw [wds_s, wat_l (by omega)]
      rw [e1]
      have e2 : wat (wds r (m + 1)) (wct (wpo r) m) = m := by rw [wds_s, if_pos hp, ← hl, wat_r]
      simp only [e2]
    · have hp' : wpo r m = false := by
        cases hq : wpo r m with
        | false => rfl
        | true => exact absurd hq hp
      rw [if_neg hp, hp', Bool.false_and, Nat.add_zero]
      simp only [Bool.false_eq_true, if_false, Nat.add_zero]
      refine wct_congr fun i hi => ?_
      rw [wds_s, if_neg hp, List.append_nil]
theorem wpo_t {r : Nat → Nat} {d : Nat} : wpo r d = true ↔ 0 < r d := by simp [wpo]
theorem wds_ord {r : Nat → Nat} {m i k a b : Nat} (hi : (wds r m)[i]? = some a) (hk : (wds r m)[k]? = some b) : (k < i ↔ b < a) := by
  obtain ⟨a1, a2, a3⟩ := wds_get r m i a hi
  obtain ⟨b1, b2, b3⟩ := wds_get r m k b hk
  constructor
  · intro h
    rcases Nat.lt_trichotomy a b with q | q | q
    · have := wct_lt q a2
      omega
    · subst q; omega
    · exact q
  · intro h
    have := wct_lt h b2
    omega
/-- the class's three shares are the document's -/
theorem wshare0 {r : Nat → Nat} {row : Nat → Int32} {f i d : Nat} (hr : ∀ d, d < 4 → r d ≤ 200) (hrow : ∀ j e, (wds r 4)[j]? = some e → row j = nI (r e)) (hi : (wds r 4)[i]? = some d) : (if i = zfg row (wct (wpo r) 4) then f else 0) = wgv 0 f r d := by
  obtain ⟨d1, d2, d3⟩ := wds_get r 4 i d hi
  have hd0 := wpo_t.mp d2
  have hn : i < wct (wpo r) 4 := by
    have := (List.getElem?_eq_some_iff.mp hi).1
    rw [wds_len] at this
    exact this
  have hle := zfg_le row (wct (wpo r) 4)
  have hmx := zfg_max row (wct (wpo r) 4)
  generalize hz : zfg row (wct (wpo r) 4) = i0 at hle hmx ⊢
  have hi0 : i0 < (wds r 4).length := by rw [wds_len]; omega
  have hg0 := wat_get hi0
  obtain ⟨g1, g2, g3⟩ := wds_get r 4 i0 _ hg0
  generalize wat (wds r 4) i0 = d0 at hg0 g1 g2 g3
  have hg2 := wpo_t.mp g2
  have hw : wfg r 4 = d0 := by
    refine wfg_uniq g1 (fun j hj => ?_) (fun j hj => ?_)
    · by_cases hp : wpo r j = true
      · have hj' := wds_at r hj hp
        have hjl : wct (wpo r) j < wct (wpo r) 4 := by
          have := (List.getElem?_eq_some_iff.mp hj').1
          rw [wds_len] at this
          exact this
        have := (hmx _ hjl).1
        rw [hrow _ _ hj', hrow _ _ hg0, nI_leI (by have := hr j hj; omega) (by have := hr d0 g1; omega)] at this
        exact this
      · have : ¬ 0 < r j := fun z => hp (wpo_t.mpr z)
        omega
    · by_cases hp : wpo r j = true
      · have hj' := wds_at r (m := 4) (by omega) hp
        have hjl : wct (wpo r) j < wct (wpo r) 4 := by
          have := (List.getElem?_eq_some_iff.mp hj').1
          rw [wds_len] at this
          exact this
        have hlt := (wds_ord hg0 hj').mpr hj
        have := (hmx _ hjl).2 hlt
        rw [hrow _ _ hj', hrow _ _ hg0, nI_ltI (by have := hr j (by omega); omega) (by have := hr d0 g1; omega)] at this
        exact this
      · have : ¬ 0 < r j := fun z => hp (wpo_t.mpr z)
        omega
  have hr0 : ¬ r d = 0 := by omega
  unfold wgv
  rw [if_neg hr0, if_pos (rfl : 0 = 0), hw]
  by_cases e : i = i0
  · subst e
    rw [hi] at hg0
    cases hg0
    rw [if_pos rfl, if_pos rfl]
  · rw [if_neg e, if_neg]
    intro q
    subst q
    exact e (d3.trans g3.symm)
theorem wshare1 {r : Nat → Nat} {f i d : Nat} (hi : (wds r 4)[i]? = some d) : f / wct (wpo r) 4 + (if i < f % wct (wpo r) 4 then 1 else 0) = wgv 1 f r d := by
  obtain ⟨d1, d2, d3⟩ := wds_get r 4 i d hi
  have hd0 := wpo_t.mp d2
  have hr0 : ¬ r d = 0 := by omega
  unfold wgv
  rw [if_neg hr0, if_neg (by decide : ¬ 1 = 0), if_pos (rfl : 1 = 1), d3]
theorem wif_po {r g : Nat → Nat} (hg : ∀ d, r d = 0 → g d = 0) : (fun d => if wpo r d = true then g d else 0) = g := by
  funext d
  by_cases hp : wpo r d = true
  · rw [if_pos hp]
  · rw [if_neg hp, hg d]
    have : ¬ 0 < r d := fun z => hp (wpo_t.mpr z)
    omega
theorem wshare2 {r : Nat → Nat} {f i d : Nat} (hi : (wds r 4)[i]? = some d) : wsd (fun i => r (wat (wds r 4) i)) (wct (wpo r) 4) f i = wgv 2 f r d := by
  obtain ⟨d1, d2, d3⟩ := wds_get r 4 i d hi
  have hd0 := wpo_t.mp d2
  have hwi : wat (wds r 4) i = d := (wat_of hi).2
  have hr0 : ¬ r d = 0 := by omega
  unfold wgv wsd
  rw [if_neg hr0, if_neg (by decide : ¬ 2 = 0), if_neg (by decide : ¬ 2 = 1)]
  have e1 : wsm (fun i => r (wat (wds r 4) i)) (wct (wpo r) 4) = wsm r 4 := by
    rw [wds_sum r r 4, wif_po (fun d h => h)]
  rw [e1]
  have e2 : wsm (fun j => f * r (wat (wds r 4) j) / wsm r 4) (wct (wpo r) 4) = wsm (fun j => f * r j / wsm r 4) 4 := by
    rw [wds_sum r (fun d => f * r d / wsm r 4) 4, wif_po (fun d h => by rw [h, Nat.mul_zero, Nat.zero_div])]
  have e3 : wct (wah (fun j => f * r (wat (wds r 4) j) % wsm r 4) i) (wct (wpo r) 4) = wct (fun o => wpo r o && wah (fun j => f * r j % wsm r 4) d o) 4 := by
    rw [← wds_cnt r (fun o => wah (fun j => f * r j % wsm r 4) d o) 4]
    refine wct_congr fun k hk => ?_
    have hk' : k < (wds r 4).length := by rw [wds_len]; exact hk
    have ho := wds_ord hi (wat_get hk')
    unfold wah
    simp only [hwi, ho]
  rw [e2, e3]
  dsimp only
  rw [hwi]
theorem wgv_le {sort f : Nat} {r : Nat → Nat} {d : Nat} (hd : d < 4) : wgv sort f r d ≤ f + 1 := by
  unfold wgv
  split
  · omega
  · split
    · split <;> omega
    · split
      · have := Nat.div_le_self f (wct (wpo r) 4)
        split <;> omega
      · have h1 : f * r d / wsm r 4 ≤ f := by
          have hm := wsm_mem (f := r) hd
          rcases Nat.eq_zero_or_pos (wsm r 4) with q | q
          · rw [q, Nat.div_zero]; omega
          · refine Nat.div_le_of_le_mul ?_
            rw [Nat.mul_comm]
            exact Nat.mul_le_mul_right f hm
        split <;> omega
/-! pouring -/
abbrev wST : Type := (Nat → Nat) × List Nat
def wpr (f11 : Nat → Int32) (c f : Nat) (S : wST) : wST := (va_up S.1 c (S.1 c + f), if 0 < f ∧ S.1 c = 0 then win (zbb f11 c) c S.2 else S.2)
def wwf (S : wST) : Prop := S.2.Nodup ∧ (∀ x ∈ S.2, x < 120) ∧ ∀ x, x < 120 → (x ∈ S.2 ↔ 0 < S.1 x)
theorem wnd : ∀ (n : Nat) (L : List Nat), L.Nodup → (∀ x ∈ L, x < n) → L.length ≤ n
  | 0, L, _, h => by
    cases L with
    | nil => exact Nat.le_refl _
    | cons a l => exact absurd (h a List.mem_cons_self) (Nat.not_lt_zero _)
  | n + 1, L, hn, h => by
    by_cases hm : n ∈ L
    · have ih := wnd n (L.erase n) (hn.erase n) (fun x hx => by
        have h1 := h x (List.mem_of_mem_erase hx)
        have h2 : x ≠ n := (hn.mem_erase_iff.mp hx).1
        omega)
      rw [List.length_erase_of_mem hm] at ih
      omega
    · have ih := wnd n L hn (fun x hx => by
        have h1 := h x hx
        have h2 : x ≠ n := fun e => hm (e ▸ hx)
        omega)
      omega
theorem wwf_room {S : wST} (h : wwf S) {c : Nat} (hc : c < 120) (h0 : S.1 c = 0) : S.2.length < 120 := by
  have hnc : c ∉ S.2 := fun z => by
    have := (h.2.2 c hc).mp z
    omega
  have := wnd 120 (c :: S.2) (List.nodup_cons.mpr ⟨hnc, h.1⟩) (fun x hx => (List.mem_cons.mp hx).elim (fun e => by omega) (h.2.1 x))
  simp at this
  omega
theorem win_nd {b : Nat → Bool} {c : Nat} {L : List Nat} (hn : L.Nodup) (hc : c ∉ L) : (win b c L).Nodup := by
  unfold win
  have h0 := List.take_append_drop (wps b (wat L) L.length) L
  rw [← h0] at hn hc
  rw [List.nodup_append] at hn ⊢
  obtain ⟨n1, n2, n3⟩ := hn
  rw [List.mem_append] at hc
  refine ⟨n1, List.nodup_cons.mpr ⟨fun z => hc (Or.inr z), n2⟩, fun x hx y hy => ?_⟩
  rcases List.mem_cons.mp hy with rfl | hy
  · exact fun e => hc (Or.inl (e ▸ hx))
  · exact n3 x hx y hy
theorem wpr_wf {f11 : Nat → Int32} {c f : Nat} {S : wST} (h : wwf S) (hc : c < 120) : wwf (wpr f11 c f S) := by
  unfold wpr
  by_cases hq : 0 < f ∧ S.1 c = 0
  · rw [if_pos hq]
    have hnc : c ∉ S.2 := fun z => by
      have := (h.2.2 c hc).mp z
      omega
    refine ⟨win_nd h.1 hnc, fun x hx => ?_, fun x hx => ?_⟩
    · rcases win_mem.mp hx with rfl | hx
      · exact hc
      · exact h.2.1 x hx
    · dsimp only
      rw [win_mem, zup_at]
      by_cases e : x = c
      · subst e
        rw [if_pos rfl]
        constructor
        · intro _; omega
        · intro _; exact Or.inl rfl
      · rw [if_neg e, ← h.2.2 x hx]
        constructor
        · rintro (z | z)
          · exact absurd z e
          · exact z
        · exact Or.inr
  · rw [if_neg hq]
    refine ⟨h.1, h.2.1, fun x hx => ?_⟩
    dsimp only
    rw [zup_at]
    by_cases e : x = c
    · subst e
      rw [if_pos rfl, h.2.2 x hx]
      omega
    · rw [if_neg e]
      exact h.2.2 x hx
def wgo (f11 : Nat → Int32) (nb gv : Nat → Nat) (ds : List Nat) (S : wST) : wST := ds.foldl (fun S d => wpr f11 (nb d) (gv d) S) S
theorem wgo_wf {f11 : Nat → Int32} {nb gv : Nat → Nat} : ∀ {ds : List Nat} {S : wST}, wwf S → (∀ d ∈ ds, nb d < 120) → wwf (wgo f11 nb gv ds S)
  | [], S, h, _ => h
  | d :: ds, S, h, hb => wgo_wf (ds := ds) (wpr_wf h (hb d List.mem_cons_self)) (fun d' hd' => hb d' (List.mem_cons_of_mem _ hd'))
theorem wgo_bd {f11 : Nat → Int32} {nb gv : Nat → Nat} {B : Nat} : ∀ {ds : List Nat} {S : wST}, (∀ d ∈ ds, gv d ≤ B) → ∀ e, (wgo f11 nb gv ds S).1 e ≤ S.1 e + ds.length * B
  | [], S, _, e => by simp [wgo]
  | d :: ds, S, hb, e => by
    have ih := wgo_bd (f11 := f11) (nb := nb) (gv := gv) (ds := ds) (S := wpr f11 (nb d) (gv d) S) (fun d' hd' => hb d' (List.mem_cons_of_mem _ hd')) e
    have h1 : (wpr f11 (nb d) (gv d) S).1 e ≤ S.1 e + B := by
      show va_up S.1 (nb d) (S.1 (nb d) + gv d) e ≤ _
      rw [zup_at]
      have := hb d List.mem_cons_self
      split
      · next q => rw [q]; omega
      · omega
    show (wgo f11 nb gv ds (wpr f11 (nb d) (gv d) S)).1 e ≤ _
    rw [List.length_cons, Nat.succ_mul]
    omega
end
section
/-! DeltaRuns$Water giveOn -/
theorem zd_X5_giveOn_0 : decode cX5_giveOn 0 = .ok (.aload_n 0, 1) := by decide +kernel
theorem zd_X5_giveOn_1 : decode cX5_giveOn 1 = .ok (.aload_n 1, 1) := by decide +kernel
theorem zd_X5_giveOn_2 : decode cX5_giveOn 2 = .ok (.iload_n 2, 1) := by decide +kernel
theorem zd_X5_giveOn_3 : decode cX5_giveOn 3 = .ok (.invokevirtual 72, 3) := by decide +kernel
theorem zd_X5_giveOn_6 : decode cX5_giveOn 6 = .ok (.aload_n 0, 1) := by decide +kernel
theorem zd_X5_giveOn_7 : decode cX5_giveOn 7 = .ok (.getfield 22, 3) := by decide +kernel
theorem zd_X5_giveOn_10 : decode cX5_giveOn 10 = .ok (.iload_n 2, 1) := by decide +kernel
theorem zd_X5_giveOn_11 : decode cX5_giveOn 11 = .ok (.aload_n 0, 1) := by decide +kernel
theorem zd_X5_giveOn_12 : decode cX5_giveOn 12 = .ok (.getfield 76, 3) := by decide +kernel
theorem zd_X5_giveOn_15 : decode cX5_giveOn 15 = .ok (.ifCond .ne 7, 3) := by decide +kernel
theorem zd_X5_giveOn_18 : decode cX5_giveOn 18 = .ok (.iconst 1, 1) := by decide +kernel
theorem zd_X5_giveOn_19 : decode cX5_giveOn 19 = .ok (.goto 4, 3) := by decide +kernel
theorem zd_X5_giveOn_22 : decode cX5_giveOn 22 = .ok (.iconst 0, 1) := by decide +kernel
theorem zd_X5_giveOn_23 : decode cX5_giveOn 23 = .ok (.bastore, 1) := by decide +kernel
theorem zd_X5_giveOn_24 : decode cX5_giveOn 24 = .ok (.iload_n 3, 1) := by decide +kernel
theorem zd_X5_giveOn_25 : decode cX5_giveOn 25 = .ok (.ifCond .ne 16, 3) := by decide +kernel
theorem zd_X5_giveOn_28 : decode cX5_giveOn 28 = .ok (.aload_n 0, 1) := by decide +kernel
theorem zd_X5_giveOn_29 : decode cX5_giveOn 29 = .ok (.aload_n 0, 1) := by decide +kernel
theorem zd_X5_giveOn_30 : decode cX5_giveOn 30 = .ok (.getfield 19, 3) := by decide +kernel
theorem zd_X5_giveOn_33 : decode cX5_giveOn 33 = .ok (.iload_n 2, 1) := by decide +kernel
theorem zd_X5_giveOn_34 : decode cX5_giveOn 34 = .ok (.iaload, 1) := by decide +kernel
theorem zd_X5_giveOn_35 : decode cX5_giveOn 35 = .ok (.invokevirtual 79, 3) := by decide +kernel
theorem zd_X5_giveOn_38 : decode cX5_giveOn 38 = .ok (.goto 31, 3) := by decide +kernel
theorem zd_X5_giveOn_41 : decode cX5_giveOn 41 = .ok (.iload_n 3, 1) := by decide +kernel
theorem zd_X5_giveOn_42 : decode cX5_giveOn 42 = .ok (.iconst 1, 1) := by decide +kernel
theorem zd_X5_giveOn_43 : decode cX5_giveOn 43 = .ok (.if_icmp .ne 16, 3) := by decide +kernel
theorem zd_X5_giveOn_46 : decode cX5_giveOn 46 = .ok (.aload_n 0, 1) := by decide +kernel
theorem zd_X5_giveOn_47 : decode cX5_giveOn 47 = .ok (.aload_n 0, 1) := by decide +kernel
theorem zd_X5_giveOn_48 : decode cX5_giveOn 48 = .ok (.getfield 19, 3) := by decide +kernel
theorem zd_X5_giveOn_51 : decode cX5_giveOn 51 = .ok (.iload_n 2, 1) := by decide +kernel
theorem zd_X5_giveOn_52 : decode cX5_giveOn 52 = .ok (.iaload, 1) := by decide +kernel
theorem zd_X5_giveOn_53 : decode cX5_giveOn 53 = .ok (.invokevirtual 83, 3) := by decide +kernel
theorem zd_X5_giveOn_56 : decode cX5_giveOn 56 = .ok (.goto 13, 3) := by decide +kernel
theorem zd_X5_giveOn_59 : decode cX5_giveOn 59 = .ok (.aload_n 0, 1) := by decide +kernel
theorem zd_X5_giveOn_60 : decode cX5_giveOn 60 = .ok (.aload_n 0, 1) := by decide +kernel
theorem zd_X5_giveOn_61 : decode cX5_giveOn 61 = .ok (.getfield 19, 3) := by decide +kernel
theorem zd_X5_giveOn_64 : decode cX5_giveOn 64 = .ok (.iload_n 2, 1) := by decide +kernel
theorem zd_X5_giveOn_65 : decode cX5_giveOn 65 = .ok (.iaload, 1) := by decide +kernel
theorem zd_X5_giveOn_66 : decode cX5_giveOn 66 = .ok (.invokevirtual 86, 3) := by decide +kernel
theorem zd_X5_giveOn_69 : decode cX5_giveOn 69 = .ok (.iconst 0, 1) := by decide +kernel
theorem zd_X5_giveOn_70 : decode cX5_giveOn 70 = .ok (.istore 4, 2) := by decide +kernel
theorem zd_X5_giveOn_72 : decode cX5_giveOn 72 = .ok (.iload 4, 2) := by decide +kernel
theorem zd_X5_giveOn_74 : decode cX5_giveOn 74 = .ok (.aload_n 0, 1) := by decide +kernel
theorem zd_X5_giveOn_75 : decode cX5_giveOn 75 = .ok (.getfield 76, 3) := by decide +kernel
theorem zd_X5_giveOn_78 : decode cX5_giveOn 78 = .ok (.if_icmp .ge 27, 3) := by decide +kernel
theorem zd_X5_giveOn_81 : decode cX5_giveOn 81 = .ok (.aload_n 0, 1) := by decide +kernel
theorem zd_X5_giveOn_82 : decode cX5_giveOn 82 = .ok (.aload_n 0, 1) := by decide +kernel
theorem zd_X5_giveOn_83 : decode cX5_giveOn 83 = .ok (.getfield 28, 3) := by decide +kernel
theorem zd_X5_giveOn_86 : decode cX5_giveOn 86 = .ok (.iload 4, 2) := by decide +kernel
theorem zd_X5_giveOn_88 : decode cX5_giveOn 88 = .ok (.iaload, 1) := by decide +kernel
theorem zd_X5_giveOn_89 : decode cX5_giveOn 89 = .ok (.aload_n 0, 1) := by decide +kernel
theorem zd_X5_giveOn_90 : decode cX5_giveOn 90 = .ok (.getfield 34, 3) := by decide +kernel
theorem zd_X5_giveOn_93 : decode cX5_giveOn 93 = .ok (.iload 4, 2) := by decide +kernel
theorem zd_X5_giveOn_95 : decode cX5_giveOn 95 = .ok (.iaload, 1) := by decide +kernel
theorem zd_X5_giveOn_96 : decode cX5_giveOn 96 = .ok (.invokevirtual 52, 3) := by decide +kernel
theorem zd_X5_giveOn_99 : decode cX5_giveOn 99 = .ok (.iinc 4 1, 3) := by decide +kernel
theorem zd_X5_giveOn_102 : decode cX5_giveOn 102 = .ok (.goto (-30), 3) := by decide +kernel
theorem zd_X5_giveOn_105 : decode cX5_giveOn 105 = .ok (.return_, 1) := by decide +kernel
def zb_X5_giveOn_69 (K : zKt) (J : Nat → zPP) : zPP := zT_push (.int 0) (zT_ist 4 (J 72))
theorem zbs_X5_giveOn_69 {X : zCt} (hR : zRX X = { frames := 2, cells := 0, slots := 0, locals := 48 }) (J : Nat → zPP) (hJ : ∀ h ∈ ([72] : List Nat), zSd X RX5 "giveOn" cX5_giveOn 5 none h (J h)) : zSd X RX5 "giveOn" cX5_giveOn 5 none 69 (zb_X5_giveOn_69 (zKX X) J) := zs_iconst zd_X5_giveOn_69 (by decide) (zs_istore zd_X5_giveOn_70 (by decide) (hJ 72 (by decide)))
def zb_X5_giveOn_23 (K : zKt) (J : Nat → zPP) : zPP := zT_zast (zT_ild 3 (zT_if1 (fun x => x = 0) (zT_ald 0 (zT_ald 0 (zT_getR 5 2 11 (zT_ild 2 (zT_ald0 0 (zT_V1 zok 5 11 zc_X5_shareToLowest (zb_X5_giveOn_69 K J))))))) (zT_ild 3 (zT_push (.int 1) (zT_if2 (fun x y => x = y) (zT_ald 0 (zT_ald 0 (zT_getR 5 2 11 (zT_ild 2 (zT_ald0 0 (zT_V1 zok 5 11 zc_X5_shareEvenly (zb_X5_giveOn_69 K J))))))) (zT_ald 0 (zT_ald 0 (zT_getR 5 2 11 (zT_ild 2 (zT_ald0 0 (zT_V1 zok 5 11 zc_X5_shareByDrops (zb_X5_giveOn_69 K J))))))))))))
theorem zbs_X5_giveOn_23 {X : zCt} (hR : zRX X = { frames := 2, cells := 0, slots := 0, locals := 48 }) (J : Nat → zPP) (hJ : ∀ h ∈ ([72] : List Nat), zSd X RX5 "giveOn" cX5_giveOn 5 none h (J h)) : zSd X RX5 "giveOn" cX5_giveOn 5 none 23 (zb_X5_giveOn_23 (zKX X) J) := zs_zast zd_X5_giveOn_23 (zs_iload_n zd_X5_giveOn_24 rfl (zs_if_ne (tgt := 41) zd_X5_giveOn_25 (by decide) (zs_iload_n zd_X5_giveOn_41 rfl (zs_iconst zd_X5_giveOn_42 (by decide) (zs_icmp_ne (tgt := 59) zd_X5_giveOn_43 (by decide) (zs_aload_n zd_X5_giveOn_59 rfl (zs_aload_n zd_X5_giveOn_60 rfl (zs_getR (ci := 5) (j := 2) (T := TX5) rfl inX5 (by decide) gw_1_117 rfl zd_X5_giveOn_61 (zs_iload_n zd_X5_giveOn_64 rfl (zs_iald zd_X5_giveOn_65 (zs_V (ci := 5) rfl rfl (zm_X5_shareByDrops _ _ _) gw_3_14 gw_3_11 gw_3_13 gw_0_20 gw_1_5 zdn_X5_shareByDrops (zrm hR (by decide) (by decide)) zd_X5_giveOn_66 (zCl_V1 zok_l) (zbs_X5_giveOn_69 hR J hJ))))))) (zs_aload_n zd_X5_giveOn_46 rfl (zs_aload_n zd_X5_giveOn_47 rfl (zs_getR (ci := 5) (j := 2) (T := TX5) rfl inX5 (by decide) gw_1_117 rfl zd_X5_giveOn_48 (zs_iload_n zd_X5_giveOn_51 rfl (zs_iald zd_X5_giveOn_52 (zs_V (ci := 5) rfl rfl (zm_X5_shareEvenly _ _ _) gw_3_10 gw_3_7 gw_3_9 gw_0_19 gw_1_5 zdn_X5_shareEvenly (zrm hR (by decide) (by decide)) zd_X5_giveOn_53 (zCl_V1 zok_l) (zs_goto (tgt := 69) zd_X5_giveOn_56 (by decide) (zbs_X5_giveOn_69 hR J hJ))))))))))) (zs_aload_n zd_X5_giveOn_28 rfl (zs_aload_n zd_X5_giveOn_29 rfl (zs_getR (ci := 5) (j := 2) (T := TX5) rfl inX5 (by decide) gw_1_117 rfl zd_X5_giveOn_30 (zs_iload_n zd_X5_giveOn_33 rfl (zs_iald zd_X5_giveOn_34 (zs_V (ci := 5) rfl rfl (zm_X5_shareToLowest _ _ _) gw_3_2 gw_2_239 gw_3_1 gw_0_17 gw_1_5 zdn_X5_shareToLowest (zrm hR (by decide) (by decide)) zd_X5_giveOn_35 (zCl_V1 zok_l) (zs_goto (tgt := 69) zd_X5_giveOn_38 (by decide) (zbs_X5_giveOn_69 hR J hJ))))))))))
def zb_X5_giveOn_0 (K : zKt) (J : Nat → zPP) : zPP := zT_ald 0 (zT_ald 1 (zT_ild 2 (zT_V2 zok 5 11 zc_X5_findWays (zT_ald 0 (zT_getR 5 3 11 (zT_ild 2 (zT_ald 0 (zT_getI 5 10 11 (zT_if1 (fun x => x = 0) (zT_push (.int 1) (zb_X5_giveOn_23 K J)) (zT_push (.int 0) (zb_X5_giveOn_23 K J)))))))))))
theorem zbs_X5_giveOn_0 {X : zCt} (hR : zRX X = { frames := 2, cells := 0, slots := 0, locals := 48 }) (J : Nat → zPP) (hJ : ∀ h ∈ ([72] : List Nat), zSd X RX5 "giveOn" cX5_giveOn 5 none h (J h)) : zSd X RX5 "giveOn" cX5_giveOn 5 none 0 (zb_X5_giveOn_0 (zKX X) J) := zs_aload_n zd_X5_giveOn_0 rfl (zs_aload_n zd_X5_giveOn_1 rfl (zs_iload_n zd_X5_giveOn_2 rfl (zs_V (ci := 5) rfl rfl (zm_X5_findWays _ _ _) gw_2_232 gw_2_229 gw_2_231 gw_0_16 gw_1_5 zdn_X5_findWays (zrm hR (by decide) (by decide)) zd_X5_giveOn_3 (zCl_V2 zok_l) (zs_aload_n zd_X5_giveOn_6 rfl (zs_getR (ci := 5) (j := 3) (T := TX5) rfl inX5 (by decide) gw_1_119 rfl zd_X5_giveOn_7 (zs_iload_n zd_X5_giveOn_10 rfl (zs_aload_n zd_X5_giveOn_11 rfl (zs_getI (ci := 5) (j := 10) (T := TX5) rfl inX5 (by decide) gw_1_126 rfl zd_X5_giveOn_12 (zs_if_ne (tgt := 22) zd_X5_giveOn_15 (by decide) (zs_iconst zd_X5_giveOn_22 (by decide) (zbs_X5_giveOn_23 hR J hJ)) (zs_iconst zd_X5_giveOn_18 (by decide) (zs_goto (tgt := 23) zd_X5_giveOn_19 (by decide) (zbs_X5_giveOn_23 hR J hJ))))))))))))
def zb_X5_giveOn_72 (K : zKt) (J : Nat → zPP) : zPP := zT_ild 4 (zT_ald 0 (zT_getI 5 10 11 (zT_if2 (fun x y => y ≤ x) (zT_vret K) (zT_ald 0 (zT_ald 0 (zT_getR 5 6 11 (zT_ild 4 (zT_ald0 0 (zT_ald 0 (zT_getR 5 8 11 (zT_ild 4 (zT_ald0 0 (zT_V2 zok 5 11 zc_X5_pour (zT_iinc 4 1 (J 72)))))))))))))))
theorem zbs_X5_giveOn_72 {X : zCt} (hR : zRX X = { frames := 2, cells := 0, slots := 0, locals := 48 }) (J : Nat → zPP) (hJ : ∀ h ∈ ([72] : List Nat), zSd X RX5 "giveOn" cX5_giveOn 5 none h (J h)) : zSd X RX5 "giveOn" cX5_giveOn 5 none 72 (zb_X5_giveOn_72 (zKX X) J) := zs_iload zd_X5_giveOn_72 (zs_aload_n zd_X5_giveOn_74 rfl (zs_getI (ci := 5) (j := 10) (T := TX5) rfl inX5 (by decide) gw_1_126 rfl zd_X5_giveOn_75 (zs_icmp_ge (tgt := 105) zd_X5_giveOn_78 (by decide) (zs_vret rfl zd_X5_giveOn_105) (zs_aload_n zd_X5_giveOn_81 rfl (zs_aload_n zd_X5_giveOn_82 rfl (zs_getR (ci := 5) (j := 6) (T := TX5) rfl inX5 (by decide) gw_1_122 rfl zd_X5_giveOn_83 (zs_iload zd_X5_giveOn_86 (zs_iald zd_X5_giveOn_88 (zs_aload_n zd_X5_giveOn_89 rfl (zs_getR (ci := 5) (j := 8) (T := TX5) rfl inX5 (by decide) gw_1_124 rfl zd_X5_giveOn_90 (zs_iload zd_X5_giveOn_93 (zs_iald zd_X5_giveOn_95 (zs_V (ci := 5) rfl rfl (zm_X5_pour _ _ _) gw_2_220 gw_2_217 gw_2_219 gw_0_13 gw_1_5 zdn_X5_pour (zrm hR (by decide) (by decide)) zd_X5_giveOn_96 (zCl_V2 zok_l) (zs_iinc zd_X5_giveOn_99 (by decide) (by decide) (zs_goto (tgt := 72) zd_X5_giveOn_102 (by decide) (hJ 72 (by decide)))))))))))))))))
def zB_X5_giveOn (K : zKt) (J : Nat → zPP) (h : Nat) : zPP := if h = 72 then zb_X5_giveOn_72 K J else (fun _ _ _ => False)
theorem zBs_X5_giveOn {X : zCt} (hR : zRX X = { frames := 2, cells := 0, slots := 0, locals := 48 }) : ∀ J : Nat → zPP, (∀ h ∈ ([72] : List Nat), zSd X RX5 "giveOn" cX5_giveOn 5 none h (J h)) → ∀ h ∈ ([72] : List Nat), zSd X RX5 "giveOn" cX5_giveOn 5 none h (zB_X5_giveOn (zKX X) J h) := by
  intro J hJ h hh
  unfold zB_X5_giveOn
  simp only [List.mem_cons, List.not_mem_nil, or_false] at hh
  subst hh
  exact zbs_X5_giveOn_72 hR J hJ
theorem zdn_X5_giveOn : yX5_giveOn.cls ≠ "java/lang/invoke/MethodHandle" ∧ yX5_giveOn.cls ≠ "java/lang/invoke/VarHandle" ∧ (parseMethodDescriptor yX5_giveOn.desc).map (fun d => d.parameters.length) = some 3 := by decide +kernel
/-! WATER: giveOn -/
def wnx (w h c d : Nat) : Nat := (wnb w h c d).getD 0
def wgs (f11 : Nat → Int32) (w h : Nat) (H : Nat → Nat) (D : Nat → Bool) (sort c : Nat) (ds : List Nat) (S : wST) (f : Nat) : wST := wgo f11 (wnx w h c) (wgv sort f (wdr w h H D c)) ds S
theorem wdr_le {w h : Nat} {H : Nat → Nat} {D : Nat → Bool} {c d : Nat} (hc : H c ≤ 200) : wdr w h H D c d ≤ 200 := by
  unfold wdr
  split
  · split <;> omega
  · omega
theorem wgo_snoc {f11 : Nat → Int32} {nb gv : Nat → Nat} {ds : List Nat} {d : Nat} {S : wST} : wgo f11 nb gv (ds ++ [d]) S = wpr f11 (nb d) (gv d) (wgo f11 nb gv ds S) := by
  unfold wgo
  rw [List.foldl_append]
  rfl
def zc_X5_giveOn (a : List Value) (M : zMm) (K : zKt) : Prop := match a with
  | [.ref k, .ref k', .int x, .int y] => k = 10 ∧ k' = 1 ∧ zxw M ∧ ∃ w h H D c sort S, zld M w h H D ∧ x = nI c ∧ c < 120 ∧ wil w h c ∧ y = nI sort ∧ sort < 3 ∧ zwt M S.1 S.2 ∧ wwf S ∧ (∀ e, S.1 e ≤ 4000) ∧ S.1 c ≤ 1000 ∧ ∀ M', zsm [10, 13, 14, 15, 16, 17, 18, 19] M M' → M'.2.1 14 = va_up (M.2.1 14) c (if wct (wpo (wdr w h H D c)) 4 = 0 then 1 else 0) →
      zwt M' (wgs (M.2.1 11) w h H D sort c (wds (wdr w h H D c) 4) S (S.1 c)).1 (wgs (M.2.1 11) w h H D sort c (wds (wdr w h H D c) 4) S (S.1 c)).2 → K none M'
  | _ => False
set_option maxHeartbeats 2000000 in
theorem zm_X5_giveOn (l : Launch) (D : va_G) (Y : Nat → ClassId) : zMt l D Y yX5_giveOn cX5_giveOn 5 none 2 48 0 0 zc_X5_giveOn := by
  refine zwhile1 (h0 := 72) (by decide) (fun K J _ _ => zb_X5_giveOn_0 K J) (fun K _ _ J => zb_X5_giveOn_72 K J) (fun X hR J hJ => zbs_X5_giveOn_0 hR J hJ) (fun X hR J hJ => zbs_X5_giveOn_72 hR J hJ) (fun avs M K h => ?_)
  unfold zc_X5_giveOn at h
  split at h
  · next k k' x y =>
    obtain ⟨rfl, rfl, hx, w, h', H, D, c, sort, S, hld, rfl, hc, hil, rfl, hso, hwt, hwf, hbd, hAc, h⟩ := h
    have hH : H c ≤ 200 := (hld.2.2.2.2.1 c hc).2
    have hr200 : ∀ d, wdr w h' H D c d ≤ 200 := fun d => wdr_le hH
    have hwf' : ∀ ds, (∀ d ∈ ds, d < 4 ∧ wpo (wdr w h' H D c) d = true) → wwf (wgs (M.2.1 11) w h' H D sort c ds S (S.1 c)) := by
      intro ds hds
      refine wgo_wf hwf (fun d hd => ?_)
      obtain ⟨h1, h2⟩ := hds d hd
      have ws := wside hld.2.2.1 hld.2.2.2.1 hil h1
      have hp := wpo_t.mp h2
      unfold wdr at hp
      unfold wnx
      cases hnb : wnb w h' c d with
      | none => rw [hnb] at hp; exact absurd hp (Nat.lt_irrefl _)
      | some e => rw [hnb] at ws; exact ws.2.2.1
    generalize hr : wdr w h' H D c = r at h hr200 hwf'
    have hnl : wct (wpo r) 4 ≤ 4 := wct_le _ 4
    have hlen := wds_len r 4
    refine ⟨by simp [zent], fun q M' ls st => ∃ i, q = 4 - i ∧ i ≤ wct (wpo r) 4 ∧ ls = [some (.ref 10), some (.ref 1), some (.int (nI c)), some (.int (nI sort)), some (.int (nI i))] ∧ st = [] ∧ zsm [10, 13, 14, 15, 16, 17, 18, 19] M M' ∧ M'.2.1 14 = va_up (M.2.1 14) c (if wct (wpo r) 4 = 0 then 1 else 0) ∧
      zwt M' (wgs (M.2.1 11) w h' H D sort c ((wds r 4).take i) S (S.1 c)).1 (wgs (M.2.1 11) w h' H D sort c ((wds r 4).take i) S (S.1 c)).2 ∧ M'.2.1 10 10 = nI (wct (wpo r) 4) ∧ (∀ i d, (wds r 4)[i]? = some d → M'.2.1 16 i = nI (wnx w h' c d) ∧ wnx w h' c d < 120 ∧ M'.2.1 18 i = nI (wgv sort (S.1 c) r d)), ?_, ?_⟩
    · rintro q J hJ M' ls st ⟨i, rfl, hi, rfl, rfl, hs, h14, hw, hn, hws⟩
      obtain ⟨x0, x1, x2, x3, x4, x5, x6, x7, x8⟩ := hx.to hs
      simp only [zb_X5_giveOn_72, zsh_10, zsh_16, zsh_18, x5, x7, hn, zT_push, zT_bin, zT_div, zT_bil, zT_shl, zT_un, zT_i2l, zT_l2i, zT_lcmp, zT_ild, zT_lld, zT_ald, zT_ist, zT_lst, zT_ast, zT_iinc, zT_dup, zT_dup2, zT_pop, zT_if1, zT_if2, zT_ifn, zT_getI, zT_getJ, zT_getR, zT_putI, zT_putZ, zT_putJ, zT_putR, zT_ald0, zT_lald, zT_aald, zT_iast, zT_zast, zT_bast, zT_last, zT_aast, zT_iret, zT_nret, zT_aret, zT_vret, zT_oi, zT_mm, zT_ialX, zT_S1, zT_S2, zT_S3, zT_V0, zT_V1, zT_V2, zT_V3, zT_V4, zT_V5, zT_V6, zT_I0, zT_I1, zT_I2, zlg, zlset, zlpr, zent, zok, va_rf, List.length_cons, List.length_nil, List.replicate, List.cons_append, List.nil_append, List.append_nil, Option.toList_some, Option.toList_none, Option.toList, Nat.reduceAdd, Nat.reduceSub, Nat.reduceLeDiff, Nat.zero_add, Nat.zero_le, true_and, and_true, Nat.le_refl, ge_iff_le, Nat.reduceEqDiff]
      refine ⟨fun h1 => ?_, fun h1 => ?_⟩
      · have := zn_ge' h1 (by omega) (by omega)
        have e : i = (wds r 4).length := by omega
        subst e
        rw [List.take_length] at hw
        exact h M' hs h14 hw
      · have hlt := zn_ge h1 (by omega) (by omega)
        have hg := wat_get (L := wds r 4) (i := i) (by omega)
        obtain ⟨w1, w2, w3⟩ := hws i _ hg
        obtain ⟨d1, d2, d3⟩ := wds_get r 4 i _ hg
        have htk : (wds r 4).take (i + 1) = (wds r 4).take i ++ [wat (wds r 4) i] := by rw [List.take_succ, hg]; rfl
        generalize wat (wds r 4) i = d at hg w1 w2 w3 d1 d2 d3 htk
        have hwfi := hwf' ((wds r 4).take i) (fun d' hd' => by
          obtain ⟨j, hj⟩ := List.getElem?_of_mem (List.mem_of_mem_take hd')
          exact ⟨(wds_get r 4 j d' hj).1, (wds_get r 4 j d' hj).2.1⟩)
        have hgl : ∀ d', d' < 4 → wgv sort (S.1 c) r d' ≤ 1001 := fun d' hd' => by
          have := wgv_le (sort := sort) (f := S.1 c) (r := r) hd'
          omega
        have hbi : ∀ e, (wgs (M.2.1 11) w h' H D sort c ((wds r 4).take i) S (S.1 c)).1 e ≤ 8004 := by
          intro e
          have h2 := wgo_bd (f11 := M.2.1 11) (nb := wnx w h' c) (gv := wgv sort (S.1 c) (wdr w h' H D c)) (B := 1001) (ds := (wds r 4).take i) (S := S) (fun d' hd' => by
            obtain ⟨j, hj⟩ := List.getElem?_of_mem (List.mem_of_mem_take hd')
            rw [hr]
            exact hgl d' (wds_get r 4 j d' hj).1) e
          have h3 := hbd e
          have h4 : ((wds r 4).take i).length ≤ 4 := by rw [List.length_take]; omega
          have h5 := Nat.mul_le_mul_right 1001 h4
          unfold wgs
          omega
        rw [nI_clamp (by omega), w1, w3]
        refine ⟨vp_in_nI (by omega) (by decide), vp_in_nI (by omega) (by decide), ?_⟩
        unfold zc_X5_pour
        dsimp only
        refine ⟨rfl, hx.to hs, wnx w h' c d, wgv sort (S.1 c) r d, _, _, rfl, rfl, w2, by have := hgl d d1; omega, by have := hbi (wnx w h' c d); omega, hw, fun _ h0 => wwf_room hwfi w2 h0, fun M2 hs2 h102 hw2 => ?_⟩
        try simp only [zT_push, zT_bin, zT_div, zT_bil, zT_shl, zT_un, zT_i2l, zT_l2i, zT_lcmp, zT_ild, zT_lld, zT_ald, zT_ist, zT_lst, zT_ast, zT_iinc, zT_dup, zT_dup2, zT_pop, zT_if1, zT_if2, zT_ifn, zT_getI, zT_getJ, zT_getR, zT_putI, zT_putZ, zT_putJ, zT_putR, zT_ald0, zT_lald, zT_aald, zT_iast, zT_zast, zT_bast, zT_last, zT_aast, zT_iret, zT_nret, zT_aret, zT_vret, zT_oi, zT_mm, zT_ialX, zT_S1, zT_S2, zT_S3, zT_V0, zT_V1, zT_V2, zT_V3, zT_V4, zT_V5, zT_V6, zT_I0, zT_I1, zT_I2, zlg, zlset, zlpr, zent, zok, va_rf, List.length_cons, List.length_nil, List.replicate, List.cons_append, List.nil_append, List.append_nil, Option.toList_some, Option.toList_none, Option.toList, Nat.reduceAdd, Nat.reduceSub, Nat.reduceLeDiff, Nat.zero_add, Nat.zero_le, true_and, and_true, Nat.le_refl, ge_iff_le, Nat.reduceEqDiff]
        refine hJ (4 - (i + 1)) _ _ _ (by omega) ⟨i + 1, rfl, hlt, by rw [nI_1], rfl, hs.tr (hs2.up (by simp)), ?_, ?_, ?_, fun j e hj => ?_⟩
        · rw [hs2.2.2 14 (by simp)]; exact h14
        · rw [htk]
          unfold wgs
          rw [wgo_snoc]
          have h11 : M'.2.1 11 = M.2.1 11 := hs.2.2 11 (by simp)
          rw [h11] at hw2
          unfold wgs at hw2
          rw [hr] at hw2 ⊢
          exact hw2
        · rw [h102 10 (by decide)]; exact hn
        · rw [hs2.2.2 16 (by simp), hs2.2.2 18 (by simp)]
          exact hws j e hj
    · intro J hJ
      simp only [zb_X5_giveOn_0, zsh_10, zT_push, zT_bin, zT_div, zT_bil, zT_shl, zT_un, zT_i2l, zT_l2i, zT_lcmp, zT_ild, zT_lld, zT_ald, zT_ist, zT_lst, zT_ast, zT_iinc, zT_dup, zT_dup2, zT_pop, zT_if1, zT_if2, zT_ifn, zT_getI, zT_getJ, zT_getR, zT_putI, zT_putZ, zT_putJ, zT_putR, zT_ald0, zT_lald, zT_aald, zT_iast, zT_zast, zT_bast, zT_last, zT_aast, zT_iret, zT_nret, zT_aret, zT_vret, zT_oi, zT_mm, zT_ialX, zT_S1, zT_S2, zT_S3, zT_V0, zT_V1, zT_V2, zT_V3, zT_V4, zT_V5, zT_V6, zT_I0, zT_I1, zT_I2, zlg, zlset, zlpr, zent, zok, va_rf, List.length_cons, List.length_nil, List.replicate, List.cons_append, List.nil_append, List.append_nil, Option.toList_some, Option.toList_none, Option.toList, Nat.reduceAdd, Nat.reduceSub, Nat.reduceLeDiff, Nat.zero_add, Nat.zero_le, true_and, and_true, Nat.le_refl, ge_iff_le, Nat.reduceEqDiff]
      unfold zc_X5_findWays
      dsimp only
      refine ⟨rfl, rfl, hx, w, h', H, D, c, hld, rfl, hc, hil, fun M1 hs1 h101 hn1 hw1 => ?_⟩
      obtain ⟨x0, x1, x2, x3, x4, x5, x6, x7, x8⟩ := hx.to hs1
      rw [hr] at hn1 hw1
      -- the end of the three roads
      have fin : ∀ M2 o, zsm [10, 13, 14, 15, 16, 17, 18, 19] M M2 → M2.2.1 14 = va_up (M.2.1 14) c (if wct (wpo r) 4 = 0 then 1 else 0) → zwt M2 S.1 S.2 → M2.2.1 10 10 = nI (wct (wpo r) 4) → M2.2.1 16 = M1.2.1 16 → (∀ i d, (wds r 4)[i]? = some d → M2.2.1 18 i = nI (wgv sort (S.1 c) r d)) → zb_X5_giveOn_69 K J M2 [some (.ref 10), some (.ref 1), some (.int (nI c)), some (.int (nI sort)), o] [] := by
        intro M2 o hs2 h14 hw2 hn2 h16 h18
        simp only [zb_X5_giveOn_69, zT_push, zT_bin, zT_div, zT_bil, zT_shl, zT_un, zT_i2l, zT_l2i, zT_lcmp, zT_ild, zT_lld, zT_ald, zT_ist, zT_lst, zT_ast, zT_iinc, zT_dup, zT_dup2, zT_pop, zT_if1, zT_if2, zT_ifn, zT_getI, zT_getJ, zT_getR, zT_putI, zT_putZ, zT_putJ, zT_putR, zT_ald0, zT_lald, zT_aald, zT_iast, zT_zast, zT_bast, zT_last, zT_aast, zT_iret, zT_nret, zT_aret, zT_vret, zT_oi, zT_mm, zT_ialX, zT_S1, zT_S2, zT_S3, zT_V0, zT_V1, zT_V2, zT_V3, zT_V4, zT_V5, zT_V6, zT_I0, zT_I1, zT_I2, zlg, zlset, zlpr, zent, zok, va_rf, List.length_cons, List.length_nil, List.replicate, List.cons_append, List.nil_append, List.append_nil, Option.toList_some, Option.toList_none, Option.toList, Nat.reduceAdd, Nat.reduceSub, Nat.reduceLeDiff, Nat.zero_add, Nat.zero_le, true_and, and_true, Nat.le_refl, ge_iff_le, Nat.reduceEqDiff]
        refine hJ 4 _ _ _ ⟨0, rfl, Nat.zero_le _, rfl, rfl, hs2, h14, ?_, hn2, fun i d hi => ⟨?_, ?_, h18 i d hi⟩⟩
        · rw [List.take_zero]; exact hw2
        · obtain ⟨⟨e, he, h3⟩, -⟩ := hw1 i d hi
          rw [h16, h3]
          unfold wnx
          rw [he]
          rfl
        · obtain ⟨⟨e, he, -⟩, -⟩ := hw1 i d hi
          have ws := wside hld.2.2.1 hld.2.2.2.1 hil (wds_get r 4 i d hi).1
          rw [he] at ws
          unfold wnx
          rw [he]
          exact ws.2.2.1
      have mid : ∀ v, v = (if wct (wpo r) 4 = 0 then 1 else 0 : Int32) → zb_X5_giveOn_23 K J M1 [some (.ref 10), some (.ref 1), some (.int (nI c)), some (.int (nI sort)), none] [.int v, .int (nI c), .ref 14] := by
        intro v hv
        simp only [zb_X5_giveOn_23, zsh_10, zsh_13, zsh_14, x2, zT_push, zT_bin, zT_div, zT_bil, zT_shl, zT_un, zT_i2l, zT_l2i, zT_lcmp, zT_ild, zT_lld, zT_ald, zT_ist, zT_lst, zT_ast, zT_iinc, zT_dup, zT_dup2, zT_pop, zT_if1, zT_if2, zT_ifn, zT_getI, zT_getJ, zT_getR, zT_putI, zT_putZ, zT_putJ, zT_putR, zT_ald0, zT_lald, zT_aald, zT_iast, zT_zast, zT_bast, zT_last, zT_aast, zT_iret, zT_nret, zT_aret, zT_vret, zT_oi, zT_mm, zT_ialX, zT_S1, zT_S2, zT_S3, zT_V0, zT_V1, zT_V2, zT_V3, zT_V4, zT_V5, zT_V6, zT_I0, zT_I1, zT_I2, zlg, zlset, zlpr, zent, zok, va_rf, List.length_cons, List.length_nil, List.replicate, List.cons_append, List.nil_append, List.append_nil, Option.toList_some, Option.toList_none, Option.toList, Nat.reduceAdd, Nat.reduceSub, Nat.reduceLeDiff, Nat.zero_add, Nat.zero_le, true_and, and_true, Nat.le_refl, ge_iff_le, Nat.reduceEqDiff, zwI_L, zwI_I, zwI_J, zwI_R, zwJ_L, zwJ_I, zwJ_J, zwJ_R, zwR_L, zwR_I, zwR_J, zwR_R, zw2_s, zw2_n, ne_eq, not_false_eq_true, reduceCtorEq, not_true_eq_false, Nat.reduceEqDiff]
        rw [nI_clamp (by omega)]
        have hv01 : v = 0 ∨ v = 1 := by rw [hv]; split <;> simp
        have h13 : M1.2.1 13 = M.2.1 13 := hs1.2.2 13 (by simp)
        have hsm : zsm [10, 13, 14, 15, 16, 17, 18, 19] M (zwI M1 14 c v) := (hs1.up (by simp)).w (by simp)
        have h14 : (zwI M1 14 c v).2.1 14 = va_up (M.2.1 14) c (if wct (wpo r) 4 = 0 then 1 else 0) := by
          simp only [zwI_L, zwI_I, zwI_J, zwI_R, zwJ_L, zwJ_I, zwJ_J, zwJ_R, zwR_L, zwR_I, zwR_J, zwR_R, zw2_s, zw2_n, ne_eq, not_false_eq_true, reduceCtorEq, not_true_eq_false, Nat.reduceEqDiff]
          rw [hs1.2.2 14 (by simp), hv]
        have hx1 : zxw (zwI M1 14 c v) := hx.to hsm
        have hw2 : zwt (zwI M1 14 c v) S.1 S.2 := by
          obtain ⟨a1, a2, a3, a4⟩ := hwt
          refine ⟨fun e he => ?_, fun i x hi => ?_, ?_, a4⟩
          · simp only [zwI_L, zwI_I, zwI_J, zwI_R, zwJ_L, zwJ_I, zwJ_J, zwJ_R, zwR_L, zwR_I, zwR_J, zwR_R, zw2_s, zw2_n, ne_eq, not_false_eq_true, reduceCtorEq, not_true_eq_false, Nat.reduceEqDiff]; rw [h13]; exact a1 e he
          · simp only [zwI_L, zwI_I, zwI_J, zwI_R, zwJ_L, zwJ_I, zwJ_J, zwJ_R, zwR_L, zwR_I, zwR_J, zwR_R, zw2_s, zw2_n, ne_eq, not_false_eq_true, reduceCtorEq, not_true_eq_false, Nat.reduceEqDiff]; rw [hs1.2.2 15 (by simp)]; exact a2 i x hi
          · simp only [zwI_L, zwI_I, zwI_J, zwI_R, zwJ_L, zwJ_I, zwJ_J, zwJ_R, zwR_L, zwR_I, zwR_J, zwR_R, zw2_s, zw2_n, ne_eq, not_false_eq_true, reduceCtorEq, not_true_eq_false, Nat.reduceEqDiff]; rw [h101 5 (by decide)]; exact a3
        have hn2 : (zwI M1 14 c v).2.1 10 10 = nI (wct (wpo r) 4) := by simp only [zwI_L, zwI_I, zwI_J, zwI_R, zwJ_L, zwJ_I, zwJ_J, zwJ_R, zwR_L, zwR_I, zwR_J, zwR_R, zw2_s, zw2_n, ne_eq, not_false_eq_true, reduceCtorEq, not_true_eq_false, Nat.reduceEqDiff]; exact hn1
        have hflow : (zwI M1 14 c v).2.1 13 c = nI (S.1 c) := hw2.1 c hc
        have hw17 : ∀ i d, (wds r 4)[i]? = some d → (zwI M1 14 c v).2.1 17 i = nI (r d) := fun i d hi => by
          simp only [zwI_L, zwI_I, zwI_J, zwI_R, zwJ_L, zwJ_I, zwJ_J, zwJ_R, zwR_L, zwR_I, zwR_J, zwR_R, zw2_s, zw2_n, ne_eq, not_false_eq_true, reduceCtorEq, not_true_eq_false, Nat.reduceEqDiff]; exact (hw1 i d hi).2
        have h16 : (zwI M1 14 c v).2.1 16 = M1.2.1 16 := by simp only [zwI_L, zwI_I, zwI_J, zwI_R, zwJ_L, zwJ_I, zwJ_J, zwJ_R, zwR_L, zwR_I, zwR_J, zwR_R, zw2_s, zw2_n, ne_eq, not_false_eq_true, reduceCtorEq, not_true_eq_false, Nat.reduceEqDiff]
        have hflow' : M1.2.1 13 c = nI (S.1 c) := by rw [h13]; exact hwt.1 c hc
        rw [hflow']
        generalize zwI M1 14 c v = M3 at hsm h14 hx1 hw2 hn2 hflow hw17 h16 ⊢
        have wt18 : ∀ M2, zsm [18, 19] M3 M2 → zwt M2 S.1 S.2 := by
          intro M2 hq
          obtain ⟨a1, a2, a3, a4⟩ := hw2
          exact ⟨by rw [hq.2.2 13 (by simp)]; exact a1, by rw [hq.2.2 15 (by simp)]; exact a2, by rw [hq.2.2 10 (by simp)]; exact a3, a4⟩
        have fin2 : ∀ M2, zsm [18, 19] M3 M2 → (∀ i d, (wds r 4)[i]? = some d → M2.2.1 18 i = nI (wgv sort (S.1 c) r d)) → zb_X5_giveOn_69 K J M2 [some (.ref 10), some (.ref 1), some (.int (nI c)), some (.int (nI sort)), none] [] := fun M2 hq h18 =>
          fin M2 none (hsm.tr (hq.up (by simp))) (by rw [hq.2.2 14 (by simp)]; exact h14) (wt18 M2 hq) (by rw [hq.2.2 10 (by simp)]; exact hn2) (by rw [hq.2.2 16 (by simp)]; exact h16) h18
        refine ⟨vp_in_nI hc (by decide), hv01, fun h1 => ⟨vp_in_nI hc (by decide), ?_⟩, fun h1 => ⟨fun h2 => ⟨vp_in_nI hc (by decide), ?_⟩, fun h2 => ⟨vp_in_nI hc (by decide), ?_⟩⟩⟩
        · have e0 : sort = 0 := (nI_eq (b := 0) (by omega) (by omega)).mp h1
          subst e0
          unfold zc_X5_shareToLowest
          dsimp only
          refine ⟨rfl, hx1, _, hnl, hn2, fun M2 hq h18 => ?_⟩
          refine fin2 M2 (hq.up (by simp)) (fun i d hi => ?_)
          have hi' : i < wct (wpo r) 4 := by
            have := (List.getElem?_eq_some_iff.mp hi).1
            omega
          rw [h18 i hi', ← wshare0 (f := S.1 c) (fun d _ => hr200 d) hw17 hi]
          split <;> rfl
        · have e0 : sort = 1 := (nI_eq (b := 1) (by omega) (by omega)).mp h2
          subst e0
          unfold zc_X5_shareEvenly
          dsimp only
          refine ⟨rfl, hx1, _, _, hnl, hn2, rfl, by omega, fun M2 hq h18 => ?_⟩
          refine fin2 M2 (hq.up (by simp)) (fun i d hi => ?_)
          have hi' : i < wct (wpo r) 4 := by
            have := (List.getElem?_eq_some_iff.mp hi).1
            omega
          rw [h18 i hi', wshare1 hi]
        · have e0 : sort = 2 := by
            have a1 : sort ≠ 0 := fun e => h1 (by rw [e]; rfl)
            have a2 : sort ≠ 1 := fun e => h2 (by rw [e]; rfl)
            omega
          subst e0
          unfold zc_X5_shareByDrops
          dsimp only
          refine ⟨rfl, hx1, _, _, (fun i => r (wat (wds r 4) i)), hnl, hn2, rfl, by omega, fun i hi => ?_, fun M2 hq h18 => ?_⟩
          · have hg := wat_get (L := wds r 4) (i := i) (by omega)
            refine ⟨hw17 i _ hg, wpo_t.mp (wds_get r 4 i _ hg).2.1, hr200 _⟩
          · refine fin2 M2 hq (fun i d hi => ?_)
            have hi' : i < wct (wpo r) 4 := by
              have := (List.getElem?_eq_some_iff.mp hi).1
              omega
            rw [h18 i hi', wshare2 hi]
      simp only [x3, hn1, zT_push, zT_bin, zT_div, zT_bil, zT_shl, zT_un, zT_i2l, zT_l2i, zT_lcmp, zT_ild, zT_lld, zT_ald, zT_ist, zT_lst, zT_ast, zT_iinc, zT_dup, zT_dup2, zT_pop, zT_if1, zT_if2, zT_ifn, zT_getI, zT_getJ, zT_getR, zT_putI, zT_putZ, zT_putJ, zT_putR, zT_ald0, zT_lald, zT_aald, zT_iast, zT_zast, zT_bast, zT_last, zT_aast, zT_iret, zT_nret, zT_aret, zT_vret, zT_oi, zT_mm, zT_ialX, zT_S1, zT_S2, zT_S3, zT_V0, zT_V1, zT_V2, zT_V3, zT_V4, zT_V5, zT_V6, zT_I0, zT_I1, zT_I2, zlg, zlset, zlpr, zent, zok, va_rf, List.length_cons, List.length_nil, List.replicate, List.cons_append, List.nil_append, List.append_nil, Option.toList_some, Option.toList_none, Option.toList, Nat.reduceAdd, Nat.reduceSub, Nat.reduceLeDiff, Nat.zero_add, Nat.zero_le, true_and, and_true, Nat.le_refl, ge_iff_le, Nat.reduceEqDiff]
      refine ⟨fun h1 => mid _ ?_, fun h1 => mid _ ?_⟩
      · rw [if_pos ((nI_eq (b := 0) (by omega) (by omega)).mp h1)]
      · rw [if_neg (fun e => h1 (by rw [e]; rfl))]
  · exact h.elim
end
section
/-! PURE: how the water runs down. The order of cells, the row of wet cells, what comes to each -/
def wbf (H : Nat → Nat) (a b : Nat) : Prop := H b < H a ∨ (H a = H b ∧ a < b)
theorem wbf_zbb {H : Nat → Nat} {f : Nat → Int32} (hf : ∀ e, e < 120 → f e = nI (H e) ∧ H e ≤ 200) {a b : Nat} (ha : a < 120) (hb : b < 120) : zbb f a b = true ↔ wbf H a b := by
  rw [zbb_t]
  unfold zbf wbf
  have h1 := hf a ha
  have h2 := hf b hb
  rw [h1.1, h2.1, nI_ltI (by omega) (by omega), nI_eq (by omega) (by omega)]
theorem wps_hi {b : Nat → Bool} {g : Nat → Nat} : ∀ {n j : Nat}, wps b g n ≤ j → j < n → b (g j) = true
  | 0, j, _, h => absurd h (Nat.not_lt_zero _)
  | n + 1, j, h1, h2 => by
    have h1' : (if b (g n) = true then wps b g n else n + 1) ≤ j := h1
    by_cases q : b (g n) = true
    · rw [if_pos q] at h1'
      by_cases e : j = n
      · subst e; exact q
      · exact wps_hi h1' (by omega)
    · rw [if_neg q] at h1'
      omega
theorem wps_lo {b : Nat → Bool} {g : Nat → Nat} : ∀ {n : Nat}, 0 < wps b g n → b (g (wps b g n - 1)) = false
  | 0, h => absurd h (Nat.lt_irrefl _)
  | n + 1, h => by
    by_cases q : b (g n) = true
    · have e : wps b g (n + 1) = wps b g n := by
        show (if b (g n) = true then wps b g n else n + 1) = _
        rw [if_pos q]
      rw [e] at h ⊢
      exact wps_lo h
    · have e : wps b g (n + 1) = n + 1 := by
        show (if b (g n) = true then wps b g n else n + 1) = _
        rw [if_neg q]
      rw [e]
      cases hq : b (g n) with
      | true => exact absurd hq q
      | false => rw [show n + 1 - 1 = n from rfl]; exact hq
/-- the place is the right one in a row that stands in order -/
theorem win_ord {H : Nat → Nat} {b : Nat → Bool} {c : Nat} {L : List Nat} (hb : ∀ x ∈ L, (b x = true ↔ wbf H c x)) (hp : L.Pairwise (wbf H)) (hc : c ∉ L) : (∀ x ∈ L.take (wps b (wat L) L.length), wbf H x c) ∧ ∀ x ∈ L.drop (wps b (wat L) L.length), wbf H c x := by
  have hle := wps_le b (wat L) L.length
  have hpw := List.pairwise_iff_getElem.mp hp
  constructor
  · intro x hx
    obtain ⟨j, hj⟩ := List.getElem?_of_mem hx
    have hjl := (List.getElem?_eq_some_iff.mp hj).1
    rw [List.length_take] at hjl
    rw [List.getElem?_take_of_lt (by omega)] at hj
    obtain ⟨j1, j2⟩ := wat_of hj
    have h0 : 0 < wps b (wat L) L.length := by omega
    have hlast := wps_lo h0
    have hl1 : wps b (wat L) L.length - 1 < L.length := by omega
    have hg := wat_get hl1
    have hmem : wat L (wps b (wat L) L.length - 1) ∈ L := List.mem_of_getElem? hg
    have hnb : ¬ wbf H c (wat L (wps b (wat L) L.length - 1)) := fun z => by
      rw [← hb _ hmem] at z
      rw [hlast] at z
      cases z
    have hne : wat L (wps b (wat L) L.length - 1) ≠ c := fun e => hc (e ▸ hmem)
    have hlc : wbf H (wat L (wps b (wat L) L.length - 1)) c := by
      unfold wbf at hnb ⊢
      omega
    by_cases e : j = wps b (wat L) L.length - 1
    · rw [← j2, e]; exact hlc
    · have h3 := hpw j (wps b (wat L) L.length - 1) j1 hl1 (by omega)
      have e1 : L[j] = x := (List.getElem?_eq_some_iff.mp hj).2
      have e2 : L[wps b (wat L) L.length - 1] = wat L (wps b (wat L) L.length - 1) := (List.getElem?_eq_some_iff.mp hg).2
      rw [e1, e2] at h3
      unfold wbf at h3 hlc ⊢
      omega
  · intro x hx
    obtain ⟨j, hj⟩ := List.getElem?_of_mem hx
    rw [List.getElem?_drop] at hj
    obtain ⟨j1, j2⟩ := wat_of hj
    have := wps_hi (b := b) (g := wat L) (n := L.length) (j := wps b (wat L) L.length + j) (by omega) j1
    rw [j2] at this
    exact (hb x (List.mem_of_getElem? hj)).mp this
theorem win_pw {H : Nat → Nat} {b : Nat → Bool} {c : Nat} {L : List Nat} (hb : ∀ x ∈ L, (b x = true ↔ wbf H c x)) (hp : L.Pairwise (wbf H)) (hc : c ∉ L) : (win b c L).Pairwise (wbf H) := by
  obtain ⟨h1, h2⟩ := win_ord hb hp hc
  have h0 := List.take_append_drop (wps b (wat L) L.length) L
  have hp' := hp
  rw [← h0, List.pairwise_append] at hp'
  unfold win
  rw [List.pairwise_append]
  refine ⟨hp'.1, List.pairwise_cons.mpr ⟨h2, hp'.2.1⟩, fun a ha x hx => ?_⟩
  rcases List.mem_cons.mp hx with rfl | hx
  · exact h1 a ha
  · exact hp'.2.2 a ha x hx
/-- what stands ahead stays in its place -/
theorem win_take {H : Nat → Nat} {b : Nat → Bool} {c k : Nat} {L : List Nat} (hb : ∀ x ∈ L, (b x = true ↔ wbf H c x)) (hp : L.Pairwise (wbf H)) (hc : c ∉ L) (hk : k ≤ L.length) (ha : ∀ x ∈ L.take k, wbf H x c) : (win b c L).take k = L.take k ∧ ∀ x, x ∈ (win b c L).drop k ↔ x = c ∨ x ∈ L.drop k := by
  have hle := wps_le b (wat L) L.length
  have hkp : k ≤ wps b (wat L) L.length := by
    rcases Nat.lt_or_ge (wps b (wat L) L.length) k with q | q
    · exfalso
      have hq : wps b (wat L) L.length < L.length := by omega
      have hg := wat_get hq
      have h1 := wps_hi (b := b) (g := wat L) (n := L.length) (Nat.le_refl _) hq
      have h2 := (hb _ (List.mem_of_getElem? hg)).mp h1
      have h3 := ha (wat L (wps b (wat L) L.length)) (List.mem_of_getElem? (i := wps b (wat L) L.length) (by rw [List.getElem?_take_of_lt q]; exact hg))
      unfold wbf at h2 h3
      omega
    · exact q
  unfold win
  generalize wps b (wat L) L.length = p at *
  have hlt : (L.take p).length = p := by rw [List.length_take]; omega
  constructor
  · rw [List.take_append_of_le_length (by omega), List.take_take, Nat.min_eq_left hkp]
  · intro x
    rw [List.drop_append_of_le_length (by omega), List.mem_append, List.mem_cons]
    have e : L.drop k = (L.take p).drop k ++ L.drop p := by
      have h0 := List.take_append_drop p L
      conv => lhs; rw [← h0]
      rw [List.drop_append_of_le_length (by omega)]
    rw [e, List.mem_append]
    constructor
    · rintro (h | h | h)
      · exact Or.inr (Or.inl h)
      · exact Or.inl h
      · exact Or.inr (Or.inr h)
    · rintro (h | h | h)
      · exact Or.inr (Or.inl h)
      · exact Or.inl h
      · exact Or.inr (Or.inr h)
/-- the sum over what stands behind the k-th place -/
def wsl (A : Nat → Nat) (L : List Nat) : Nat := (L.map A).sum
theorem wsl_app {A : Nat → Nat} {a b : List Nat} : wsl A (a ++ b) = wsl A a + wsl A b := by simp [wsl]
theorem wsl_cons {A : Nat → Nat} {x : Nat} {b : List Nat} : wsl A (x :: b) = A x + wsl A b := by simp [wsl]
theorem wsl_up {A : Nat → Nat} {c v : Nat} : ∀ {L : List Nat}, c ∉ L → wsl (va_up A c v) L = wsl A L
  | [], _ => rfl
  | x :: L, h => by
    have hne : x ≠ c := fun e => h (e ▸ List.mem_cons_self)
    rw [wsl_cons, wsl_cons, wsl_up (L := L) (fun z => h (List.mem_cons_of_mem _ z)), zup_n hne]
theorem wsl_up1 {A : Nat → Nat} {c v : Nat} : ∀ {L : List Nat}, L.Nodup → wsl (va_up A c (A c + v)) L ≤ wsl A L + v
  | [], _ => Nat.zero_le _
  | x :: L, h => by
    obtain ⟨h1, h2⟩ := List.nodup_cons.mp h
    rw [wsl_cons, wsl_cons]
    by_cases e : x = c
    · subst e
      rw [wsl_up h1, zup_s]
      omega
    · have := wsl_up1 (A := A) (c := c) (v := v) h2
      rw [zup_n e]
      omega
theorem wsl_mem {A : Nat → Nat} : ∀ {L : List Nat} {x : Nat}, x ∈ L → A x ≤ wsl A L
  | y :: L, x, h => by
    rw [wsl_cons]
    rcases List.mem_cons.mp h with rfl | h
    · omega
    · have := wsl_mem (A := A) h
      omega
theorem wsl_perm {A : Nat → Nat} {a b : List Nat} {c : Nat} : wsl A (a ++ c :: b) = wsl A (a ++ b) + A c := by
  rw [wsl_app, wsl_cons, wsl_app]
  omega
/-- one pour: the state of the row of wet cells, of which the first k are done -/
def wok (H : Nat → Nat) (w h : Nat) (k : Nat) (S : wST) : Prop := wwf S ∧ S.2.Pairwise (wbf H) ∧ (∀ x ∈ S.2, wil w h x) ∧ (∀ x, x ∉ S.2 → S.1 x = 0) ∧ k ≤ S.2.length
theorem wpr_ok {H : Nat → Nat} {w h k : Nat} {S : wST} {f11 : Nat → Int32} (hf : ∀ e, e < 120 → f11 e = nI (H e) ∧ H e ≤ 200) (hS : wok H w h k S) {c v : Nat} (hc : c < 120) (hil : wil w h c) (ha : ∀ x ∈ S.2.take k, wbf H x c) :
    wok H w h k (wpr f11 c v S) ∧ (wpr f11 c v S).2.take k = S.2.take k ∧ wsl (wpr f11 c v S).1 ((wpr f11 c v S).2.drop k) ≤ wsl S.1 (S.2.drop k) + v := by
  obtain ⟨hwf, hpw, hin, hz, hk⟩ := hS
  have hwf2 := wpr_wf (f11 := f11) (f := v) hwf hc
  by_cases hq : 0 < v ∧ S.1 c = 0
  · have hnc : c ∉ S.2 := fun z => by
      have := (hwf.2.2 c hc).mp z
      omega
    have hb : ∀ x ∈ S.2, (zbb f11 c x = true ↔ wbf H c x) := fun x hx => wbf_zbb hf hc (hwf.2.1 x hx)
    have ht := win_take hb hpw hnc hk ha
    have hord := win_ord hb hpw hnc
    have e2 : (wpr f11 c v S).2 = win (zbb f11 c) c S.2 := by unfold wpr; rw [if_pos hq]
    have e1 : (wpr f11 c v S).1 = va_up S.1 c (S.1 c + v) := rfl
    refine ⟨⟨hwf2, ?_, ?_, ?_, ?_⟩, ?_, ?_⟩
    · rw [e2]; exact win_pw hb hpw hnc
    · rw [e2]
      intro x hx
      rcases win_mem.mp hx with rfl | hx
      · exact hil
      · exact hin x hx
    · rw [e2, e1]
      intro x hx
      rw [win_mem] at hx
      rw [zup_n (fun e => hx (Or.inl e))]
      exact hz x (fun z => hx (Or.inr z))
    · rw [e2, win_len]; omega
    · rw [e2]; exact ht.1
    · rw [e2, e1]
      have hle := wps_le (zbb f11 c) (wat S.2) S.2.length
      have hkp : k ≤ wps (zbb f11 c) (wat S.2) S.2.length := by
        rcases Nat.lt_or_ge (wps (zbb f11 c) (wat S.2) S.2.length) k with q | q
        · exfalso
          have hq2 : wps (zbb f11 c) (wat S.2) S.2.length < S.2.length := by omega
          have hg := wat_get hq2
          have h1 := wps_hi (b := zbb f11 c) (g := wat S.2) (n := S.2.length) (Nat.le_refl _) hq2
          have h2 := (hb _ (List.mem_of_getElem? hg)).mp h1
          have h3 := ha (wat S.2 (wps (zbb f11 c) (wat S.2) S.2.length)) (List.mem_of_getElem? (i := wps (zbb f11 c) (wat S.2) S.2.length) (by rw [List.getElem?_take_of_lt q]; exact hg))
          unfold wbf at h2 h3
          omega
        · exact q
      unfold win
      generalize wps (zbb f11 c) (wat S.2) S.2.length = p at hle hkp
      have hlt : (S.2.take p).length = p := by rw [List.length_take]; omega
      have h0 := List.take_append_drop p S.2
      have e3 : S.2.drop k = (S.2.take p).drop k ++ S.2.drop p := by
        conv => lhs; rw [← h0]
        rw [List.drop_append_of_le_length (by omega)]
      rw [List.drop_append_of_le_length (by omega), wsl_perm, ← e3, wsl_up (fun z => hnc (List.mem_of_mem_drop z)), zup_s]
      omega
  · have e2 : (wpr f11 c v S).2 = S.2 := by unfold wpr; rw [if_neg hq]
    have e1 : (wpr f11 c v S).1 = va_up S.1 c (S.1 c + v) := rfl
    refine ⟨⟨hwf2, by rw [e2]; exact hpw, by rw [e2]; exact hin, ?_, by rw [e2]; exact hk⟩, by rw [e2], ?_⟩
    · rw [e2, e1]
      intro x hx
      by_cases e : x = c
      · subst e
        rw [zup_s]
        have := hz x hx
        omega
      · rw [zup_n e]; exact hz x hx
    · rw [e2, e1]
      exact wsl_up1 (List.Nodup.sublist (List.drop_sublist _ _) hwf.1)
theorem wgo_ok {H : Nat → Nat} {w h k : Nat} {f11 : Nat → Int32} (hf : ∀ e, e < 120 → f11 e = nI (H e) ∧ H e ≤ 200) {nb gv : Nat → Nat} : ∀ {ds : List Nat} {S : wST}, wok H w h k S → (∀ d ∈ ds, nb d < 120 ∧ wil w h (nb d) ∧ ∀ x ∈ S.2.take k, wbf H x (nb d)) →
    wok H w h k (wgo f11 nb gv ds S) ∧ (wgo f11 nb gv ds S).2.take k = S.2.take k ∧ wsl (wgo f11 nb gv ds S).1 ((wgo f11 nb gv ds S).2.drop k) ≤ wsl S.1 (S.2.drop k) + wsl gv ds
  | [], S, h, _ => ⟨h, rfl, by simp [wsl, wgo]⟩
  | d :: ds, S, h, hd => by
    obtain ⟨a1, a2, a3⟩ := hd d List.mem_cons_self
    obtain ⟨b1, b2, b3⟩ := wpr_ok (v := gv d) hf h a1 a2 a3
    obtain ⟨c1, c2, c3⟩ := wgo_ok hf (nb := nb) (gv := gv) (ds := ds) b1 (fun d' hd' => by rw [b2]; exact hd d' (List.mem_cons_of_mem _ hd'))
    refine ⟨c1, c2.trans b2, ?_⟩
    rw [wsl_cons]
    show wsl (wgo f11 nb gv ds (wpr f11 (nb d) (gv d) S)).1 _ ≤ _
    have c3' : wsl (wgo f11 nb gv ds (wpr f11 (nb d) (gv d) S)).1 ((wgo f11 nb gv ds (wpr f11 (nb d) (gv d) S)).2.drop k) ≤ wsl (wpr f11 (nb d) (gv d) S).1 ((wpr f11 (nb d) (gv d) S).2.drop k) + wsl gv ds := c3
    show wsl (wgo f11 nb gv ds (wpr f11 (nb d) (gv d) S)).1 ((wgo f11 nb gv ds (wpr f11 (nb d) (gv d) S)).2.drop k) ≤ _
    omega
/-- what a cell has behind the pours -/
theorem wgo_val {f11 : Nat → Int32} {nb gv : Nat → Nat} : ∀ {ds : List Nat} {S : wST} {x : Nat}, (wgo f11 nb gv ds S).1 x = S.1 x + wsl (fun d => if nb d = x then gv d else 0) ds
  | [], S, x => by simp [wsl, wgo]
  | d :: ds, S, x => by
    have ih := wgo_val (f11 := f11) (nb := nb) (gv := gv) (ds := ds) (S := wpr f11 (nb d) (gv d) S) (x := x)
    show (wgo f11 nb gv ds (wpr f11 (nb d) (gv d) S)).1 x = _
    rw [ih, wsl_cons]
    show va_up S.1 (nb d) (S.1 (nb d) + gv d) x + _ = _
    rw [zup_at]
    by_cases e : x = nb d
    · rw [if_pos e, if_pos e.symm, e]
      omega
    · rw [if_neg e, if_neg (fun q => e q.symm)]
      omega
theorem wds_sl (r g : Nat → Nat) : ∀ m, wsl g (wds r m) = wsm (fun d => if wpo r d = true then g d else 0) m
  | 0 => rfl
  | m + 1 => by
    rw [wds_s, wsl_app, wds_sl r g m]
    show _ = wsm _ m + if wpo r m = true then g m else 0
    by_cases hp : wpo r m = true
    · rw [if_pos hp, if_pos hp]; simp [wsl]
    · rw [if_neg hp, if_neg hp]; simp [wsl]
end
section
/-! PURE: nothing is lost or won on the way; the row of wet cells, turn by turn -/
theorem wsm4 (g : Nat → Nat) : wsm g 4 = g 0 + g 1 + g 2 + g 3 := by simp [wsm]
theorem wsm_one {m f : Nat} : ∀ n, wsm (fun d => if d = m then f else 0) n = if m < n then f else 0
  | 0 => rfl
  | n + 1 => by
    show wsm _ n + (if n = m then f else 0) = _
    rw [wsm_one n]
    rcases Nat.lt_trichotomy m n with q | q | q
    · rw [if_pos q, if_neg (by omega), if_pos (by omega)]; omega
    · rw [if_neg (by omega), if_pos q.symm, if_pos (by omega)]; omega
    · rw [if_neg (by omega), if_neg (by omega), if_neg (by omega)]
theorem wrank {q : Nat → Bool} {k : Nat} : ∀ m, wct (fun d => q d && decide (wct q d < k)) m = min (wct q m) k
  | 0 => by simp [wct]
  | m + 1 => by
    show wct _ m + (if (q m && decide (wct q m < k)) = true then 1 else 0) = min (wct q m + if q m = true then 1 else 0) k
    rw [wrank m]
    cases q m with
    | false => simp
    | true =>
      by_cases h : wct q m < k
      · simp [h]; omega
      · simp [h]; omega
/-- picks within a domain q -/
theorem wpick2 {g : Nat → Nat} {q p : Nat → Bool} {n k : Nat} (hc : wct p n = k) (hq : ∀ i, i < n → p i = true → q i = true) (hu : ∀ i j, i < n → j < n → p i = true → q j = true → p j = false → wah g j i = true) : ∀ i, i < n → q i = true → (p i = true ↔ wct (fun o => q o && wah g i o) n < k) := by
  intro i hi hqi
  constructor
  · intro hp
    rw [← hc]
    refine wct_strict (fun j hj hw => ?_) hi (by rw [Bool.and_eq_false_iff]; right; rw [wah_f]; omega) hp
    rw [Bool.and_eq_true] at hw
    cases hpj : p j with
    | true => rfl
    | false =>
      have h1 := wah_t.mp (hu i j hi hj hp hw.1 hpj)
      have h2 := wah_t.mp hw.2
      omega
  · intro hlt
    cases hpi : p i with
    | true => rfl
    | false =>
      have : wct p n ≤ wct (fun o => q o && wah g i o) n := wct_mono fun j hj hpj => by
        rw [Bool.and_eq_true]
        exact ⟨hq j hj hpj, hu j i hj hi hpj hqi hpi⟩
      omega
theorem wpick_ex (g : Nat → Nat) (q : Nat → Bool) (n : Nat) : ∀ k, k ≤ wct q n → ∃ p : Nat → Bool, wct p n = k ∧ (∀ i, i < n → p i = true → q i = true) ∧ ∀ i j, i < n → j < n → p i = true → q j = true → p j = false → wah g j i = true
  | 0, _ => ⟨fun _ => false, by
      have : ∀ m, wct (fun _ => false) m = 0 := by
        intro m
        induction m with
        | zero => rfl
        | succ m ih => show wct _ m + _ = 0; rw [ih]; rfl
      exact this n, fun _ _ h => absurd h Bool.false_ne_true, fun _ _ _ _ h => absurd h Bool.false_ne_true⟩
  | k + 1, hk => by
    obtain ⟨p, h1, h2, h3⟩ := wpick_ex g q n k (by omega)
    have hfree : ∃ j, j < n ∧ q j = true ∧ p j = false := by
      rcases Classical.em (∃ j, j < n ∧ q j = true ∧ p j = false) with z | z
      · exact z
      · have : wct q n ≤ wct p n := wct_mono fun j hj hqj => by
          cases hpj : p j with
          | true => rfl
          | false => exact absurd ⟨j, hj, hqj, hpj⟩ z
        omega
    obtain ⟨j0, hj0, hqj0, hpj0⟩ := hfree
    have hmx := wfg_max (fun i => if q i = true ∧ p i = false then g i + 1 else 0) n
    have hl := wfg_le (fun i => if q i = true ∧ p i = false then g i + 1 else 0) n
    generalize wfg (fun i => if q i = true ∧ p i = false then g i + 1 else 0) n = m at hmx hl
    have hm : m < n := by omega
    have hqm : q m = true ∧ p m = false := by
      have := (hmx j0 hj0).1
      rw [if_pos ⟨hqj0, hpj0⟩] at this
      by_cases z : q m = true ∧ p m = false
      · exact z
      · rw [if_neg z] at this; omega
    refine ⟨fun i => if i = m then true else p i, by rw [wct_up hm hqm.2 (fun _ _ => rfl), h1], fun i hi hp => ?_, fun i j hi hj hpi hqj hpj => ?_⟩
    · dsimp only at hp
      by_cases e : i = m
      · rw [e]; exact hqm.1
      · rw [if_neg e] at hp; exact h2 i hi hp
    · dsimp only at hpi hpj
      by_cases ej : j = m
      · rw [if_pos ej] at hpj; cases hpj
      · rw [if_neg ej] at hpj
        by_cases ei : i = m
        · subst ei
          have h4 := hmx j hj
          rw [if_pos ⟨hqj, hpj⟩, if_pos hqm] at h4
          rw [wah_t]
          omega
        · rw [if_neg ei] at hpi
          exact h3 i j hi hj hpi hqj hpj
theorem wpick_le (g : Nat → Nat) (q : Nat → Bool) (n k : Nat) : wct (fun d => q d && decide (wct (fun o => q o && wah g d o) n < k)) n ≤ k := by
  rcases Nat.lt_or_ge (wct q n) k with h | h
  · have : wct (fun d => q d && decide (wct (fun o => q o && wah g d o) n < k)) n ≤ wct q n := wct_mono fun i _ hi => by
      rw [Bool.and_eq_true] at hi
      exact hi.1
    omega
  · obtain ⟨p, h1, h2, h3⟩ := wpick_ex g q n k h
    have hp := wpick2 h1 h2 h3
    have : wct (fun d => q d && decide (wct (fun o => q o && wah g d o) n < k)) n ≤ wct p n := wct_mono fun i hi hq => by
      rw [Bool.and_eq_true, decide_eq_true_eq] at hq
      exact (hp i hi hq.1).mpr hq.2
    omega
theorem wct_sum (p : Nat → Bool) : ∀ n, wct p n = wsm (fun i => if p i = true then 1 else 0) n
  | 0 => rfl
  | n + 1 => by
    show wct p n + _ = wsm _ n + _
    rw [wct_sum p n]
/-- what a cell gives isn't more than what came -/
theorem wgv_sum {sort f : Nat} {r : Nat → Nat} : wsm (wgv sort f r) 4 ≤ f := by
  by_cases h0 : sort = 0
  · subst h0
    have : wsm (wgv 0 f r) 4 ≤ wsm (fun d => if d = wfg r 4 then f else 0) 4 := wsm_le fun d _ => by
      unfold wgv
      rw [if_pos (rfl : 0 = 0)]
      split
      · exact Nat.zero_le _
      · exact Nat.le_refl _
    rw [wsm_one] at this
    split at this <;> omega
  by_cases h1 : sort = 1
  · subst h1
    have e : wsm (wgv 1 f r) 4 = wsm (fun d => (if wpo r d = true then f / wct (wpo r) 4 else 0) + (if (wpo r d && decide (wct (wpo r) d < f % wct (wpo r) 4)) = true then 1 else 0)) 4 := wsm_congr fun d _ => by
      unfold wgv
      rw [if_neg (by decide : ¬ 1 = 0), if_pos (rfl : 1 = 1)]
      by_cases hz : r d = 0
      · rw [if_pos hz]
        have : wpo r d = false := by simp [wpo, hz]
        simp [this]
      · rw [if_neg hz]
        have : wpo r d = true := wpo_t.mpr (by omega)
        simp [this]
    rw [e, wsm_add, ← wct_sum, wrank]
    have e2 : wsm (fun d => if wpo r d = true then f / wct (wpo r) 4 else 0) 4 = wct (wpo r) 4 * (f / wct (wpo r) 4) := by
      generalize f / wct (wpo r) 4 = c
      generalize 4 = m
      induction m with
      | zero => simp [wsm, wct]
      | succ m ih =>
        show wsm _ m + (if wpo r m = true then c else 0) = (wct (wpo r) m + if wpo r m = true then 1 else 0) * c
        rw [ih, Nat.add_mul]
        cases wpo r m <;> simp
    rw [e2]
    have := Nat.div_add_mod f (wct (wpo r) 4)
    omega
  · have e : wsm (wgv sort f r) 4 ≤ wsm (fun d => f * r d / wsm r 4 + (if (wpo r d && decide (wct (fun o => wpo r o && wah (fun j => f * r j % wsm r 4) d o) 4 < f - wsm (fun j => f * r j / wsm r 4) 4)) = true then 1 else 0)) 4 := wsm_le fun d _ => by
      unfold wgv
      rw [if_neg h0, if_neg h1]
      by_cases hz : r d = 0
      · rw [if_pos hz]; exact Nat.zero_le _
      · rw [if_neg hz]
        have : wpo r d = true := wpo_t.mpr (by omega)
        simp [this]
    rw [wsm_add, ← wct_sum] at e
    have h3 := wpick_le (fun j => f * r j % wsm r 4) (wpo r) 4 (f - wsm (fun j => f * r j / wsm r 4) 4)
    have h4 : wsm (fun j => f * r j / wsm r 4) 4 ≤ f := by
      rcases Nat.eq_zero_or_pos (wsm r 4) with z | z
      · rw [z]
        simp [wsm]
      · exact (wsm_left (by decide) z).1
    omega
theorem wgv_0 {sort : Nat} {r : Nat → Nat} {d : Nat} : wgv sort 0 r d = 0 := by
  unfold wgv
  split
  · rfl
  · split
    · split <;> rfl
    · split
      · simp
      · simp
/-! the sides -/
def wop (d : Nat) : Nat := (d + 2) % 4
theorem wnb_sym {w h c d x : Nat} (hw : w ≤ 12) (hd : d < 4) (hc : wil w h c) (hx : wnb w h c d = some x) : wnb w h x (wop d) = some c ∧ wil w h x := by
  obtain ⟨h1, h2⟩ := hc
  unfold wil
  match d, hd with
  | 0, _ =>
    simp only [wnb] at hx
    split at hx
    · cases hx
      simp only [wnb, wop]
      rw [if_pos (by omega)]
      exact ⟨by simp, by omega, by omega⟩
    · cases hx
  | 1, _ =>
    simp only [wnb] at hx
    split at hx
    · cases hx
      simp only [wnb, wop]
      rw [if_pos (by omega)]
      exact ⟨by simp, by omega, by omega⟩
    · cases hx
  | 2, _ =>
    simp only [wnb] at hx
    split at hx
    · cases hx
      simp only [wnb, wop]
      rw [if_pos (by omega)]
      exact ⟨congrArg some (by omega), by omega, by omega⟩
    · cases hx
  | 3, _ =>
    simp only [wnb] at hx
    split at hx
    · cases hx
      simp only [wnb, wop]
      rw [if_pos (by omega)]
      exact ⟨congrArg some (by omega), by omega, by omega⟩
    · cases hx
theorem wop_op {d : Nat} (hd : d < 4) : wop (wop d) = d ∧ wop d < 4 := by
  unfold wop
  omega
theorem wnb_lt {w h c d x : Nat} (hw : w ≤ 12) (hh : h ≤ 10) (hd : d < 4) (hc : wil w h c) (hx : wnb w h c d = some x) : x < 120 := by
  have := (wnb_sym hw hd hc hx).2
  unfold wil at this
  omega
/-- what the cell x gets from its side e, if the cell there is one of P -/
def wfr (w h : Nat) (H : Nat → Nat) (D : Nat → Bool) (sort : Nat) (A : Nat → Nat) (P : Nat → Prop) [DecidablePred P] (x e : Nat) : Nat := match wnb w h x e with
  | some b => if P b then wgv sort (A b) (wdr w h H D b) (wop e) else 0
  | none => 0
/-- what comes to x from c: by c's sides, by x's -/
theorem wturn {w h : Nat} {H : Nat → Nat} {D : Nat → Bool} {sort f c x : Nat} (hw : w ≤ 12) (hc : wil w h c) (hx : wil w h x) : wsl (fun d => if wnx w h c d = x then wgv sort f (wdr w h H D c) d else 0) (wds (wdr w h H D c) 4) = wsm (fun e => if wnb w h x e = some c then wgv sort f (wdr w h H D c) (wop e) else 0) 4 := by
  rw [wds_sl]
  have key : ∀ d, d < 4 → (if wpo (wdr w h H D c) d = true then (if wnx w h c d = x then wgv sort f (wdr w h H D c) d else 0) else 0) = (if wnb w h x (wop d) = some c then wgv sort f (wdr w h H D c) d else 0) := by
    intro d hd
    by_cases hp : wpo (wdr w h H D c) d = true
    · rw [if_pos hp]
      have hp' := wpo_t.mp hp
      cases hnb : wnb w h c d with
      | none =>
        unfold wdr at hp'
        rw [hnb] at hp'
        exact absurd hp' (Nat.lt_irrefl _)
      | some y =>
        have hy := wnb_sym hw hd hc hnb
        have ey : wnx w h c d = y := by unfold wnx; rw [hnb]; rfl
        rw [ey]
        by_cases e : y = x
        · subst e
          rw [if_pos rfl, if_pos hy.1]
        · rw [if_neg e, if_neg]
          intro q
          have := (wnb_sym hw (wop_op hd).2 hx q).1
          rw [(wop_op hd).1, hnb] at this
          cases this
          exact e rfl
    · rw [if_neg hp]
      have hz : wdr w h H D c d = 0 := by
        have : ¬ 0 < wdr w h H D c d := fun z => hp (wpo_t.mpr z)
        omega
      have : wgv sort f (wdr w h H D c) d = 0 := by unfold wgv; rw [if_pos hz]
      rw [this]
      split <;> rfl
  rw [wsm4, wsm4, key 0 (by decide), key 1 (by decide), key 2 (by decide), key 3 (by decide)]
  show (if wnb w h x 2 = some c then wgv sort f (wdr w h H D c) 0 else 0) + (if wnb w h x 3 = some c then wgv sort f (wdr w h H D c) 1 else 0) + (if wnb w h x 0 = some c then wgv sort f (wdr w h H D c) 2 else 0) + (if wnb w h x 1 = some c then wgv sort f (wdr w h H D c) 3 else 0) = (if wnb w h x 0 = some c then wgv sort f (wdr w h H D c) 2 else 0) + (if wnb w h x 1 = some c then wgv sort f (wdr w h H D c) 3 else 0) + (if wnb w h x 2 = some c then wgv sort f (wdr w h H D c) 0 else 0) + (if wnb w h x 3 = some c then wgv sort f (wdr w h H D c) 1 else 0)
  omega
/-- THE ROW of wet cells behind k turns -/
def wri (w h : Nat) (H : Nat → Nat) (D : Nat → Bool) (sort sp fl k : Nat) (S : wST) : Prop := wok H w h k S ∧ (∀ x, x < 120 → wil w h x → S.1 x = (if x = sp then fl else 0) + wsm (wfr w h H D sort S.1 (fun b => b ∈ S.2.take k) x) 4) ∧ wsl S.1 (S.2.drop k) ≤ fl ∧ ∀ x ∈ S.2.take k, S.1 x ≤ fl
theorem wri_step {w h : Nat} {H : Nat → Nat} {D : Nat → Bool} {sort sp fl k : Nat} {S : wST} {f11 : Nat → Int32} (hf : ∀ e, e < 120 → f11 e = nI (H e) ∧ H e ≤ 200) (hw : w ≤ 12) (hh : h ≤ 10) (hS : wri w h H D sort sp fl k S) (hk : k < S.2.length) :
    wri w h H D sort sp fl (k + 1) (wgs f11 w h H D sort (wat S.2 k) (wds (wdr w h H D (wat S.2 k)) 4) S (S.1 (wat S.2 k))) ∧ (wgs f11 w h H D sort (wat S.2 k) (wds (wdr w h H D (wat S.2 k)) 4) S (S.1 (wat S.2 k))).2.take (k + 1) = S.2.take k ++ [wat S.2 k] ∧ S.1 (wat S.2 k) ≤ fl := by
  obtain ⟨⟨hwf, hpw, hin, hz, hkl⟩, hfl, hcon, hdone⟩ := hS
  have hg := wat_get hk
  have hcm : wat S.2 k ∈ S.2 := List.mem_of_getElem? hg
  generalize hc : wat S.2 k = c at hg hcm
  have hc120 := hwf.2.1 c hcm
  have hil := hin c hcm
  have htk : S.2.take (k + 1) = S.2.take k ++ [c] := by rw [List.take_succ, hg]; rfl
  have hdk : S.2.drop k = c :: S.2.drop (k + 1) := by
    rw [List.drop_eq_getElem_cons hk]
    congr 1
    exact (List.getElem?_eq_some_iff.mp hg).2
  -- the first k + 1 don't lie below c
  have hup : ∀ x ∈ S.2.take (k + 1), H c ≤ H x := by
    intro x hx
    rw [htk] at hx
    rcases List.mem_append.mp hx with hx | hx
    · have h0 := List.take_append_drop k S.2
      rw [← h0, List.pairwise_append] at hpw
      have := hpw.2.2 x hx c (by rw [hdk]; exact List.mem_cons_self)
      unfold wbf at this
      omega
    · have : x = c := by simpa using hx
      subst this; exact Nat.le_refl _
  have hway : ∀ d ∈ wds (wdr w h H D c) 4, d < 4 ∧ wnx w h c d < 120 ∧ wil w h (wnx w h c d) ∧ H (wnx w h c d) < H c := by
    intro d hd
    obtain ⟨j, hj⟩ := List.getElem?_of_mem hd
    obtain ⟨d1, d2, -⟩ := wds_get _ 4 j d hj
    have hp := wpo_t.mp d2
    unfold wdr at hp
    cases hnb : wnb w h c d with
    | none => rw [hnb] at hp; exact absurd hp (Nat.lt_irrefl _)
    | some y =>
      rw [hnb] at hp
      dsimp only at hp
      have ey : wnx w h c d = y := by unfold wnx; rw [hnb]; rfl
      rw [ey]
      refine ⟨d1, wnb_lt hw hh d1 hil hnb, (wnb_sym hw d1 hil hnb).2, ?_⟩
      split at hp
      · omega
      · omega
  have hok : wok H w h (k + 1) S := ⟨hwf, hpw, hin, hz, hk⟩
  obtain ⟨g1, g2, g3⟩ := wgo_ok (gv := wgv sort (S.1 c) (wdr w h H D c)) (nb := wnx w h c) hf hok (ds := wds (wdr w h H D c) 4) (fun d hd => by
    obtain ⟨d1, d2, d3, d4⟩ := hway d hd
    refine ⟨d2, d3, fun x hx => ?_⟩
    have := hup x hx
    unfold wbf
    omega)
  have hval := fun x => wgo_val (f11 := f11) (nb := wnx w h c) (gv := wgv sort (S.1 c) (wdr w h H D c)) (ds := wds (wdr w h H D c) 4) (S := S) (x := x)
  have hcfl : S.1 c ≤ fl := by
    have := wsl_mem (A := S.1) (L := S.2.drop k) (x := c) (by rw [hdk]; exact List.mem_cons_self)
    omega
  unfold wgs
  generalize wgo f11 (wnx w h c) (wgv sort (S.1 c) (wdr w h H D c)) (wds (wdr w h H D c) 4) S = S' at g1 g2 g3 hval
  have hsame : ∀ x ∈ S.2.take (k + 1), S'.1 x = S.1 x := by
    intro x hx
    rw [hval x]
    have hz2 : wsl (fun d => if wnx w h c d = x then wgv sort (S.1 c) (wdr w h H D c) d else 0) (wds (wdr w h H D c) 4) = 0 := by
      have : ∀ (L : List Nat), (∀ d ∈ L, wnx w h c d ≠ x) → wsl (fun d => if wnx w h c d = x then wgv sort (S.1 c) (wdr w h H D c) d else 0) L = 0 := by
        intro L
        induction L with
        | nil => intro _; rfl
        | cons a l ih =>
          intro hL
          rw [wsl_cons, ih (fun d hd => hL d (List.mem_cons_of_mem _ hd)), if_neg (hL a List.mem_cons_self)]
      refine this _ (fun d hd => ?_)
      obtain ⟨d1, d2, d3, d4⟩ := hway d hd
      have := hup x hx
      intro e
      rw [e] at d4
      omega
    rw [hz2, Nat.add_zero]
  have hsumgv : wsl (wgv sort (S.1 c) (wdr w h H D c)) (wds (wdr w h H D c) 4) ≤ S.1 c := by
    rw [wds_sl, wif_po]
    · exact wgv_sum
    · intro d hd
      unfold wgv
      rw [if_pos hd]
  refine ⟨⟨g1, fun x hx hxl => ?_, ?_, ?_⟩, by rw [g2, htk], hcfl⟩
  · rw [hval x, hfl x hx hxl, g2, wturn hw hil hxl, Nat.add_assoc, ← wsm_add]
    congr 1
    refine wsm_congr fun e he => ?_
    unfold wfr
    cases hnb : wnb w h x e with
    | none => simp
    | some b =>
      dsimp only
      have hmem : b ∈ S.2.take (k + 1) ↔ b ∈ S.2.take k ∨ b = c := by
        rw [htk, List.mem_append]
        simp
      by_cases e1 : b = c
      · subst e1
        have hnot : b ∉ S.2.take k := by
          intro z
          have hnd := hwf.1
          rw [← List.take_append_drop k S.2, List.nodup_append] at hnd
          exact hnd.2.2 b z b (by rw [hdk]; exact List.mem_cons_self) rfl
        rw [if_neg hnot, if_pos rfl, if_pos (hmem.mpr (Or.inr rfl)), hsame b (hmem.mpr (Or.inr rfl)), Nat.zero_add]
      · have hb2 : ¬ (some b = some c) := fun z => e1 (Option.some.inj z)
        rw [if_neg hb2, Nat.add_zero]
        by_cases e2 : b ∈ S.2.take k
        · rw [if_pos e2, if_pos (hmem.mpr (Or.inl e2)), hsame b (hmem.mpr (Or.inl e2))]
        · rw [if_neg e2, if_neg (fun z => (hmem.mp z).elim e2 e1)]
  · have h5 : wsl S.1 (S.2.drop k) = S.1 c + wsl S.1 (S.2.drop (k + 1)) := by rw [hdk, wsl_cons]
    omega
  · rw [g2]
    intro x hx
    rw [hsame x hx]
    rw [htk] at hx
    rcases List.mem_append.mp hx with hx | hx
    · exact hdone x hx
    · have : x = c := by simpa using hx
      subst this; exact hcfl
end
section
/-! DeltaRuns$Water run -/
theorem zd_X5_run_0 : decode cX5_run 0 = .ok (.aload_n 0, 1) := by decide +kernel
theorem zd_X5_run_1 : decode cX5_run 1 = .ok (.invokevirtual 40, 3) := by decide +kernel
theorem zd_X5_run_4 : decode cX5_run 4 = .ok (.aload_n 0, 1) := by decide +kernel
theorem zd_X5_run_5 : decode cX5_run 5 = .ok (.aload_n 1, 1) := by decide +kernel
theorem zd_X5_run_6 : decode cX5_run 6 = .ok (.getfield 43, 3) := by decide +kernel
theorem zd_X5_run_9 : decode cX5_run 9 = .ok (.aload_n 1, 1) := by decide +kernel
theorem zd_X5_run_10 : decode cX5_run 10 = .ok (.getfield 49, 3) := by decide +kernel
theorem zd_X5_run_13 : decode cX5_run 13 = .ok (.invokevirtual 52, 3) := by decide +kernel
theorem zd_X5_run_16 : decode cX5_run 16 = .ok (.iconst 0, 1) := by decide +kernel
theorem zd_X5_run_17 : decode cX5_run 17 = .ok (.istore_n 3, 1) := by decide +kernel
theorem zd_X5_run_18 : decode cX5_run 18 = .ok (.iload_n 3, 1) := by decide +kernel
theorem zd_X5_run_19 : decode cX5_run 19 = .ok (.aload_n 0, 1) := by decide +kernel
theorem zd_X5_run_20 : decode cX5_run 20 = .ok (.getfield 56, 3) := by decide +kernel
theorem zd_X5_run_23 : decode cX5_run 23 = .ok (.if_icmp .ge 27, 3) := by decide +kernel
theorem zd_X5_run_26 : decode cX5_run 26 = .ok (.iload_n 3, 1) := by decide +kernel
theorem zd_X5_run_27 : decode cX5_run 27 = .ok (.bipush 120, 2) := by decide +kernel
theorem zd_X5_run_29 : decode cX5_run 29 = .ok (.if_icmp .ge 21, 3) := by decide +kernel
theorem zd_X5_run_32 : decode cX5_run 32 = .ok (.aload_n 0, 1) := by decide +kernel
theorem zd_X5_run_33 : decode cX5_run 33 = .ok (.aload_n 1, 1) := by decide +kernel
theorem zd_X5_run_34 : decode cX5_run 34 = .ok (.aload_n 0, 1) := by decide +kernel
theorem zd_X5_run_35 : decode cX5_run 35 = .ok (.getfield 25, 3) := by decide +kernel
theorem zd_X5_run_38 : decode cX5_run 38 = .ok (.iload_n 3, 1) := by decide +kernel
theorem zd_X5_run_39 : decode cX5_run 39 = .ok (.iaload, 1) := by decide +kernel
theorem zd_X5_run_40 : decode cX5_run 40 = .ok (.iload_n 2, 1) := by decide +kernel
theorem zd_X5_run_41 : decode cX5_run 41 = .ok (.invokevirtual 59, 3) := by decide +kernel
theorem zd_X5_run_44 : decode cX5_run 44 = .ok (.iinc 3 1, 3) := by decide +kernel
theorem zd_X5_run_47 : decode cX5_run 47 = .ok (.goto (-29), 3) := by decide +kernel
theorem zd_X5_run_50 : decode cX5_run 50 = .ok (.return_, 1) := by decide +kernel
def zb_X5_run_0 (K : zKt) (J : Nat → zPP) : zPP := zT_ald 0 (zT_V0 zok 5 11 zc_X5_dryUp (zT_ald 0 (zT_ald 1 (zT_getI 1 3 6 (zT_ald 1 (zT_getI 1 4 6 (zT_V2 zok 5 11 zc_X5_pour (zT_push (.int 0) (zT_ist 3 (J 18))))))))))
theorem zbs_X5_run_0 {X : zCt} (hR : zRX X = { frames := 3, cells := 0, slots := 0, locals := 72 }) (J : Nat → zPP) (hJ : ∀ h ∈ ([18] : List Nat), zSd X RX5 "run" cX5_run 4 none h (J h)) : zSd X RX5 "run" cX5_run 4 none 0 (zb_X5_run_0 (zKX X) J) := zs_aload_n zd_X5_run_0 rfl (zs_V (ci := 5) rfl rfl (zm_X5_dryUp _ _ _) gw_2_216 gw_2_213 gw_2_215 gw_0_12 gw_1_5 zdn_X5_dryUp (zrm hR (by decide) (by decide)) zd_X5_run_1 (zCl_V0 zok_l) (zs_aload_n zd_X5_run_4 rfl (zs_aload_n zd_X5_run_5 rfl (zs_getI (ci := 1) (j := 3) (T := TX1) rfl inX1 (by decide) gw_1_39 rfl zd_X5_run_6 (zs_aload_n zd_X5_run_9 rfl (zs_getI (ci := 1) (j := 4) (T := TX1) rfl inX1 (by decide) gw_1_43 rfl zd_X5_run_10 (zs_V (ci := 5) rfl rfl (zm_X5_pour _ _ _) gw_2_220 gw_2_217 gw_2_219 gw_0_13 gw_1_5 zdn_X5_pour (zrm hR (by decide) (by decide)) zd_X5_run_13 (zCl_V2 zok_l) (zs_iconst zd_X5_run_16 (by decide) (zs_istore_n zd_X5_run_17 rfl (by decide) (hJ 18 (by decide)))))))))))
def zb_X5_run_50 (K : zKt) (J : Nat → zPP) : zPP := zT_vret K
theorem zbs_X5_run_50 {X : zCt} (hR : zRX X = { frames := 3, cells := 0, slots := 0, locals := 72 }) (J : Nat → zPP) (hJ : ∀ h ∈ ([18] : List Nat), zSd X RX5 "run" cX5_run 4 none h (J h)) : zSd X RX5 "run" cX5_run 4 none 50 (zb_X5_run_50 (zKX X) J) := zs_vret rfl zd_X5_run_50
def zb_X5_run_18 (K : zKt) (J : Nat → zPP) : zPP := zT_ild 3 (zT_ald 0 (zT_getI 5 5 11 (zT_if2 (fun x y => y ≤ x) (zb_X5_run_50 K J) (zT_ild 3 (zT_push (.int 120) (zT_if2 (fun x y => y ≤ x) (zb_X5_run_50 K J) (zT_ald 0 (zT_ald 1 (zT_ald 0 (zT_getR 5 4 11 (zT_ild 3 (zT_ald0 0 (zT_ild 2 (zT_V3 zok 5 11 zc_X5_giveOn (zT_iinc 3 1 (J 18))))))))))))))))
theorem zbs_X5_run_18 {X : zCt} (hR : zRX X = { frames := 3, cells := 0, slots := 0, locals := 72 }) (J : Nat → zPP) (hJ : ∀ h ∈ ([18] : List Nat), zSd X RX5 "run" cX5_run 4 none h (J h)) : zSd X RX5 "run" cX5_run 4 none 18 (zb_X5_run_18 (zKX X) J) := zs_iload_n zd_X5_run_18 rfl (zs_aload_n zd_X5_run_19 rfl (zs_getI (ci := 5) (j := 5) (T := TX5) rfl inX5 (by decide) gw_1_121 rfl zd_X5_run_20 (zs_icmp_ge (tgt := 50) zd_X5_run_23 (by decide) (zbs_X5_run_50 hR J hJ) (zs_iload_n zd_X5_run_26 rfl (zs_bipush zd_X5_run_27 (by decide) (zs_icmp_ge (tgt := 50) zd_X5_run_29 (by decide) (zbs_X5_run_50 hR J hJ) (zs_aload_n zd_X5_run_32 rfl (zs_aload_n zd_X5_run_33 rfl (zs_aload_n zd_X5_run_34 rfl (zs_getR (ci := 5) (j := 4) (T := TX5) rfl inX5 (by decide) gw_1_120 rfl zd_X5_run_35 (zs_iload_n zd_X5_run_38 rfl (zs_iald zd_X5_run_39 (zs_iload_n zd_X5_run_40 rfl (zs_V (ci := 5) rfl rfl (zm_X5_giveOn _ _ _) gw_2_228 gw_2_225 gw_2_227 gw_0_15 gw_1_5 zdn_X5_giveOn (zrm hR (by decide) (by decide)) zd_X5_run_41 (zCl_V3 zok_l) (zs_iinc zd_X5_run_44 (by decide) (by decide) (zs_goto (tgt := 18) zd_X5_run_47 (by decide) (hJ 18 (by decide))))))))))))))))))
def zB_X5_run (K : zKt) (J : Nat → zPP) (h : Nat) : zPP := if h = 18 then zb_X5_run_18 K J else (fun _ _ _ => False)
theorem zBs_X5_run {X : zCt} (hR : zRX X = { frames := 3, cells := 0, slots := 0, locals := 72 }) : ∀ J : Nat → zPP, (∀ h ∈ ([18] : List Nat), zSd X RX5 "run" cX5_run 4 none h (J h)) → ∀ h ∈ ([18] : List Nat), zSd X RX5 "run" cX5_run 4 none h (zB_X5_run (zKX X) J h) := by
  intro J hJ h hh
  unfold zB_X5_run
  simp only [List.mem_cons, List.not_mem_nil, or_false] at hh
  subst hh
  exact zbs_X5_run_18 hR J hJ
theorem zdn_X5_run : yX5_run.cls ≠ "java/lang/invoke/MethodHandle" ∧ yX5_run.cls ≠ "java/lang/invoke/VarHandle" ∧ (parseMethodDescriptor yX5_run.desc).map (fun d => d.parameters.length) = some 2 := by decide +kernel
/-! WATER: run and settle -/
def wfl (w h : Nat) (H : Nat → Nat) (D : Nat → Bool) (sort sp fl : Nat) (A : Nat → Nat) : Prop := ∀ x, x < 120 → wil w h x → A x = (if x = sp then fl else 0) + wsm (wfr w h H D sort A (fun _ => True) x) 4
def wpt (w h : Nat) (H : Nat → Nat) (D : Nat → Bool) (c : Nat) : Bool := decide (wct (wpo (wdr w h H D c)) 4 = 0)
theorem wri_end {w h : Nat} {H : Nat → Nat} {D : Nat → Bool} {sort sp fl : Nat} {S : wST} (hS : wri w h H D sort sp fl S.2.length S) : wfl w h H D sort sp fl S.1 := by
  intro x hx hxl
  obtain ⟨⟨hwf, hpw, hin, hz, hkl⟩, hfl, hcon, hdone⟩ := hS
  rw [hfl x hx hxl]
  congr 1
  refine wsm_congr fun e he => ?_
  unfold wfr
  cases wnb w h x e with
  | none => rfl
  | some b =>
    dsimp only
    rw [if_pos trivial, List.take_length]
    by_cases hb : b ∈ S.2
    · rw [if_pos hb]
    · rw [if_neg hb, hz b hb, wgv_0]
theorem wri_bd {w h : Nat} {H : Nat → Nat} {D : Nat → Bool} {sort sp fl k : Nat} {S : wST} (hS : wri w h H D sort sp fl k S) : ∀ e, S.1 e ≤ fl := by
  intro e
  obtain ⟨⟨hwf, hpw, hin, hz, hkl⟩, hfl, hcon, hdone⟩ := hS
  by_cases he : e ∈ S.2
  · rw [← List.take_append_drop k S.2] at he
    rcases List.mem_append.mp he with he | he
    · exact hdone e he
    · have := wsl_mem (A := S.1) he
      omega
  · rw [hz e he]; omega
theorem wri_0 {w h : Nat} {H : Nat → Nat} {D : Nat → Bool} {sort sp fl : Nat} {f11 : Nat → Int32} (hf : ∀ e, e < 120 → f11 e = nI (H e) ∧ H e ≤ 200) (hsp : sp < 120) (hil : wil w h sp) : wri w h H D sort sp fl 0 (wpr f11 sp fl (fun _ => 0, [])) := by
  have h0 : wok H w h 0 ((fun _ => 0, []) : wST) := ⟨⟨List.nodup_nil, fun x hx => absurd hx List.not_mem_nil, fun x _ => by simp⟩, List.Pairwise.nil, fun x hx => absurd hx List.not_mem_nil, fun _ _ => rfl, Nat.le_refl _⟩
  obtain ⟨h1, h2, h3⟩ := wpr_ok (v := fl) hf h0 hsp hil (fun x hx => absurd hx List.not_mem_nil)
  refine ⟨h1, fun x hx hxl => ?_, ?_, fun x hx => ?_⟩
  · have e : wsm (wfr w h H D sort (wpr f11 sp fl (fun _ => 0, [])).1 (fun b => b ∈ (wpr f11 sp fl (fun _ => 0, [])).2.take 0) x) 4 = 0 := by
      have : wsm (wfr w h H D sort (wpr f11 sp fl (fun _ => 0, [])).1 (fun b => b ∈ (wpr f11 sp fl (fun _ => 0, [])).2.take 0) x) 4 = wsm (fun _ => 0) 4 := wsm_congr fun e he => by
        unfold wfr
        cases wnb w h x e with
        | none => rfl
        | some b => simp
      rw [this]
      rfl
    rw [e]
    show va_up (fun _ => 0) sp (0 + fl) x = _
    rw [zup_at]
    simp
  · have : wsl ((fun _ => 0, []) : wST).1 (List.drop 0 ((fun _ => 0, []) : wST).2) = 0 := rfl
    omega
  · rw [List.take_zero] at hx
    exact absurd hx List.not_mem_nil
def zc_X5_run (a : List Value) (M : zMm) (K : zKt) : Prop := match a with
  | [.ref k, .ref k', .int y] => k = 10 ∧ k' = 1 ∧ zxw M ∧ ∃ w h H D sort sp fl S, zld M w h H D ∧ y = nI sort ∧ sort < 3 ∧ M.2.1 1 3 = nI sp ∧ sp < 120 ∧ wil w h sp ∧ M.2.1 1 4 = nI fl ∧ fl ≤ 1000 ∧ zwt M S.1 S.2 ∧ wwf S ∧ ∀ M' S', zsm [10, 13, 14, 15, 16, 17, 18, 19] M M' → zwt M' S'.1 S'.2 → wwf S' → (∀ x ∈ S'.2, wil w h x) → (∀ x, S'.1 x ≤ fl) → wfl w h H D sort sp fl S'.1 → (∀ x ∈ S'.2, M'.2.1 14 x = if wpt w h H D x = true then 1 else 0) → K none M'
  | _ => False
set_option maxHeartbeats 2000000 in
theorem zm_X5_run (l : Launch) (D : va_G) (Y : Nat → ClassId) : zMt l D Y yX5_run cX5_run 4 none 3 72 0 0 zc_X5_run := by
  refine zwhile1 (h0 := 18) (by decide) (fun K J _ _ => zb_X5_run_0 K J) (fun K _ _ J => zb_X5_run_18 K J) (fun X hR J hJ => zbs_X5_run_0 hR J hJ) (fun X hR J hJ => zbs_X5_run_18 hR J hJ) (fun avs M K h => ?_)
  unfold zc_X5_run at h
  split at h
  · next k k' y =>
    obtain ⟨rfl, rfl, hx, w, h', H, D, sort, sp, fl, S0, hld, rfl, hso, hsp1, hsp, hspl, hfl1, hfl, hwt0, hwf0, h⟩ := h
    have hf11 := hld.2.2.2.2.1
    have hw := hld.2.2.1
    have hh := hld.2.2.2.1
    refine ⟨by simp [zent], fun q M' ls st => ∃ i S, q = 120 - i ∧ ls = [some (.ref 10), some (.ref 1), some (.int (nI sort)), some (.int (nI i))] ∧ st = [] ∧ zsm [10, 13, 14, 15, 16, 17, 18, 19] M M' ∧ zwt M' S.1 S.2 ∧ wri w h' H D sort sp fl i S ∧ (∀ x ∈ S.2.take i, M'.2.1 14 x = if wpt w h' H D x = true then 1 else 0), ?_, ?_⟩
    · rintro q J hJ M' ls st ⟨i, S, rfl, rfl, rfl, hs, hwt, hri, hpit⟩
      obtain ⟨x0, x1, x2, x3, x4, x5, x6, x7, x8⟩ := hx.to hs
      have hil := hri.1.2.2.2.2
      obtain ⟨t1, t2, t3, t4⟩ := hwt
      have hend : i = S.2.length → zb_X5_run_50 K J M' [some (.ref 10), some (.ref 1), some (.int (nI sort)), some (.int (nI i))] [] := by
        intro e
        simp only [zb_X5_run_50, zT_push, zT_bin, zT_div, zT_bil, zT_shl, zT_un, zT_i2l, zT_l2i, zT_lcmp, zT_ild, zT_lld, zT_ald, zT_ist, zT_lst, zT_ast, zT_iinc, zT_dup, zT_dup2, zT_pop, zT_if1, zT_if2, zT_ifn, zT_getI, zT_getJ, zT_getR, zT_putI, zT_putZ, zT_putJ, zT_putR, zT_ald0, zT_lald, zT_aald, zT_iast, zT_zast, zT_bast, zT_last, zT_aast, zT_iret, zT_nret, zT_aret, zT_vret, zT_oi, zT_mm, zT_ialX, zT_S1, zT_S2, zT_S3, zT_V0, zT_V1, zT_V2, zT_V3, zT_V4, zT_V5, zT_V6, zT_I0, zT_I1, zT_I2, zlg, zlset, zlpr, zent, zok, va_rf, List.length_cons, List.length_nil, List.replicate, List.cons_append, List.nil_append, List.append_nil, Option.toList_some, Option.toList_none, Option.toList, Nat.reduceAdd, Nat.reduceSub, Nat.reduceLeDiff, Nat.zero_add, Nat.zero_le, true_and, and_true, Nat.le_refl, ge_iff_le, Nat.reduceEqDiff]
        subst e
        rw [List.take_length] at hpit
        exact h M' S hs ⟨t1, t2, t3, t4⟩ hri.1.1 hri.1.2.2.1 (wri_bd hri) (wri_end hri) hpit
      simp only [zb_X5_run_18, zsh_10, zsh_15, x4, t3, zT_push, zT_bin, zT_div, zT_bil, zT_shl, zT_un, zT_i2l, zT_l2i, zT_lcmp, zT_ild, zT_lld, zT_ald, zT_ist, zT_lst, zT_ast, zT_iinc, zT_dup, zT_dup2, zT_pop, zT_if1, zT_if2, zT_ifn, zT_getI, zT_getJ, zT_getR, zT_putI, zT_putZ, zT_putJ, zT_putR, zT_ald0, zT_lald, zT_aald, zT_iast, zT_zast, zT_bast, zT_last, zT_aast, zT_iret, zT_nret, zT_aret, zT_vret, zT_oi, zT_mm, zT_ialX, zT_S1, zT_S2, zT_S3, zT_V0, zT_V1, zT_V2, zT_V3, zT_V4, zT_V5, zT_V6, zT_I0, zT_I1, zT_I2, zlg, zlset, zlpr, zent, zok, va_rf, List.length_cons, List.length_nil, List.replicate, List.cons_append, List.nil_append, List.append_nil, Option.toList_some, Option.toList_none, Option.toList, Nat.reduceAdd, Nat.reduceSub, Nat.reduceLeDiff, Nat.zero_add, Nat.zero_le, true_and, and_true, Nat.le_refl, ge_iff_le, Nat.reduceEqDiff]
      refine ⟨fun h1 => hend ?_, fun h1 => ⟨fun h2 => hend ?_, fun h2 => ?_⟩⟩
      · have := zn_ge' h1 (by omega) (by omega)
        omega
      · have := zn_ge' (b := 120) h2 (by omega) (by omega)
        omega
      · have hlt := zn_ge h1 (by omega) (by omega)
        have hg := wat_get hlt
        obtain ⟨g1, g2⟩ := t2 i _ hg
        have hcm : wat S.2 i ∈ S.2 := List.mem_of_getElem? hg
        have hst := wri_step (f11 := M.2.1 11) hf11 hw hh hri hlt
        have hbd := wri_bd hri
        have h11 : M'.2.1 11 = M.2.1 11 := hs.2.2 11 (by simp)
        rw [nI_clamp (by omega), g1]
        refine ⟨vp_in_nI (by omega) (by decide), ?_⟩
        unfold zc_X5_giveOn
        dsimp only
        refine ⟨rfl, rfl, hx.to hs, w, h', H, D, wat S.2 i, sort, S, hld.to hs (by simp) (by simp) (by simp), rfl, g2, hri.1.2.2.1 _ hcm, rfl, hso, ⟨t1, t2, t3, t4⟩, hri.1.1, fun e => by have := hbd e; omega, by have := hbd (wat S.2 i); omega, fun M2 hs2 h14 hwt2 => ?_⟩
        rw [h11] at hwt2
        refine hJ (120 - (i + 1)) _ _ _ (by omega) ⟨i + 1, _, rfl, by rw [nI_1], rfl, hs.tr hs2, hwt2, hst.1, fun x hx' => ?_⟩
        rw [hst.2.1] at hx'
        rw [h14, zup_at]
        by_cases e : x = wat S.2 i
        · rw [if_pos e, e]
          unfold wpt
          simp only [decide_eq_true_eq]
        · rw [if_neg e]
          rcases List.mem_append.mp hx' with z | z
          · exact hpit x z
          · exact absurd (by simpa using z) e
    · intro J hJ
      simp only [zb_X5_run_0, zsh_10, zT_push, zT_bin, zT_div, zT_bil, zT_shl, zT_un, zT_i2l, zT_l2i, zT_lcmp, zT_ild, zT_lld, zT_ald, zT_ist, zT_lst, zT_ast, zT_iinc, zT_dup, zT_dup2, zT_pop, zT_if1, zT_if2, zT_ifn, zT_getI, zT_getJ, zT_getR, zT_putI, zT_putZ, zT_putJ, zT_putR, zT_ald0, zT_lald, zT_aald, zT_iast, zT_zast, zT_bast, zT_last, zT_aast, zT_iret, zT_nret, zT_aret, zT_vret, zT_oi, zT_mm, zT_ialX, zT_S1, zT_S2, zT_S3, zT_V0, zT_V1, zT_V2, zT_V3, zT_V4, zT_V5, zT_V6, zT_I0, zT_I1, zT_I2, zlg, zlset, zlpr, zent, zok, va_rf, List.length_cons, List.length_nil, List.replicate, List.cons_append, List.nil_append, List.append_nil, Option.toList_some, Option.toList_none, Option.toList, Nat.reduceAdd, Nat.reduceSub, Nat.reduceLeDiff, Nat.zero_add, Nat.zero_le, true_and, and_true, Nat.le_refl, ge_iff_le, Nat.reduceEqDiff]
      unfold zc_X5_dryUp
      dsimp only
      refine ⟨rfl, hx, S0.1, S0.2, hwt0, fun M1 hs1 h10 h5 h13 => ?_⟩
      have hone : M1.2.1 1 = M.2.1 1 := hs1.2.2 1 (by simp)
      have h11 : M1.2.1 11 = M.2.1 11 := hs1.2.2 11 (by simp)
      simp only [zsh_1, hone, hsp1, hfl1, zT_push, zT_bin, zT_div, zT_bil, zT_shl, zT_un, zT_i2l, zT_l2i, zT_lcmp, zT_ild, zT_lld, zT_ald, zT_ist, zT_lst, zT_ast, zT_iinc, zT_dup, zT_dup2, zT_pop, zT_if1, zT_if2, zT_ifn, zT_getI, zT_getJ, zT_getR, zT_putI, zT_putZ, zT_putJ, zT_putR, zT_ald0, zT_lald, zT_aald, zT_iast, zT_zast, zT_bast, zT_last, zT_aast, zT_iret, zT_nret, zT_aret, zT_vret, zT_oi, zT_mm, zT_ialX, zT_S1, zT_S2, zT_S3, zT_V0, zT_V1, zT_V2, zT_V3, zT_V4, zT_V5, zT_V6, zT_I0, zT_I1, zT_I2, zlg, zlset, zlpr, zent, zok, va_rf, List.length_cons, List.length_nil, List.replicate, List.cons_append, List.nil_append, List.append_nil, Option.toList_some, Option.toList_none, Option.toList, Nat.reduceAdd, Nat.reduceSub, Nat.reduceLeDiff, Nat.zero_add, Nat.zero_le, true_and, and_true, Nat.le_refl, ge_iff_le, Nat.reduceEqDiff]
      unfold zc_X5_pour
      dsimp only
      have hzero : ∀ e, e < 120 → (if e ∈ S0.2 then 0 else S0.1 e) = 0 := by
        intro e he
        by_cases z : e ∈ S0.2
        · rw [if_pos z]
        · rw [if_neg z]
          have := hwf0.2.2 e he
          have : ¬ 0 < S0.1 e := fun q => z (this.mpr q)
          omega
      refine ⟨rfl, hx.to hs1, sp, fl, fun _ => 0, [], rfl, rfl, hsp, by omega, Nat.zero_le _, ⟨fun e he => by rw [h13 e he, hzero e he], fun i x hi => by simp at hi, by rw [h5]; rfl, Nat.zero_le _⟩, fun _ _ => by decide, fun M2 hs2 _ hwt2 => ?_⟩
      have hr0 := wri_0 (D := D) (sort := sort) (fl := fl) hf11 hsp hspl
      rw [h11] at hwt2
      refine hJ 120 _ _ _ ⟨0, wpr (M.2.1 11) sp fl (fun _ => 0, []), rfl, rfl, rfl, (hs1.up (by simp)).tr (hs2.up (by simp)), hwt2, hr0, fun x hx' => ?_⟩
      rw [List.take_zero] at hx'
      exact absurd hx' List.not_mem_nil
  · exact h.elim
/-- a year's end for one cell -/
def wst (lv rate wear hg g : Nat) (pit : Bool) : Nat := if hg < lv then (if lv < hg + g * rate / 16 then lv else hg + g * rate / 16) else if pit = true then (if 0 < g then (if 200 < hg + 1 then 200 else hg + 1) else hg) else if 16 ≤ g then hg - wear else hg
theorem wst_0 {lv rate wear hg : Nat} {pit : Bool} : wst lv rate wear hg 0 pit = hg := by
  unfold wst
  simp
  omega
theorem wst_le {lv rate wear hg g : Nat} {pit : Bool} (h1 : lv ≤ 200) (h2 : hg ≤ 200) : wst lv rate wear hg g pit ≤ 200 := by
  unfold wst
  split
  · split <;> omega
  · split
    · split
      · split <;> omega
      · omega
    · split <;> omega
def zc_X5_settle (a : List Value) (M : zMm) (K : zKt) : Prop := match a with
  | [.ref k, .int x, .int y, .int z] => k = 10 ∧ zxw M ∧ ∃ (lv rate wear : Nat) (S : wST) (H : Nat → Nat) (pit : Nat → Bool), x = nI lv ∧ lv ≤ 200 ∧ y = nI rate ∧ rate ≤ 6 ∧ z = nI wear ∧ wear ≤ 1 ∧ zwt M S.1 S.2 ∧ wwf S ∧ (∀ e, S.1 e ≤ 1000) ∧ (∀ e, e < 120 → M.2.1 11 e = nI (H e) ∧ H e ≤ 200) ∧ (∀ x ∈ S.2, M.2.1 14 x = if pit x = true then 1 else 0) ∧ ∀ M', zsm [11] M M' → (∀ e, e < 120 → M'.2.1 11 e = nI (wst lv rate wear (H e) (S.1 e) (pit e))) → K none M'
  | _ => False
theorem zmin_n {a b : Nat} (ha : a < 2 ^ 31) (hb : b < 2 ^ 31) : (if nI b < nI a then nI b else nI a) = nI (if b < a then b else a) := by
  by_cases q : b < a
  · rw [if_pos ((nI_ltI hb ha).mpr q), if_pos q]
  · rw [if_neg (fun z => q ((nI_ltI hb ha).mp z)), if_neg q]
set_option maxHeartbeats 2000000 in
theorem zm_X5_settle (l : Launch) (D : va_G) (Y : Nat → ClassId) : zMt l D Y yX5_settle cX5_settle 7 none 1 21 0 0 zc_X5_settle := by
  refine zwhile1 (h0 := 3) (by decide) (fun K J _ _ => zb_X5_settle_0 K J) (fun K _ _ J => zb_X5_settle_3 K J) (fun X hR J hJ => zbs_X5_settle_0 hR J hJ) (fun X hR J hJ => zbs_X5_settle_3 hR J hJ) (fun avs M K h => ?_)
  unfold zc_X5_settle at h
  split at h
  · next k x y z =>
    obtain ⟨rfl, hx, lv, rate, wear, S, H, pit, rfl, hlv, rfl, hrt, rfl, hwr, hwt, hwf, hbd, hH, hpit, h⟩ := h
    obtain ⟨t1, t2, t3, t4⟩ := hwt
    refine ⟨by simp [zent], fun q M' ls st => ∃ i o1 o2, q = 120 - i ∧ i ≤ S.2.length ∧ ls = [some (.ref 10), some (.int (nI lv)), some (.int (nI rate)), some (.int (nI wear)), some (.int (nI i)), o1, o2] ∧ st = [] ∧ zsm [11] M M' ∧ (∀ e, e < 120 → M'.2.1 11 e = nI (if e ∈ S.2.take i then wst lv rate wear (H e) (S.1 e) (pit e) else H e)), ?_, ?_⟩
    · rintro q J hJ M' ls st ⟨i, o1, o2, rfl, hi, rfl, rfl, hs, hc⟩
      obtain ⟨x0, x1, x2, x3, x4, x5, x6, x7, x8⟩ := hx.to hs
      have h10 : M'.2.1 10 = M.2.1 10 := hs.2.2 10 (by simp)
      have h13 : M'.2.1 13 = M.2.1 13 := hs.2.2 13 (by simp)
      have h14 : M'.2.1 14 = M.2.1 14 := hs.2.2 14 (by simp)
      have h15 : M'.2.1 15 = M.2.1 15 := hs.2.2 15 (by simp)
      have hend : i = S.2.length → zb_X5_settle_135 K J M' [some (.ref 10), some (.int (nI lv)), some (.int (nI rate)), some (.int (nI wear)), some (.int (nI i)), o1, o2] [] := by
        intro e
        subst e
        simp only [zb_X5_settle_135, zT_push, zT_bin, zT_div, zT_bil, zT_shl, zT_un, zT_i2l, zT_l2i, zT_lcmp, zT_ild, zT_lld, zT_ald, zT_ist, zT_lst, zT_ast, zT_iinc, zT_dup, zT_dup2, zT_pop, zT_if1, zT_if2, zT_ifn, zT_getI, zT_getJ, zT_getR, zT_putI, zT_putZ, zT_putJ, zT_putR, zT_ald0, zT_lald, zT_aald, zT_iast, zT_zast, zT_bast, zT_last, zT_aast, zT_iret, zT_nret, zT_aret, zT_vret, zT_oi, zT_mm, zT_ialX, zT_S1, zT_S2, zT_S3, zT_V0, zT_V1, zT_V2, zT_V3, zT_V4, zT_V5, zT_V6, zT_I0, zT_I1, zT_I2, zlg, zlset, zlpr, zent, zok, va_rf, List.length_cons, List.length_nil, List.replicate, List.cons_append, List.nil_append, List.append_nil, Option.toList_some, Option.toList_none, Option.toList, Nat.reduceAdd, Nat.reduceSub, Nat.reduceLeDiff, Nat.zero_add, Nat.zero_le, true_and, and_true, Nat.le_refl, ge_iff_le, Nat.reduceEqDiff]
        refine h M' hs (fun e he => ?_)
        rw [hc e he, List.take_length]
        by_cases z : e ∈ S.2
        · rw [if_pos z]
        · rw [if_neg z]
          have := hwf.2.2 e he
          have h0 : S.1 e = 0 := by
            have : ¬ 0 < S.1 e := fun q => z (this.mpr q)
            omega
          rw [h0, wst_0]
      simp only [zb_X5_settle_3, zsh_10, zsh_11, zsh_13, zsh_14, zsh_15, x0, x2, x3, x4, h10, h13, h14, h15, t3, zT_push, zT_bin, zT_div, zT_bil, zT_shl, zT_un, zT_i2l, zT_l2i, zT_lcmp, zT_ild, zT_lld, zT_ald, zT_ist, zT_lst, zT_ast, zT_iinc, zT_dup, zT_dup2, zT_pop, zT_if1, zT_if2, zT_ifn, zT_getI, zT_getJ, zT_getR, zT_putI, zT_putZ, zT_putJ, zT_putR, zT_ald0, zT_lald, zT_aald, zT_iast, zT_zast, zT_bast, zT_last, zT_aast, zT_iret, zT_nret, zT_aret, zT_vret, zT_oi, zT_mm, zT_ialX, zT_S1, zT_S2, zT_S3, zT_V0, zT_V1, zT_V2, zT_V3, zT_V4, zT_V5, zT_V6, zT_I0, zT_I1, zT_I2, zlg, zlset, zlpr, zent, zok, va_rf, List.length_cons, List.length_nil, List.replicate, List.cons_append, List.nil_append, List.append_nil, Option.toList_some, Option.toList_none, Option.toList, Nat.reduceAdd, Nat.reduceSub, Nat.reduceLeDiff, Nat.zero_add, Nat.zero_le, true_and, and_true, Nat.le_refl, ge_iff_le, Nat.reduceEqDiff]
      refine ⟨fun h1 => hend ?_, fun h1 => ⟨fun h2 => hend ?_, fun h2 => ?_⟩⟩
      · have := zn_ge' h1 (by omega) (by omega)
        omega
      · have := zn_ge' (b := 120) h2 (by omega) (by omega)
        omega
      · have hlt := zn_ge h1 (by omega) (by omega)
        have hg := wat_get hlt
        obtain ⟨g1, g2⟩ := t2 i _ hg
        have hcm : wat S.2 i ∈ S.2 := List.mem_of_getElem? hg
        have htk : S.2.take (i + 1) = S.2.take i ++ [wat S.2 i] := by rw [List.take_succ, hg]; rfl
        have hnot : wat S.2 i ∉ S.2.take i := by
          intro z
          have hnd := hwf.1
          rw [← List.take_append_drop i S.2, List.nodup_append] at hnd
          have hm : wat S.2 i ∈ S.2.drop i := List.mem_of_getElem? (i := 0) (by rw [List.getElem?_drop]; exact hg)
          exact hnd.2.2 _ z _ hm rfl
        generalize wat S.2 i = c at hg g1 g2 hcm htk hnot
        obtain ⟨hHc, hHc2⟩ := hH c g2
        have hgc := hbd c
        have hcur : M'.2.1 11 c = nI (H c) := by rw [hc c g2, if_neg hnot]
        have hmul : S.1 c * rate ≤ 6000 := Nat.le_trans (Nat.mul_le_mul hgc hrt) (by decide)
        have hpos : 0 < S.1 c := (hwf.2.2 c g2).mp hcm
        have next : ∀ v, v = wst lv rate wear (H c) (S.1 c) (pit c) → zb_X5_settle_129 K J (zwI M' 11 c (nI v)) [some (.ref 10), some (.int (nI lv)), some (.int (nI rate)), some (.int (nI wear)), some (.int (nI i)), some (.int (nI c)), some (.int (nI (H c)))] [] := by
          intro v hv
          simp only [zb_X5_settle_129, zT_push, zT_bin, zT_div, zT_bil, zT_shl, zT_un, zT_i2l, zT_l2i, zT_lcmp, zT_ild, zT_lld, zT_ald, zT_ist, zT_lst, zT_ast, zT_iinc, zT_dup, zT_dup2, zT_pop, zT_if1, zT_if2, zT_ifn, zT_getI, zT_getJ, zT_getR, zT_putI, zT_putZ, zT_putJ, zT_putR, zT_ald0, zT_lald, zT_aald, zT_iast, zT_zast, zT_bast, zT_last, zT_aast, zT_iret, zT_nret, zT_aret, zT_vret, zT_oi, zT_mm, zT_ialX, zT_S1, zT_S2, zT_S3, zT_V0, zT_V1, zT_V2, zT_V3, zT_V4, zT_V5, zT_V6, zT_I0, zT_I1, zT_I2, zlg, zlset, zlpr, zent, zok, va_rf, List.length_cons, List.length_nil, List.replicate, List.cons_append, List.nil_append, List.append_nil, Option.toList_some, Option.toList_none, Option.toList, Nat.reduceAdd, Nat.reduceSub, Nat.reduceLeDiff, Nat.zero_add, Nat.zero_le, true_and, and_true, Nat.le_refl, ge_iff_le, Nat.reduceEqDiff]
          refine hJ (120 - (i + 1)) _ _ _ (by omega) ⟨i + 1, _, _, rfl, hlt, by rw [nI_1], rfl, hs.w (by simp), fun e he => ?_⟩
          simp only [zwI_L, zwI_I, zwI_J, zwI_R, zwJ_L, zwJ_I, zwJ_J, zwJ_R, zwR_L, zwR_I, zwR_J, zwR_R, zw2_s, zw2_n, ne_eq, not_false_eq_true, reduceCtorEq, not_true_eq_false, Nat.reduceEqDiff, zup_at]
          rw [htk]
          by_cases z : e = c
          · subst z
            rw [if_pos rfl, if_pos (List.mem_append_right _ List.mem_cons_self), hv]
          · rw [if_neg z, hc e he]
            have : (e ∈ S.2.take i ++ [c]) ↔ e ∈ S.2.take i := by simp [z]
            simp only [this]
        have keep : wst lv rate wear (H c) (S.1 c) (pit c) = H c → zb_X5_settle_129 K J M' [some (.ref 10), some (.int (nI lv)), some (.int (nI rate)), some (.int (nI wear)), some (.int (nI i)), some (.int (nI c)), some (.int (nI (H c)))] [] := by
          intro hv
          simp only [zb_X5_settle_129, zT_push, zT_bin, zT_div, zT_bil, zT_shl, zT_un, zT_i2l, zT_l2i, zT_lcmp, zT_ild, zT_lld, zT_ald, zT_ist, zT_lst, zT_ast, zT_iinc, zT_dup, zT_dup2, zT_pop, zT_if1, zT_if2, zT_ifn, zT_getI, zT_getJ, zT_getR, zT_putI, zT_putZ, zT_putJ, zT_putR, zT_ald0, zT_lald, zT_aald, zT_iast, zT_zast, zT_bast, zT_last, zT_aast, zT_iret, zT_nret, zT_aret, zT_vret, zT_oi, zT_mm, zT_ialX, zT_S1, zT_S2, zT_S3, zT_V0, zT_V1, zT_V2, zT_V3, zT_V4, zT_V5, zT_V6, zT_I0, zT_I1, zT_I2, zlg, zlset, zlpr, zent, zok, va_rf, List.length_cons, List.length_nil, List.replicate, List.cons_append, List.nil_append, List.append_nil, Option.toList_some, Option.toList_none, Option.toList, Nat.reduceAdd, Nat.reduceSub, Nat.reduceLeDiff, Nat.zero_add, Nat.zero_le, true_and, and_true, Nat.le_refl, ge_iff_le, Nat.reduceEqDiff]
          refine hJ (120 - (i + 1)) _ _ _ (by omega) ⟨i + 1, _, _, rfl, hlt, by rw [nI_1], rfl, hs, fun e he => ?_⟩
          rw [htk, hc e he]
          by_cases z : e = c
          · subst z
            rw [if_neg hnot, if_pos (List.mem_append_right _ List.mem_cons_self), hv]
          · have : (e ∈ S.2.take i ++ [c]) ↔ e ∈ S.2.take i := by simp [z]
            simp only [this]
        rw [nI_clamp (n := i) (by omega), g1, nI_clamp (n := c) (by omega), hcur, t1 c g2, pk_mul, show (16 : Int32) = nI 16 from rfl, pk_div (by omega) (by omega) (by omega), nI_add, zmin_n (by omega) (by omega), hpit c hcm, nI_1, show (200 : Int32) = nI 200 from rfl, zmin_n (by omega) (by omega)]
        refine ⟨vp_in_nI (by omega) (by decide), vp_in_nI g2 (by decide), fun h3 => ⟨vp_in_nI g2 (by decide), fun h4 => ⟨vp_in_nI g2 (by decide), fun h5 => ?_, fun h5 => ⟨vp_in_nI g2 (by decide), ?_⟩⟩, fun h4 => ⟨vp_in_nI g2 (by decide), ?_⟩⟩, fun h3 => ⟨vp_in_nI g2 (by decide), by decide, vp_in_nI g2 (by decide), ?_⟩⟩
        · have a3 := zn_ge' h3 (by omega) (by omega)
          have a4 : pit c ≠ true := fun z => by rw [if_pos z] at h4; exact absurd h4 (by decide)
          have a5 := (nI_ltI (by omega) (by omega)).mp h5
          refine keep ?_
          unfold wst
          rw [if_neg (by omega), if_neg a4, if_neg (by omega)]
        · have a3 := zn_ge' h3 (by omega) (by omega)
          have a4 : pit c ≠ true := fun z => by rw [if_pos z] at h4; exact absurd h4 (by decide)
          have a5 : ¬ S.1 c < 16 := fun z => h5 ((nI_ltI (by omega) (by omega)).mpr z)
          have ev : (if 0 < nI (H c) - nI wear then nI (H c) - nI wear else 0) = nI (H c - wear) := by
            by_cases hq : wear ≤ H c
            · rw [pk_sub hq, show (0 : Int32) = nI 0 from rfl]
              by_cases h0 : 0 < H c - wear
              · rw [if_pos ((nI_ltI (a := 0) (by omega) (by omega)).mpr h0)]
              · rw [if_neg (fun z => h0 ((nI_ltI (a := 0) (by omega) (by omega)).mp z)), show H c - wear = 0 from by omega]
            · have e1 : H c = 0 := by omega
              have e2 : wear = 1 := by omega
              rw [e1, e2]
              decide
          rw [ev]
          refine next _ ?_
          unfold wst
          rw [if_neg (by omega), if_neg a4, if_pos (by omega)]
        · have a3 := zn_ge' h3 (by omega) (by omega)
          have a4 : pit c = true := by
            cases hq : pit c with
            | true => rfl
            | false => rw [hq] at h4; exact absurd rfl h4
          refine next _ ?_
          have e : wst lv rate wear (H c) (S.1 c) (pit c) = (if 200 < H c + 1 then 200 else H c + 1) := by
            unfold wst
            rw [if_neg (by omega : ¬ H c < lv), if_pos a4, if_pos hpos]
          rw [e]
          split <;> split <;> omega
        · have a3 := zn_ge h3 (by omega) (by omega)
          refine next _ ?_
          unfold wst
          rw [if_pos a3]
          split <;> split <;> omega
    · intro J hJ
      simp only [zb_X5_settle_0, zT_push, zT_bin, zT_div, zT_bil, zT_shl, zT_un, zT_i2l, zT_l2i, zT_lcmp, zT_ild, zT_lld, zT_ald, zT_ist, zT_lst, zT_ast, zT_iinc, zT_dup, zT_dup2, zT_pop, zT_if1, zT_if2, zT_ifn, zT_getI, zT_getJ, zT_getR, zT_putI, zT_putZ, zT_putJ, zT_putR, zT_ald0, zT_lald, zT_aald, zT_iast, zT_zast, zT_bast, zT_last, zT_aast, zT_iret, zT_nret, zT_aret, zT_vret, zT_oi, zT_mm, zT_ialX, zT_S1, zT_S2, zT_S3, zT_V0, zT_V1, zT_V2, zT_V3, zT_V4, zT_V5, zT_V6, zT_I0, zT_I1, zT_I2, zlg, zlset, zlpr, zent, zok, va_rf, List.length_cons, List.length_nil, List.replicate, List.cons_append, List.nil_append, List.append_nil, Option.toList_some, Option.toList_none, Option.toList, Nat.reduceAdd, Nat.reduceSub, Nat.reduceLeDiff, Nat.zero_add, Nat.zero_le, true_and, and_true, Nat.le_refl, ge_iff_le, Nat.reduceEqDiff]
      exact hJ 120 _ _ _ ⟨0, none, none, rfl, Nat.zero_le _, rfl, rfl, zsm.rf, fun e he => by rw [(hH e he).1]; simp⟩
  · exact h.elim
end
section
/-! DeltaRuns$Plan dykesIn -/
theorem zd_X2_dykesIn_0 : decode cX2_dykesIn 0 = .ok (.iconst 0, 1) := by decide +kernel
theorem zd_X2_dykesIn_1 : decode cX2_dykesIn 1 = .ok (.istore 4, 2) := by decide +kernel
theorem zd_X2_dykesIn_3 : decode cX2_dykesIn 3 = .ok (.iload 4, 2) := by decide +kernel
theorem zd_X2_dykesIn_5 : decode cX2_dykesIn 5 = .ok (.aload_n 0, 1) := by decide +kernel
theorem zd_X2_dykesIn_6 : decode cX2_dykesIn 6 = .ok (.getfield 31, 3) := by decide +kernel
theorem zd_X2_dykesIn_9 : decode cX2_dykesIn 9 = .ok (.if_icmp .ge 100, 3) := by decide +kernel
theorem zd_X2_dykesIn_12 : decode cX2_dykesIn 12 = .ok (.aload_n 0, 1) := by decide +kernel
theorem zd_X2_dykesIn_13 : decode cX2_dykesIn 13 = .ok (.getfield 9, 3) := by decide +kernel
theorem zd_X2_dykesIn_16 : decode cX2_dykesIn 16 = .ok (.iload 4, 2) := by decide +kernel
theorem zd_X2_dykesIn_18 : decode cX2_dykesIn 18 = .ok (.iaload, 1) := by decide +kernel
theorem zd_X2_dykesIn_19 : decode cX2_dykesIn 19 = .ok (.iload_n 1, 1) := by decide +kernel
theorem zd_X2_dykesIn_20 : decode cX2_dykesIn 20 = .ok (.if_icmp .ne 83, 3) := by decide +kernel
theorem zd_X2_dykesIn_23 : decode cX2_dykesIn 23 = .ok (.aload_n 2, 1) := by decide +kernel
theorem zd_X2_dykesIn_24 : decode cX2_dykesIn 24 = .ok (.aload_n 0, 1) := by decide +kernel
theorem zd_X2_dykesIn_25 : decode cX2_dykesIn 25 = .ok (.getfield 18, 3) := by decide +kernel
theorem zd_X2_dykesIn_28 : decode cX2_dykesIn 28 = .ok (.iload 4, 2) := by decide +kernel
theorem zd_X2_dykesIn_30 : decode cX2_dykesIn 30 = .ok (.iaload, 1) := by decide +kernel
theorem zd_X2_dykesIn_31 : decode cX2_dykesIn 31 = .ok (.aload_n 0, 1) := by decide +kernel
theorem zd_X2_dykesIn_32 : decode cX2_dykesIn 32 = .ok (.getfield 21, 3) := by decide +kernel
theorem zd_X2_dykesIn_35 : decode cX2_dykesIn 35 = .ok (.iload 4, 2) := by decide +kernel
theorem zd_X2_dykesIn_37 : decode cX2_dykesIn 37 = .ok (.iaload, 1) := by decide +kernel
theorem zd_X2_dykesIn_38 : decode cX2_dykesIn 38 = .ok (.invokevirtual 35, 3) := by decide +kernel
theorem zd_X2_dykesIn_41 : decode cX2_dykesIn 41 = .ok (.ifCond .eq 62, 3) := by decide +kernel
theorem zd_X2_dykesIn_44 : decode cX2_dykesIn 44 = .ok (.aload_n 0, 1) := by decide +kernel
theorem zd_X2_dykesIn_45 : decode cX2_dykesIn 45 = .ok (.getfield 18, 3) := by decide +kernel
theorem zd_X2_dykesIn_48 : decode cX2_dykesIn 48 = .ok (.iload 4, 2) := by decide +kernel
theorem zd_X2_dykesIn_50 : decode cX2_dykesIn 50 = .ok (.iaload, 1) := by decide +kernel
theorem zd_X2_dykesIn_51 : decode cX2_dykesIn 51 = .ok (.aload_n 0, 1) := by decide +kernel
theorem zd_X2_dykesIn_52 : decode cX2_dykesIn 52 = .ok (.getfield 21, 3) := by decide +kernel
theorem zd_X2_dykesIn_55 : decode cX2_dykesIn 55 = .ok (.iload 4, 2) := by decide +kernel
theorem zd_X2_dykesIn_57 : decode cX2_dykesIn 57 = .ok (.iaload, 1) := by decide +kernel
theorem zd_X2_dykesIn_58 : decode cX2_dykesIn 58 = .ok (.invokestatic 41, 3) := by decide +kernel
theorem zd_X2_dykesIn_61 : decode cX2_dykesIn 61 = .ok (.istore 5, 2) := by decide +kernel
theorem zd_X2_dykesIn_63 : decode cX2_dykesIn 63 = .ok (.aload_n 0, 1) := by decide +kernel
theorem zd_X2_dykesIn_64 : decode cX2_dykesIn 64 = .ok (.getfield 15, 3) := by decide +kernel
theorem zd_X2_dykesIn_67 : decode cX2_dykesIn 67 = .ok (.iload 4, 2) := by decide +kernel
theorem zd_X2_dykesIn_69 : decode cX2_dykesIn 69 = .ok (.iaload, 1) := by decide +kernel
theorem zd_X2_dykesIn_70 : decode cX2_dykesIn 70 = .ok (.ifCond .ne 14, 3) := by decide +kernel
theorem zd_X2_dykesIn_73 : decode cX2_dykesIn 73 = .ok (.aload_n 3, 1) := by decide +kernel
theorem zd_X2_dykesIn_74 : decode cX2_dykesIn 74 = .ok (.getfield 58, 3) := by decide +kernel
theorem zd_X2_dykesIn_77 : decode cX2_dykesIn 77 = .ok (.iload 5, 2) := by decide +kernel
theorem zd_X2_dykesIn_79 : decode cX2_dykesIn 79 = .ok (.iconst 1, 1) := by decide +kernel
theorem zd_X2_dykesIn_80 : decode cX2_dykesIn 80 = .ok (.bastore, 1) := by decide +kernel
theorem zd_X2_dykesIn_81 : decode cX2_dykesIn 81 = .ok (.goto 22, 3) := by decide +kernel
theorem zd_X2_dykesIn_84 : decode cX2_dykesIn 84 = .ok (.aload_n 0, 1) := by decide +kernel
theorem zd_X2_dykesIn_85 : decode cX2_dykesIn 85 = .ok (.getfield 15, 3) := by decide +kernel
theorem zd_X2_dykesIn_88 : decode cX2_dykesIn 88 = .ok (.iload 4, 2) := by decide +kernel
theorem zd_X2_dykesIn_90 : decode cX2_dykesIn 90 = .ok (.iaload, 1) := by decide +kernel
theorem zd_X2_dykesIn_91 : decode cX2_dykesIn 91 = .ok (.iconst 1, 1) := by decide +kernel
theorem zd_X2_dykesIn_92 : decode cX2_dykesIn 92 = .ok (.if_icmp .ne 11, 3) := by decide +kernel
theorem zd_X2_dykesIn_95 : decode cX2_dykesIn 95 = .ok (.aload_n 3, 1) := by decide +kernel
theorem zd_X2_dykesIn_96 : decode cX2_dykesIn 96 = .ok (.getfield 58, 3) := by decide +kernel
theorem zd_X2_dykesIn_99 : decode cX2_dykesIn 99 = .ok (.iload 5, 2) := by decide +kernel
theorem zd_X2_dykesIn_101 : decode cX2_dykesIn 101 = .ok (.iconst 0, 1) := by decide +kernel
theorem zd_X2_dykesIn_102 : decode cX2_dykesIn 102 = .ok (.bastore, 1) := by decide +kernel
theorem zd_X2_dykesIn_103 : decode cX2_dykesIn 103 = .ok (.iinc 4 1, 3) := by decide +kernel
theorem zd_X2_dykesIn_106 : decode cX2_dykesIn 106 = .ok (.goto (-103), 3) := by decide +kernel
theorem zd_X2_dykesIn_109 : decode cX2_dykesIn 109 = .ok (.return_, 1) := by decide +kernel
def zb_X2_dykesIn_0 (K : zKt) (J : Nat → zPP) : zPP := zT_push (.int 0) (zT_ist 4 (J 3))
theorem zbs_X2_dykesIn_0 {X : zCt} (hR : zRX X = { frames := 1, cells := 0, slots := 0, locals := 22 }) (J : Nat → zPP) (hJ : ∀ h ∈ ([3] : List Nat), zSd X RX2 "dykesIn" cX2_dykesIn 6 none h (J h)) : zSd X RX2 "dykesIn" cX2_dykesIn 6 none 0 (zb_X2_dykesIn_0 (zKX X) J) := zs_iconst zd_X2_dykesIn_0 (by decide) (zs_istore zd_X2_dykesIn_1 (by decide) (hJ 3 (by decide)))
def zb_X2_dykesIn_103 (K : zKt) (J : Nat → zPP) : zPP := zT_iinc 4 1 (J 3)
theorem zbs_X2_dykesIn_103 {X : zCt} (hR : zRX X = { frames := 1, cells := 0, slots := 0, locals := 22 }) (J : Nat → zPP) (hJ : ∀ h ∈ ([3] : List Nat), zSd X RX2 "dykesIn" cX2_dykesIn 6 none h (J h)) : zSd X RX2 "dykesIn" cX2_dykesIn 6 none 103 (zb_X2_dykesIn_103 (zKX X) J) := zs_iinc zd_X2_dykesIn_103 (by decide) (by decide) (zs_goto (tgt := 3) zd_X2_dykesIn_106 (by decide) (hJ 3 (by decide)))
def zb_X2_dykesIn_3 (K : zKt) (J : Nat → zPP) : zPP := zT_ild 4 (zT_ald 0 (zT_getI 2 5 6 (zT_if2 (fun x y => y ≤ x) (zT_vret K) (zT_ald 0 (zT_getR 2 0 6 (zT_ild 4 (zT_ald0 0 (zT_ild 1 (zT_if2 (fun x y => x = y) (zT_ald 2 (zT_ald 0 (zT_getR 2 2 6 (zT_ild 4 (zT_ald0 0 (zT_ald 0 (zT_getR 2 3 6 (zT_ild 4 (zT_ald0 0 (zT_V2 zok 1 6 zc_X1_has (zT_if1 (fun x => x = 0) (zb_X2_dykesIn_103 K J) (zT_ald 0 (zT_getR 2 2 6 (zT_ild 4 (zT_ald0 0 (zT_ald 0 (zT_getR 2 3 6 (zT_ild 4 (zT_ald0 0 (zT_S2 zok zc_X7_cellAt (zT_ist 5 (zT_ald 0 (zT_getR 2 1 6 (zT_ild 4 (zT_ald0 0 (zT_if1 (fun x => x = 0) (zT_ald 3 (zT_getR 5 1 11 (zT_ild 5 (zT_push (.int 1) (zT_zast (zb_X2_dykesIn_103 K J)))))) (zT_ald 0 (zT_getR 2 1 6 (zT_ild 4 (zT_ald0 0 (zT_push (.int 1) (zT_if2 (fun x y => x = y) (zT_ald 3 (zT_getR 5 1 11 (zT_ild 5 (zT_push (.int 0) (zT_zast (zb_X2_dykesIn_103 K J)))))) (zb_X2_dykesIn_103 K J))))))))))))))))))))))))))))))))) (zb_X2_dykesIn_103 K J))))))))))
theorem zbs_X2_dykesIn_3 {X : zCt} (hR : zRX X = { frames := 1, cells := 0, slots := 0, locals := 22 }) (J : Nat → zPP) (hJ : ∀ h ∈ ([3] : List Nat), zSd X RX2 "dykesIn" cX2_dykesIn 6 none h (J h)) : zSd X RX2 "dykesIn" cX2_dykesIn 6 none 3 (zb_X2_dykesIn_3 (zKX X) J) := zs_iload zd_X2_dykesIn_3 (zs_aload_n zd_X2_dykesIn_5 rfl (zs_getI (ci := 2) (j := 5) (T := TX2) rfl inX2 (by decide) gw_1_170 rfl zd_X2_dykesIn_6 (zs_icmp_ge (tgt := 109) zd_X2_dykesIn_9 (by decide) (zs_vret rfl zd_X2_dykesIn_109) (zs_aload_n zd_X2_dykesIn_12 rfl (zs_getR (ci := 2) (j := 0) (T := TX2) rfl inX2 (by decide) gw_1_159 rfl zd_X2_dykesIn_13 (zs_iload zd_X2_dykesIn_16 (zs_iald zd_X2_dykesIn_18 (zs_iload_n zd_X2_dykesIn_19 rfl (zs_icmp_ne (tgt := 103) zd_X2_dykesIn_20 (by decide) (zbs_X2_dykesIn_103 hR J hJ) (zs_aload_n zd_X2_dykesIn_23 rfl (zs_aload_n zd_X2_dykesIn_24 rfl (zs_getR (ci := 2) (j := 2) (T := TX2) rfl inX2 (by decide) gw_1_163 rfl zd_X2_dykesIn_25 (zs_iload zd_X2_dykesIn_28 (zs_iald zd_X2_dykesIn_30 (zs_aload_n zd_X2_dykesIn_31 rfl (zs_getR (ci := 2) (j := 3) (T := TX2) rfl inX2 (by decide) gw_1_165 rfl zd_X2_dykesIn_32 (zs_iload zd_X2_dykesIn_35 (zs_iald zd_X2_dykesIn_37 (zs_V (ci := 1) rfl rfl (zm_X1_has _ _ _) gw_2_0 gw_2_195 gw_1_238 gw_1_239 gw_1_2 zdn_X1_has (zrm hR (by decide) (by decide)) zd_X2_dykesIn_38 (zCl_V2 zok_l) (zs_if_eq (tgt := 103) zd_X2_dykesIn_41 (by decide) (zbs_X2_dykesIn_103 hR J hJ) (zs_aload_n zd_X2_dykesIn_44 rfl (zs_getR (ci := 2) (j := 2) (T := TX2) rfl inX2 (by decide) gw_1_163 rfl zd_X2_dykesIn_45 (zs_iload zd_X2_dykesIn_48 (zs_iald zd_X2_dykesIn_50 (zs_aload_n zd_X2_dykesIn_51 rfl (zs_getR (ci := 2) (j := 3) (T := TX2) rfl inX2 (by decide) gw_1_165 rfl zd_X2_dykesIn_52 (zs_iload zd_X2_dykesIn_55 (zs_iald zd_X2_dykesIn_57 (zs_SN (zm_X7_cellAt _ _ _) gw_2_7 (List.mem_of_getElem? (i := 7) rfl) gw_2_6 gw_1_1 zdn_X7_cellAt (zrm hR (by decide) (by decide)) zd_X2_dykesIn_58 (zCl_S2 zok_l) (zs_istore zd_X2_dykesIn_61 (by decide) (zs_aload_n zd_X2_dykesIn_63 rfl (zs_getR (ci := 2) (j := 1) (T := TX2) rfl inX2 (by decide) gw_1_161 rfl zd_X2_dykesIn_64 (zs_iload zd_X2_dykesIn_67 (zs_iald zd_X2_dykesIn_69 (zs_if_ne (tgt := 84) zd_X2_dykesIn_70 (by decide) (zs_aload_n zd_X2_dykesIn_84 rfl (zs_getR (ci := 2) (j := 1) (T := TX2) rfl inX2 (by decide) gw_1_161 rfl zd_X2_dykesIn_85 (zs_iload zd_X2_dykesIn_88 (zs_iald zd_X2_dykesIn_90 (zs_iconst zd_X2_dykesIn_91 (by decide) (zs_icmp_ne (tgt := 103) zd_X2_dykesIn_92 (by decide) (zbs_X2_dykesIn_103 hR J hJ) (zs_aload_n zd_X2_dykesIn_95 rfl (zs_getR (ci := 5) (j := 1) (T := TX5) rfl inX5 (by decide) gw_1_115 rfl zd_X2_dykesIn_96 (zs_iload zd_X2_dykesIn_99 (zs_iconst zd_X2_dykesIn_101 (by decide) (zs_zast zd_X2_dykesIn_102 (zbs_X2_dykesIn_103 hR J hJ)))))))))))) (zs_aload_n zd_X2_dykesIn_73 rfl (zs_getR (ci := 5) (j := 1) (T := TX5) rfl inX5 (by decide) gw_1_115 rfl zd_X2_dykesIn_74 (zs_iload zd_X2_dykesIn_77 (zs_iconst zd_X2_dykesIn_79 (by decide) (zs_zast zd_X2_dykesIn_80 (zs_goto (tgt := 103) zd_X2_dykesIn_81 (by decide) (zbs_X2_dykesIn_103 hR J hJ))))))))))))))))))))))))))))))))))))))))))
def zB_X2_dykesIn (K : zKt) (J : Nat → zPP) (h : Nat) : zPP := if h = 3 then zb_X2_dykesIn_3 K J else (fun _ _ _ => False)
theorem zBs_X2_dykesIn {X : zCt} (hR : zRX X = { frames := 1, cells := 0, slots := 0, locals := 22 }) : ∀ J : Nat → zPP, (∀ h ∈ ([3] : List Nat), zSd X RX2 "dykesIn" cX2_dykesIn 6 none h (J h)) → ∀ h ∈ ([3] : List Nat), zSd X RX2 "dykesIn" cX2_dykesIn 6 none h (zB_X2_dykesIn (zKX X) J h) := by
  intro J hJ h hh
  unfold zB_X2_dykesIn
  simp only [List.mem_cons, List.not_mem_nil, or_false] at hh
  subst hh
  exact zbs_X2_dykesIn_3 hR J hJ
theorem zdn_X2_dykesIn : yX2_dykesIn.cls ≠ "java/lang/invoke/MethodHandle" ∧ yX2_dykesIn.cls ≠ "java/lang/invoke/VarHandle" ∧ (parseMethodDescriptor yX2_dykesIn.desc).map (fun d => d.parameters.length) = some 3 := by decide +kernel
/-! THE PLAN's works. An act: (kind, year, x, y, by) -/
abbrev wAc : Type := Nat × Nat × Nat × Nat × Nat
def wak (a : wAc) : Nat := a.1
def way (a : wAc) : Nat := a.2.1
def wax (a : wAc) : Nat := a.2.2.1
def wao (a : wAc) : Nat := a.2.2.2.1
def wab (a : wAc) : Nat := a.2.2.2.2
def wacok (a : wAc) : Prop := wak a < 4 ∧ way a ≤ 30 ∧ wax a < 12 ∧ wao a < 10 ∧ wab a ≤ 200
def waon (w h n : Nat) (a : wAc) : Prop := way a = n ∧ wax a < w ∧ wao a < h
def wao? (w h n : Nat) (a : wAc) : Bool := decide (way a = n ∧ wax a < w ∧ wao a < h)
def wdk1 (w h n : Nat) (D : Nat → Bool) (a : wAc) : Nat → Bool := if wao? w h n a = true then (if wak a = 0 then va_up D (wao a * 12 + wax a) true else if wak a = 1 then va_up D (wao a * 12 + wax a) false else D) else D
def whk1 (w h n : Nat) (H : Nat → Nat) (a : wAc) : Nat → Nat := if wao? w h n a = true then (if wak a = 2 then va_up H (wao a * 12 + wax a) (H (wao a * 12 + wax a) - wab a) else if wak a = 3 then va_up H (wao a * 12 + wax a) (if wab a < H (wao a * 12 + wax a) then wab a else H (wao a * 12 + wax a)) else H) else H
def wdk (w h n : Nat) (acts : List wAc) (D : Nat → Bool) : Nat → Bool := acts.foldl (wdk1 w h n) D
def whk (w h n : Nat) (acts : List wAc) (H : Nat → Nat) : Nat → Nat := acts.foldl (whk1 w h n) H
/-- a plan's cells hold these acts -/
def zpl (M : zMm) (pk : Nat) (acts : List wAc) : Prop := (pk = 21 ∨ pk = 27) ∧ M.2.2.2 pk 0 = some (pk + 1) ∧ M.2.2.2 pk 1 = some (pk + 2) ∧ M.2.2.2 pk 2 = some (pk + 3) ∧ M.2.2.2 pk 3 = some (pk + 4) ∧ M.2.2.2 pk 4 = some (pk + 5) ∧ M.2.1 pk 5 = nI acts.length ∧ acts.length ≤ 20 ∧
  ∀ i a, acts[i]? = some a → wacok a ∧ M.2.1 (pk + 1) i = nI (way a) ∧ M.2.1 (pk + 2) i = nI (wak a) ∧ M.2.1 (pk + 3) i = nI (wax a) ∧ M.2.1 (pk + 4) i = nI (wao a) ∧ (2 ≤ wak a → M.2.1 (pk + 5) i = nI (wab a))
theorem zpl.to {M M' : zMm} {pk : Nat} {acts : List wAc} {ks : List Nat} (h : zpl M pk acts) (hs : zsm ks M M') (hk : ∀ k ∈ ks, k < 21) : zpl M' pk acts := by
  obtain ⟨h1, h2⟩ := h
  have nm : ∀ j, pk + j ∉ ks := fun j z => by have := hk _ z; omega
  refine ⟨h1, ?_⟩
  have e0 := hs.2.2 (pk + 0) (nm 0)
  rw [Nat.add_zero] at e0
  rw [hs.R, e0, hs.2.2 _ (nm 1), hs.2.2 _ (nm 2), hs.2.2 _ (nm 3), hs.2.2 _ (nm 4), hs.2.2 _ (nm 5)]
  exact h2
theorem zpl_sh {pk : Nat} (h : pk = 21 ∨ pk = 27) : zsh pk = (5, 2, 6) ∧ zsh (pk + 1) = (0, 20, 0) ∧ zsh (pk + 2) = (0, 20, 0) ∧ zsh (pk + 3) = (0, 20, 0) ∧ zsh (pk + 4) = (0, 20, 0) ∧ zsh (pk + 5) = (0, 20, 0) := by
  rcases h with rfl | rfl <;> exact ⟨rfl, rfl, rfl, rfl, rfl, rfl⟩
theorem wab_get {L : List wAc} {i : Nat} (h : i < L.length) : ∃ a, L[i]? = some a ∧ L.take (i + 1) = L.take i ++ [a] := ⟨L[i], List.getElem?_eq_getElem h, by rw [List.take_succ, List.getElem?_eq_getElem h]; rfl⟩
def zdy (M : zMm) (D : Nat → Bool) : Prop := ∀ e, e < 120 → M.2.1 12 e = if D e = true then 1 else 0
def zhg (M : zMm) (H : Nat → Nat) : Prop := ∀ e, e < 120 → M.2.1 11 e = nI (H e) ∧ H e ≤ 200
def zwh (M : zMm) (w h : Nat) : Prop := M.2.1 1 1 = nI w ∧ M.2.1 1 2 = nI h ∧ w ≤ 12 ∧ h ≤ 10
theorem whas {w h x y : Nat} (hw : w ≤ 12) (hh : h ≤ 10) (hx : x < 12) (hy : y < 10) : (0 ≤ nI x ∧ nI x < nI w ∧ 0 ≤ nI y ∧ nI y < nI h) ↔ x < w ∧ y < h := by
  rw [nI_ltI (by omega) (by omega), nI_ltI (by omega) (by omega)]
  exact ⟨fun z => ⟨z.2.1, z.2.2.2⟩, fun z => ⟨nI_pos' (by omega), z.1, nI_pos' (by omega), z.2⟩⟩
theorem wcell {x y : Nat} : nI y * 12 + nI x = nI (y * 12 + x) := by
  rw [show (12 : Int32) = nI 12 from rfl, pk_mul, nI_add]
def zc_X2_dykesIn (a : List Value) (M : zMm) (K : zKt) : Prop := match a with
  | [.ref pk, .int x, .ref k, .ref k'] => k = 1 ∧ k' = 10 ∧ zxw M ∧ ∃ n w h acts D, x = nI n ∧ n ≤ 30 ∧ zwh M w h ∧ zpl M pk acts ∧ zdy M D ∧ ∀ M', zsm [12] M M' → zdy M' (wdk w h n acts D) → K none M'
  | _ => False
set_option maxHeartbeats 2000000 in
theorem zm_X2_dykesIn (l : Launch) (D : va_G) (Y : Nat → ClassId) : zMt l D Y yX2_dykesIn cX2_dykesIn 6 none 1 22 0 0 zc_X2_dykesIn := by
  refine zwhile1 (h0 := 3) (by decide) (fun K J _ _ => zb_X2_dykesIn_0 K J) (fun K _ _ J => zb_X2_dykesIn_3 K J) (fun X hR J hJ => zbs_X2_dykesIn_0 hR J hJ) (fun X hR J hJ => zbs_X2_dykesIn_3 hR J hJ) (fun avs M K h => ?_)
  unfold zc_X2_dykesIn at h
  split at h
  · next pk x k k' =>
    obtain ⟨rfl, rfl, hx, n, w, h', acts, D, rfl, hn, hwh, hpl, hdy, h⟩ := h
    obtain ⟨s0, s1, s2, s3, s4, s5⟩ := zpl_sh hpl.1
    have hl20 := hpl.2.2.2.2.2.2.2.1
    refine ⟨by simp [zent], fun q M' ls st => ∃ i o, q = 20 - i ∧ i ≤ acts.length ∧ ls = [some (.ref pk), some (.int (nI n)), some (.ref 1), some (.ref 10), some (.int (nI i)), o] ∧ st = [] ∧ zsm [12] M M' ∧ zdy M' (wdk w h' n (acts.take i) D), ?_, ?_⟩
    · rintro q J hJ M' ls st ⟨i, o, rfl, hi, rfl, rfl, hs, hd⟩
      obtain ⟨x0, x1, x2, x3, x4, x5, x6, x7, x8⟩ := hx.to hs
      obtain ⟨hp0, r0, r1, r2, r3, r4, ht, -, hacts⟩ := hpl.to hs (by simp)
      have h1 : M'.2.1 1 = M.2.1 1 := hs.2.2 1 (by simp)
      obtain ⟨w1, w2, w3, w4⟩ := hwh
      simp only [zb_X2_dykesIn_3, s0, s1, s2, s3, s4, r0, r1, r2, r3, ht, x1, zsh_10, zsh_12, zT_push, zT_bin, zT_div, zT_bil, zT_shl, zT_un, zT_i2l, zT_l2i, zT_lcmp, zT_ild, zT_lld, zT_ald, zT_ist, zT_lst, zT_ast, zT_iinc, zT_dup, zT_dup2, zT_pop, zT_if1, zT_if2, zT_ifn, zT_getI, zT_getJ, zT_getR, zT_putI, zT_putZ, zT_putJ, zT_putR, zT_ald0, zT_lald, zT_aald, zT_iast, zT_zast, zT_bast, zT_last, zT_aast, zT_iret, zT_nret, zT_aret, zT_vret, zT_oi, zT_mm, zT_ialX, zT_S1, zT_S2, zT_S3, zT_V0, zT_V1, zT_V2, zT_V3, zT_V4, zT_V5, zT_V6, zT_I0, zT_I1, zT_I2, zlg, zlset, zlpr, zent, zok, va_rf, List.length_cons, List.length_nil, List.replicate, List.cons_append, List.nil_append, List.append_nil, Option.toList_some, Option.toList_none, Option.toList, Nat.reduceAdd, Nat.reduceSub, Nat.reduceLeDiff, Nat.zero_add, Nat.zero_le, true_and, and_true, Nat.le_refl, ge_iff_le, Nat.reduceEqDiff]
      refine ⟨fun h2 => ?_, fun h2 => ?_⟩
      · have := zn_ge' h2 (by omega) (by omega)
        have e : i = acts.length := by omega
        subst e
        rw [List.take_length] at hd
        exact h M' hs hd
      · have hlt := zn_ge h2 (by omega) (by omega)
        obtain ⟨a, ha, htk⟩ := wab_get hlt
        obtain ⟨⟨k1, k2, k3, k4, k5⟩, a1, a2, a3, a4, a5⟩ := hacts i a ha
        have hnext : wdk w h' n (acts.take (i + 1)) D = wdk1 w h' n (wdk w h' n (acts.take i) D) a := by
          unfold wdk
          rw [htk, List.foldl_append]
          rfl
        have skip : ∀ M2 o, zsm [12] M M2 → zdy M2 (wdk1 w h' n (wdk w h' n (acts.take i) D) a) → zb_X2_dykesIn_103 K J M2 [some (.ref pk), some (.int (nI n)), some (.ref 1), some (.ref 10), some (.int (nI i)), o] [] := by
          intro M2 o hs2 hd2
          simp only [zb_X2_dykesIn_103, zT_push, zT_bin, zT_div, zT_bil, zT_shl, zT_un, zT_i2l, zT_l2i, zT_lcmp, zT_ild, zT_lld, zT_ald, zT_ist, zT_lst, zT_ast, zT_iinc, zT_dup, zT_dup2, zT_pop, zT_if1, zT_if2, zT_ifn, zT_getI, zT_getJ, zT_getR, zT_putI, zT_putZ, zT_putJ, zT_putR, zT_ald0, zT_lald, zT_aald, zT_iast, zT_zast, zT_bast, zT_last, zT_aast, zT_iret, zT_nret, zT_aret, zT_vret, zT_oi, zT_mm, zT_ialX, zT_S1, zT_S2, zT_S3, zT_V0, zT_V1, zT_V2, zT_V3, zT_V4, zT_V5, zT_V6, zT_I0, zT_I1, zT_I2, zlg, zlset, zlpr, zent, zok, va_rf, List.length_cons, List.length_nil, List.replicate, List.cons_append, List.nil_append, List.append_nil, Option.toList_some, Option.toList_none, Option.toList, Nat.reduceAdd, Nat.reduceSub, Nat.reduceLeDiff, Nat.zero_add, Nat.zero_le, true_and, and_true, Nat.le_refl, ge_iff_le, Nat.reduceEqDiff]
          exact hJ (20 - (i + 1)) _ _ _ (by omega) ⟨i + 1, o, rfl, hlt, by rw [nI_1], rfl, hs2, by rw [hnext]; exact hd2⟩
        have hin : vp_in (nI i) 20 := vp_in_nI (by omega) (by decide)
        rw [nI_clamp (by omega), a1, a3, a4]
        unfold zc_X1_has
        dsimp only
        rw [h1, w1, w2]
        refine ⟨hin, fun h3 => ⟨hin, hin, rfl, ?_⟩, fun h3 => ?_⟩
        · have e3 := (nI_eq (by omega) (by omega)).mp h3
          simp only [zbI_0, whas w3 w4 k3 k4, s0, s1, s2, s3, s4, r0, r1, r2, r3, x1, zsh_10, zsh_12, zT_push, zT_bin, zT_div, zT_bil, zT_shl, zT_un, zT_i2l, zT_l2i, zT_lcmp, zT_ild, zT_lld, zT_ald, zT_ist, zT_lst, zT_ast, zT_iinc, zT_dup, zT_dup2, zT_pop, zT_if1, zT_if2, zT_ifn, zT_getI, zT_getJ, zT_getR, zT_putI, zT_putZ, zT_putJ, zT_putR, zT_ald0, zT_lald, zT_aald, zT_iast, zT_zast, zT_bast, zT_last, zT_aast, zT_iret, zT_nret, zT_aret, zT_vret, zT_oi, zT_mm, zT_ialX, zT_S1, zT_S2, zT_S3, zT_V0, zT_V1, zT_V2, zT_V3, zT_V4, zT_V5, zT_V6, zT_I0, zT_I1, zT_I2, zlg, zlset, zlpr, zent, zok, va_rf, List.length_cons, List.length_nil, List.replicate, List.cons_append, List.nil_append, List.append_nil, Option.toList_some, Option.toList_none, Option.toList, Nat.reduceAdd, Nat.reduceSub, Nat.reduceLeDiff, Nat.zero_add, Nat.zero_le, true_and, and_true, Nat.le_refl, ge_iff_le, Nat.reduceEqDiff]
          rw [nI_clamp (by omega), a3, a4]
          refine ⟨fun h4 => skip M' _ hs ?_, fun h4 => ⟨hin, hin, ?_⟩⟩
          · unfold wdk1 wao?
            rw [if_neg (by simp only [decide_eq_true_eq]; exact fun z => h4 z.2)]
            exact hd
          · have h5 := Classical.not_not.mp h4
            have hon : wao? w h' n a = true := by
              unfold wao?
              rw [decide_eq_true_eq]
              exact ⟨e3, h5⟩
            have hc : wao a * 12 + wax a < 120 := by omega
            unfold zc_X7_cellAt
            dsimp only
            simp only [s2, r1, x1, zsh_10, zsh_12, wcell, zT_push, zT_bin, zT_div, zT_bil, zT_shl, zT_un, zT_i2l, zT_l2i, zT_lcmp, zT_ild, zT_lld, zT_ald, zT_ist, zT_lst, zT_ast, zT_iinc, zT_dup, zT_dup2, zT_pop, zT_if1, zT_if2, zT_ifn, zT_getI, zT_getJ, zT_getR, zT_putI, zT_putZ, zT_putJ, zT_putR, zT_ald0, zT_lald, zT_aald, zT_iast, zT_zast, zT_bast, zT_last, zT_aast, zT_iret, zT_nret, zT_aret, zT_vret, zT_oi, zT_mm, zT_ialX, zT_S1, zT_S2, zT_S3, zT_V0, zT_V1, zT_V2, zT_V3, zT_V4, zT_V5, zT_V6, zT_I0, zT_I1, zT_I2, zlg, zlset, zlpr, zent, zok, va_rf, List.length_cons, List.length_nil, List.replicate, List.cons_append, List.nil_append, List.append_nil, Option.toList_some, Option.toList_none, Option.toList, Nat.reduceAdd, Nat.reduceSub, Nat.reduceLeDiff, Nat.zero_add, Nat.zero_le, true_and, and_true, Nat.le_refl, ge_iff_le, Nat.reduceEqDiff]
            rw [nI_clamp (by omega), a2]
            have hst : ∀ v b, v = (if b = true then (1 : Int32) else 0) → zdy (zwI M' 12 (wao a * 12 + wax a) v) (va_up (wdk w h' n (acts.take i) D) (wao a * 12 + wax a) b) := by
              intro v b hv e he
              simp only [zwI_L, zwI_I, zwI_J, zwI_R, zwJ_L, zwJ_I, zwJ_J, zwJ_R, zwR_L, zwR_I, zwR_J, zwR_R, zw2_s, zw2_n, ne_eq, not_false_eq_true, reduceCtorEq, not_true_eq_false, Nat.reduceEqDiff]
              by_cases q : e = wao a * 12 + wax a
              · rw [q, zup_s, zup_s, hv]
              · rw [zup_n q, zup_n q]; exact hd e he
            refine ⟨hin, fun h6 => ⟨vp_in_nI hc (by decide), by decide, ?_⟩, fun h6 => ⟨hin, fun h7 => ⟨vp_in_nI hc (by decide), by decide, ?_⟩, fun h7 => skip M' _ hs ?_⟩⟩
            · have e6 := (nI_eq (b := 0) (by omega) (by omega)).mp h6
              refine skip _ _ (hs.w (by simp)) ?_
              rw [nI_clamp (by omega)]
              unfold wdk1
              rw [if_pos hon, if_pos e6]
              exact hst _ _ rfl
            · have e6 : ¬ wak a = 0 := fun z => h6 (by rw [z]; rfl)
              have e7 := (nI_eq (b := 1) (by omega) (by omega)).mp h7
              refine skip _ _ (hs.w (by simp)) ?_
              rw [nI_clamp (by omega)]
              unfold wdk1
              rw [if_pos hon, if_neg e6, if_pos e7]
              exact hst _ _ rfl
            · have e6 : ¬ wak a = 0 := fun z => h6 (by rw [z]; rfl)
              have e7 : ¬ wak a = 1 := fun z => h7 (by rw [z]; rfl)
              unfold wdk1
              rw [if_pos hon, if_neg e6, if_neg e7]
              exact hd
        · refine skip M' _ hs ?_
          unfold wdk1 wao?
          rw [if_neg (by simp only [decide_eq_true_eq]; exact fun z => h3 (by rw [z.1]))]
          exact hd
    · intro J hJ
      simp only [zb_X2_dykesIn_0, zT_push, zT_bin, zT_div, zT_bil, zT_shl, zT_un, zT_i2l, zT_l2i, zT_lcmp, zT_ild, zT_lld, zT_ald, zT_ist, zT_lst, zT_ast, zT_iinc, zT_dup, zT_dup2, zT_pop, zT_if1, zT_if2, zT_ifn, zT_getI, zT_getJ, zT_getR, zT_putI, zT_putZ, zT_putJ, zT_putR, zT_ald0, zT_lald, zT_aald, zT_iast, zT_zast, zT_bast, zT_last, zT_aast, zT_iret, zT_nret, zT_aret, zT_vret, zT_oi, zT_mm, zT_ialX, zT_S1, zT_S2, zT_S3, zT_V0, zT_V1, zT_V2, zT_V3, zT_V4, zT_V5, zT_V6, zT_I0, zT_I1, zT_I2, zlg, zlset, zlpr, zent, zok, va_rf, List.length_cons, List.length_nil, List.replicate, List.cons_append, List.nil_append, List.append_nil, Option.toList_some, Option.toList_none, Option.toList, Nat.reduceAdd, Nat.reduceSub, Nat.reduceLeDiff, Nat.zero_add, Nat.zero_le, true_and, and_true, Nat.le_refl, ge_iff_le, Nat.reduceEqDiff]
      exact hJ 20 _ _ _ ⟨0, none, rfl, Nat.zero_le _, rfl, rfl, zsm.rf, hdy⟩
  · exact h.elim
end
section
/-! DeltaRuns$Plan workIn -/
theorem zd_X2_workIn_0 : decode cX2_workIn 0 = .ok (.aload_n 0, 1) := by decide +kernel
theorem zd_X2_workIn_1 : decode cX2_workIn 1 = .ok (.iload_n 1, 1) := by decide +kernel
theorem zd_X2_workIn_2 : decode cX2_workIn 2 = .ok (.aload_n 2, 1) := by decide +kernel
theorem zd_X2_workIn_3 : decode cX2_workIn 3 = .ok (.aload_n 3, 1) := by decide +kernel
theorem zd_X2_workIn_4 : decode cX2_workIn 4 = .ok (.invokevirtual 27, 3) := by decide +kernel
theorem zd_X2_workIn_7 : decode cX2_workIn 7 = .ok (.iconst 0, 1) := by decide +kernel
theorem zd_X2_workIn_8 : decode cX2_workIn 8 = .ok (.istore 4, 2) := by decide +kernel
theorem zd_X2_workIn_10 : decode cX2_workIn 10 = .ok (.iload 4, 2) := by decide +kernel
theorem zd_X2_workIn_12 : decode cX2_workIn 12 = .ok (.aload_n 0, 1) := by decide +kernel
theorem zd_X2_workIn_13 : decode cX2_workIn 13 = .ok (.getfield 31, 3) := by decide +kernel
theorem zd_X2_workIn_16 : decode cX2_workIn 16 = .ok (.if_icmp .ge 134, 3) := by decide +kernel
theorem zd_X2_workIn_19 : decode cX2_workIn 19 = .ok (.aload_n 0, 1) := by decide +kernel
theorem zd_X2_workIn_20 : decode cX2_workIn 20 = .ok (.getfield 9, 3) := by decide +kernel
theorem zd_X2_workIn_23 : decode cX2_workIn 23 = .ok (.iload 4, 2) := by decide +kernel
theorem zd_X2_workIn_25 : decode cX2_workIn 25 = .ok (.iaload, 1) := by decide +kernel
theorem zd_X2_workIn_26 : decode cX2_workIn 26 = .ok (.iload_n 1, 1) := by decide +kernel
theorem zd_X2_workIn_27 : decode cX2_workIn 27 = .ok (.if_icmp .ne 117, 3) := by decide +kernel
theorem zd_X2_workIn_30 : decode cX2_workIn 30 = .ok (.aload_n 2, 1) := by decide +kernel
theorem zd_X2_workIn_31 : decode cX2_workIn 31 = .ok (.aload_n 0, 1) := by decide +kernel
theorem zd_X2_workIn_32 : decode cX2_workIn 32 = .ok (.getfield 18, 3) := by decide +kernel
theorem zd_X2_workIn_35 : decode cX2_workIn 35 = .ok (.iload 4, 2) := by decide +kernel
theorem zd_X2_workIn_37 : decode cX2_workIn 37 = .ok (.iaload, 1) := by decide +kernel
theorem zd_X2_workIn_38 : decode cX2_workIn 38 = .ok (.aload_n 0, 1) := by decide +kernel
theorem zd_X2_workIn_39 : decode cX2_workIn 39 = .ok (.getfield 21, 3) := by decide +kernel
theorem zd_X2_workIn_42 : decode cX2_workIn 42 = .ok (.iload 4, 2) := by decide +kernel
theorem zd_X2_workIn_44 : decode cX2_workIn 44 = .ok (.iaload, 1) := by decide +kernel
theorem zd_X2_workIn_45 : decode cX2_workIn 45 = .ok (.invokevirtual 35, 3) := by decide +kernel
theorem zd_X2_workIn_48 : decode cX2_workIn 48 = .ok (.ifCond .eq 96, 3) := by decide +kernel
theorem zd_X2_workIn_51 : decode cX2_workIn 51 = .ok (.aload_n 0, 1) := by decide +kernel
theorem zd_X2_workIn_52 : decode cX2_workIn 52 = .ok (.getfield 18, 3) := by decide +kernel
theorem zd_X2_workIn_55 : decode cX2_workIn 55 = .ok (.iload 4, 2) := by decide +kernel
theorem zd_X2_workIn_57 : decode cX2_workIn 57 = .ok (.iaload, 1) := by decide +kernel
theorem zd_X2_workIn_58 : decode cX2_workIn 58 = .ok (.aload_n 0, 1) := by decide +kernel
theorem zd_X2_workIn_59 : decode cX2_workIn 59 = .ok (.getfield 21, 3) := by decide +kernel
theorem zd_X2_workIn_62 : decode cX2_workIn 62 = .ok (.iload 4, 2) := by decide +kernel
theorem zd_X2_workIn_64 : decode cX2_workIn 64 = .ok (.iaload, 1) := by decide +kernel
theorem zd_X2_workIn_65 : decode cX2_workIn 65 = .ok (.invokestatic 41, 3) := by decide +kernel
theorem zd_X2_workIn_68 : decode cX2_workIn 68 = .ok (.istore 5, 2) := by decide +kernel
theorem zd_X2_workIn_70 : decode cX2_workIn 70 = .ok (.aload_n 3, 1) := by decide +kernel
theorem zd_X2_workIn_71 : decode cX2_workIn 71 = .ok (.getfield 45, 3) := by decide +kernel
theorem zd_X2_workIn_74 : decode cX2_workIn 74 = .ok (.iload 5, 2) := by decide +kernel
theorem zd_X2_workIn_76 : decode cX2_workIn 76 = .ok (.iaload, 1) := by decide +kernel
theorem zd_X2_workIn_77 : decode cX2_workIn 77 = .ok (.istore 6, 2) := by decide +kernel
theorem zd_X2_workIn_79 : decode cX2_workIn 79 = .ok (.aload_n 0, 1) := by decide +kernel
theorem zd_X2_workIn_80 : decode cX2_workIn 80 = .ok (.getfield 15, 3) := by decide +kernel
theorem zd_X2_workIn_83 : decode cX2_workIn 83 = .ok (.iload 4, 2) := by decide +kernel
theorem zd_X2_workIn_85 : decode cX2_workIn 85 = .ok (.iaload, 1) := by decide +kernel
theorem zd_X2_workIn_86 : decode cX2_workIn 86 = .ok (.iconst 2, 1) := by decide +kernel
theorem zd_X2_workIn_87 : decode cX2_workIn 87 = .ok (.if_icmp .ne 27, 3) := by decide +kernel
theorem zd_X2_workIn_90 : decode cX2_workIn 90 = .ok (.aload_n 3, 1) := by decide +kernel
theorem zd_X2_workIn_91 : decode cX2_workIn 91 = .ok (.getfield 45, 3) := by decide +kernel
theorem zd_X2_workIn_94 : decode cX2_workIn 94 = .ok (.iload 5, 2) := by decide +kernel
theorem zd_X2_workIn_96 : decode cX2_workIn 96 = .ok (.iconst 0, 1) := by decide +kernel
theorem zd_X2_workIn_97 : decode cX2_workIn 97 = .ok (.iload 6, 2) := by decide +kernel
theorem zd_X2_workIn_99 : decode cX2_workIn 99 = .ok (.aload_n 0, 1) := by decide +kernel
theorem zd_X2_workIn_100 : decode cX2_workIn 100 = .ok (.getfield 24, 3) := by decide +kernel
theorem zd_X2_workIn_103 : decode cX2_workIn 103 = .ok (.iload 4, 2) := by decide +kernel
theorem zd_X2_workIn_105 : decode cX2_workIn 105 = .ok (.iaload, 1) := by decide +kernel
theorem zd_X2_workIn_106 : decode cX2_workIn 106 = .ok (.isub, 1) := by decide +kernel
theorem zd_X2_workIn_107 : decode cX2_workIn 107 = .ok (.invokestatic 50, 3) := by decide +kernel
theorem zd_X2_workIn_110 : decode cX2_workIn 110 = .ok (.iastore, 1) := by decide +kernel
theorem zd_X2_workIn_111 : decode cX2_workIn 111 = .ok (.goto 33, 3) := by decide +kernel
theorem zd_X2_workIn_114 : decode cX2_workIn 114 = .ok (.aload_n 0, 1) := by decide +kernel
theorem zd_X2_workIn_115 : decode cX2_workIn 115 = .ok (.getfield 15, 3) := by decide +kernel
theorem zd_X2_workIn_118 : decode cX2_workIn 118 = .ok (.iload 4, 2) := by decide +kernel
theorem zd_X2_workIn_120 : decode cX2_workIn 120 = .ok (.iaload, 1) := by decide +kernel
theorem zd_X2_workIn_121 : decode cX2_workIn 121 = .ok (.iconst 3, 1) := by decide +kernel
theorem zd_X2_workIn_122 : decode cX2_workIn 122 = .ok (.if_icmp .ne 22, 3) := by decide +kernel
theorem zd_X2_workIn_125 : decode cX2_workIn 125 = .ok (.aload_n 3, 1) := by decide +kernel
theorem zd_X2_workIn_126 : decode cX2_workIn 126 = .ok (.getfield 45, 3) := by decide +kernel
theorem zd_X2_workIn_129 : decode cX2_workIn 129 = .ok (.iload 5, 2) := by decide +kernel
theorem zd_X2_workIn_131 : decode cX2_workIn 131 = .ok (.iload 6, 2) := by decide +kernel
theorem zd_X2_workIn_133 : decode cX2_workIn 133 = .ok (.aload_n 0, 1) := by decide +kernel
theorem zd_X2_workIn_134 : decode cX2_workIn 134 = .ok (.getfield 24, 3) := by decide +kernel
theorem zd_X2_workIn_137 : decode cX2_workIn 137 = .ok (.iload 4, 2) := by decide +kernel
theorem zd_X2_workIn_139 : decode cX2_workIn 139 = .ok (.iaload, 1) := by decide +kernel
theorem zd_X2_workIn_140 : decode cX2_workIn 140 = .ok (.invokestatic 55, 3) := by decide +kernel
theorem zd_X2_workIn_143 : decode cX2_workIn 143 = .ok (.iastore, 1) := by decide +kernel
theorem zd_X2_workIn_144 : decode cX2_workIn 144 = .ok (.iinc 4 1, 3) := by decide +kernel
theorem zd_X2_workIn_147 : decode cX2_workIn 147 = .ok (.goto (-137), 3) := by decide +kernel
theorem zd_X2_workIn_150 : decode cX2_workIn 150 = .ok (.return_, 1) := by decide +kernel
def zb_X2_workIn_0 (K : zKt) (J : Nat → zPP) : zPP := zT_ald 0 (zT_ild 1 (zT_ald 2 (zT_ald 3 (zT_V3 zok 2 6 zc_X2_dykesIn (zT_push (.int 0) (zT_ist 4 (J 10)))))))
theorem zbs_X2_workIn_0 {X : zCt} (hR : zRX X = { frames := 2, cells := 0, slots := 0, locals := 47 }) (J : Nat → zPP) (hJ : ∀ h ∈ ([10] : List Nat), zSd X RX2 "workIn" cX2_workIn 7 none h (J h)) : zSd X RX2 "workIn" cX2_workIn 7 none 0 (zb_X2_workIn_0 (zKX X) J) := zs_aload_n zd_X2_workIn_0 rfl (zs_iload_n zd_X2_workIn_1 rfl (zs_aload_n zd_X2_workIn_2 rfl (zs_aload_n zd_X2_workIn_3 rfl (zs_V (ci := 2) rfl rfl (zm_X2_dykesIn _ _ _) gw_2_194 gw_2_201 gw_2_192 gw_2_193 gw_1_6 zdn_X2_dykesIn (zrm hR (by decide) (by decide)) zd_X2_workIn_4 (zCl_V3 zok_l) (zs_iconst zd_X2_workIn_7 (by decide) (zs_istore zd_X2_workIn_8 (by decide) (hJ 10 (by decide))))))))
def zb_X2_workIn_144 (K : zKt) (J : Nat → zPP) : zPP := zT_iinc 4 1 (J 10)
theorem zbs_X2_workIn_144 {X : zCt} (hR : zRX X = { frames := 2, cells := 0, slots := 0, locals := 47 }) (J : Nat → zPP) (hJ : ∀ h ∈ ([10] : List Nat), zSd X RX2 "workIn" cX2_workIn 7 none h (J h)) : zSd X RX2 "workIn" cX2_workIn 7 none 144 (zb_X2_workIn_144 (zKX X) J) := zs_iinc zd_X2_workIn_144 (by decide) (by decide) (zs_goto (tgt := 10) zd_X2_workIn_147 (by decide) (hJ 10 (by decide)))
def zb_X2_workIn_10 (K : zKt) (J : Nat → zPP) : zPP := zT_ild 4 (zT_ald 0 (zT_getI 2 5 6 (zT_if2 (fun x y => y ≤ x) (zT_vret K) (zT_ald 0 (zT_getR 2 0 6 (zT_ild 4 (zT_ald0 0 (zT_ild 1 (zT_if2 (fun x y => x = y) (zT_ald 2 (zT_ald 0 (zT_getR 2 2 6 (zT_ild 4 (zT_ald0 0 (zT_ald 0 (zT_getR 2 3 6 (zT_ild 4 (zT_ald0 0 (zT_V2 zok 1 6 zc_X1_has (zT_if1 (fun x => x = 0) (zb_X2_workIn_144 K J) (zT_ald 0 (zT_getR 2 2 6 (zT_ild 4 (zT_ald0 0 (zT_ald 0 (zT_getR 2 3 6 (zT_ild 4 (zT_ald0 0 (zT_S2 zok zc_X7_cellAt (zT_ist 5 (zT_ald 3 (zT_getR 5 0 11 (zT_ild 5 (zT_ald0 0 (zT_ist 6 (zT_ald 0 (zT_getR 2 1 6 (zT_ild 4 (zT_ald0 0 (zT_push (.int 2) (zT_if2 (fun x y => x = y) (zT_ald 3 (zT_getR 5 0 11 (zT_ild 5 (zT_push (.int 0) (zT_ild 6 (zT_ald 0 (zT_getR 2 4 6 (zT_ild 4 (zT_ald0 0 (zT_bin (fun x y => x - y) (zT_mm (fun x y => if x < y then y else x) (zT_iast (zb_X2_workIn_144 K J))))))))))))) (zT_ald 0 (zT_getR 2 1 6 (zT_ild 4 (zT_ald0 0 (zT_push (.int 3) (zT_if2 (fun x y => x = y) (zT_ald 3 (zT_getR 5 0 11 (zT_ild 5 (zT_ild 6 (zT_ald 0 (zT_getR 2 4 6 (zT_ild 4 (zT_ald0 0 (zT_mm (fun x y => if y < x then y else x) (zT_iast (zb_X2_workIn_144 K J))))))))))) (zb_X2_workIn_144 K J))))))))))))))))))))))))))))))))))))))) (zb_X2_workIn_144 K J))))))))))
theorem zbs_X2_workIn_10 {X : zCt} (hR : zRX X = { frames := 2, cells := 0, slots := 0, locals := 47 }) (J : Nat → zPP) (hJ : ∀ h ∈ ([10] : List Nat), zSd X RX2 "workIn" cX2_workIn 7 none h (J h)) : zSd X RX2 "workIn" cX2_workIn 7 none 10 (zb_X2_workIn_10 (zKX X) J) := zs_iload zd_X2_workIn_10 (zs_aload_n zd_X2_workIn_12 rfl (zs_getI (ci := 2) (j := 5) (T := TX2) rfl inX2 (by decide) gw_1_170 rfl zd_X2_workIn_13 (zs_icmp_ge (tgt := 150) zd_X2_workIn_16 (by decide) (zs_vret rfl zd_X2_workIn_150) (zs_aload_n zd_X2_workIn_19 rfl (zs_getR (ci := 2) (j := 0) (T := TX2) rfl inX2 (by decide) gw_1_159 rfl zd_X2_workIn_20 (zs_iload zd_X2_workIn_23 (zs_iald zd_X2_workIn_25 (zs_iload_n zd_X2_workIn_26 rfl (zs_icmp_ne (tgt := 144) zd_X2_workIn_27 (by decide) (zbs_X2_workIn_144 hR J hJ) (zs_aload_n zd_X2_workIn_30 rfl (zs_aload_n zd_X2_workIn_31 rfl (zs_getR (ci := 2) (j := 2) (T := TX2) rfl inX2 (by decide) gw_1_163 rfl zd_X2_workIn_32 (zs_iload zd_X2_workIn_35 (zs_iald zd_X2_workIn_37 (zs_aload_n zd_X2_workIn_38 rfl (zs_getR (ci := 2) (j := 3) (T := TX2) rfl inX2 (by decide) gw_1_165 rfl zd_X2_workIn_39 (zs_iload zd_X2_workIn_42 (zs_iald zd_X2_workIn_44 (zs_V (ci := 1) rfl rfl (zm_X1_has _ _ _) gw_2_0 gw_2_195 gw_1_238 gw_1_239 gw_1_2 zdn_X1_has (zrm hR (by decide) (by decide)) zd_X2_workIn_45 (zCl_V2 zok_l) (zs_if_eq (tgt := 144) zd_X2_workIn_48 (by decide) (zbs_X2_workIn_144 hR J hJ) (zs_aload_n zd_X2_workIn_51 rfl (zs_getR (ci := 2) (j := 2) (T := TX2) rfl inX2 (by decide) gw_1_163 rfl zd_X2_workIn_52 (zs_iload zd_X2_workIn_55 (zs_iald zd_X2_workIn_57 (zs_aload_n zd_X2_workIn_58 rfl (zs_getR (ci := 2) (j := 3) (T := TX2) rfl inX2 (by decide) gw_1_165 rfl zd_X2_workIn_59 (zs_iload zd_X2_workIn_62 (zs_iald zd_X2_workIn_64 (zs_SN (zm_X7_cellAt _ _ _) gw_2_7 (List.mem_of_getElem? (i := 7) rfl) gw_2_6 gw_1_1 zdn_X7_cellAt (zrm hR (by decide) (by decide)) zd_X2_workIn_65 (zCl_S2 zok_l) (zs_istore zd_X2_workIn_68 (by decide) (zs_aload_n zd_X2_workIn_70 rfl (zs_getR (ci := 5) (j := 0) (T := TX5) rfl inX5 (by decide) gw_1_112 rfl zd_X2_workIn_71 (zs_iload zd_X2_workIn_74 (zs_iald zd_X2_workIn_76 (zs_istore zd_X2_workIn_77 (by decide) (zs_aload_n zd_X2_workIn_79 rfl (zs_getR (ci := 2) (j := 1) (T := TX2) rfl inX2 (by decide) gw_1_161 rfl zd_X2_workIn_80 (zs_iload zd_X2_workIn_83 (zs_iald zd_X2_workIn_85 (zs_iconst zd_X2_workIn_86 (by decide) (zs_icmp_ne (tgt := 114) zd_X2_workIn_87 (by decide) (zs_aload_n zd_X2_workIn_114 rfl (zs_getR (ci := 2) (j := 1) (T := TX2) rfl inX2 (by decide) gw_1_161 rfl zd_X2_workIn_115 (zs_iload zd_X2_workIn_118 (zs_iald zd_X2_workIn_120 (zs_iconst zd_X2_workIn_121 (by decide) (zs_icmp_ne (tgt := 144) zd_X2_workIn_122 (by decide) (zbs_X2_workIn_144 hR J hJ) (zs_aload_n zd_X2_workIn_125 rfl (zs_getR (ci := 5) (j := 0) (T := TX5) rfl inX5 (by decide) gw_1_112 rfl zd_X2_workIn_126 (zs_iload zd_X2_workIn_129 (zs_iload zd_X2_workIn_131 (zs_aload_n zd_X2_workIn_133 rfl (zs_getR (ci := 2) (j := 4) (T := TX2) rfl inX2 (by decide) gw_1_167 rfl zd_X2_workIn_134 (zs_iload zd_X2_workIn_137 (zs_iald zd_X2_workIn_139 (zs_min gw_2_205 gw_2_135 gw_1_13 gw_2_136 (zrm1 hR (by decide) (by decide)) zd_X2_workIn_140 (zs_iast zd_X2_workIn_143 (zbs_X2_workIn_144 hR J hJ))))))))))))))))) (zs_aload_n zd_X2_workIn_90 rfl (zs_getR (ci := 5) (j := 0) (T := TX5) rfl inX5 (by decide) gw_1_112 rfl zd_X2_workIn_91 (zs_iload zd_X2_workIn_94 (zs_iconst zd_X2_workIn_96 (by decide) (zs_iload zd_X2_workIn_97 (zs_aload_n zd_X2_workIn_99 rfl (zs_getR (ci := 2) (j := 4) (T := TX2) rfl inX2 (by decide) gw_1_167 rfl zd_X2_workIn_100 (zs_iload zd_X2_workIn_103 (zs_iald zd_X2_workIn_105 (zs_isub zd_X2_workIn_106 (zs_max gw_2_202 gw_2_203 gw_1_13 gw_2_204 (zrm1 hR (by decide) (by decide)) zd_X2_workIn_107 (zs_iast zd_X2_workIn_110 (zs_goto (tgt := 144) zd_X2_workIn_111 (by decide) (zbs_X2_workIn_144 hR J hJ)))))))))))))))))))))))))))))))))))))))))))))))))))))))
def zB_X2_workIn (K : zKt) (J : Nat → zPP) (h : Nat) : zPP := if h = 10 then zb_X2_workIn_10 K J else (fun _ _ _ => False)
theorem zBs_X2_workIn {X : zCt} (hR : zRX X = { frames := 2, cells := 0, slots := 0, locals := 47 }) : ∀ J : Nat → zPP, (∀ h ∈ ([10] : List Nat), zSd X RX2 "workIn" cX2_workIn 7 none h (J h)) → ∀ h ∈ ([10] : List Nat), zSd X RX2 "workIn" cX2_workIn 7 none h (zB_X2_workIn (zKX X) J h) := by
  intro J hJ h hh
  unfold zB_X2_workIn
  simp only [List.mem_cons, List.not_mem_nil, or_false] at hh
  subst hh
  exact zbs_X2_workIn_10 hR J hJ
theorem zdn_X2_workIn : yX2_workIn.cls ≠ "java/lang/invoke/MethodHandle" ∧ yX2_workIn.cls ≠ "java/lang/invoke/VarHandle" ∧ (parseMethodDescriptor yX2_workIn.desc).map (fun d => d.parameters.length) = some 3 := by decide +kernel
theorem whk_le {w h n : Nat} : ∀ {acts : List wAc} {H : Nat → Nat}, (∀ e, H e ≤ 200) → ∀ e, whk w h n acts H e ≤ 200
  | [], H, hH, e => hH e
  | a :: l, H, hH, e => by
    refine whk_le (acts := l) (fun e => ?_) e
    unfold whk1
    split
    · split
      · rw [zup_at]; have := hH (wao a * 12 + wax a); have := hH e; split <;> omega
      · split
        · rw [zup_at]; have := hH (wao a * 12 + wax a); have := hH e; split
          · split <;> omega
          · omega
        · exact hH e
    · exact hH e
def zc_X2_workIn (a : List Value) (M : zMm) (K : zKt) : Prop := match a with
  | [.ref pk, .int x, .ref k, .ref k'] => k = 1 ∧ k' = 10 ∧ zxw M ∧ ∃ n w h acts D H, x = nI n ∧ n ≤ 30 ∧ zwh M w h ∧ zpl M pk acts ∧ zdy M D ∧ zhg M H ∧ ∀ M', zsm [11, 12] M M' → zdy M' (wdk w h n acts D) → zhg M' (whk w h n acts H) → K none M'
  | _ => False
set_option maxHeartbeats 2000000 in
theorem zm_X2_workIn (l : Launch) (D : va_G) (Y : Nat → ClassId) : zMt l D Y yX2_workIn cX2_workIn 7 none 2 47 0 0 zc_X2_workIn := by
  refine zwhile1 (h0 := 10) (by decide) (fun K J _ _ => zb_X2_workIn_0 K J) (fun K _ _ J => zb_X2_workIn_10 K J) (fun X hR J hJ => zbs_X2_workIn_0 hR J hJ) (fun X hR J hJ => zbs_X2_workIn_10 hR J hJ) (fun avs M K h => ?_)
  unfold zc_X2_workIn at h
  split at h
  · next pk x k k' =>
    obtain ⟨rfl, rfl, hx, n, w, h', acts, D, H, rfl, hn, hwh, hpl, hdy, hhg, h⟩ := h
    obtain ⟨s0, s1, s2, s3, s4, s5⟩ := zpl_sh hpl.1
    have hl20 := hpl.2.2.2.2.2.2.2.1
    refine ⟨by simp [zent], fun q M' ls st => ∃ i o1 o2, q = 20 - i ∧ i ≤ acts.length ∧ ls = [some (.ref pk), some (.int (nI n)), some (.ref 1), some (.ref 10), some (.int (nI i)), o1, o2] ∧ st = [] ∧ zsm [11, 12] M M' ∧ zdy M' (wdk w h' n acts D) ∧ zhg M' (whk w h' n (acts.take i) H), ?_, ?_⟩
    · rintro q J hJ M' ls st ⟨i, o1, o2, rfl, hi, rfl, rfl, hs, hd, hhi⟩
      obtain ⟨x0, x1, x2, x3, x4, x5, x6, x7, x8⟩ := hx.to hs
      obtain ⟨hp0, r0, r1, r2, r3, r4, ht, -, hacts⟩ := hpl.to hs (by simp)
      have h1 : M'.2.1 1 = M.2.1 1 := hs.2.2 1 (by simp)
      obtain ⟨w1, w2, w3, w4⟩ := hwh
      simp only [zb_X2_workIn_10, s0, s1, s2, s3, s4, s5, r0, r1, r2, r3, r4, ht, x0, zsh_10, zsh_11, zT_push, zT_bin, zT_div, zT_bil, zT_shl, zT_un, zT_i2l, zT_l2i, zT_lcmp, zT_ild, zT_lld, zT_ald, zT_ist, zT_lst, zT_ast, zT_iinc, zT_dup, zT_dup2, zT_pop, zT_if1, zT_if2, zT_ifn, zT_getI, zT_getJ, zT_getR, zT_putI, zT_putZ, zT_putJ, zT_putR, zT_ald0, zT_lald, zT_aald, zT_iast, zT_zast, zT_bast, zT_last, zT_aast, zT_iret, zT_nret, zT_aret, zT_vret, zT_oi, zT_mm, zT_ialX, zT_S1, zT_S2, zT_S3, zT_V0, zT_V1, zT_V2, zT_V3, zT_V4, zT_V5, zT_V6, zT_I0, zT_I1, zT_I2, zlg, zlset, zlpr, zent, zok, va_rf, List.length_cons, List.length_nil, List.replicate, List.cons_append, List.nil_append, List.append_nil, Option.toList_some, Option.toList_none, Option.toList, Nat.reduceAdd, Nat.reduceSub, Nat.reduceLeDiff, Nat.zero_add, Nat.zero_le, true_and, and_true, Nat.le_refl, ge_iff_le, Nat.reduceEqDiff]
      refine ⟨fun h2 => ?_, fun h2 => ?_⟩
      · have := zn_ge' h2 (by omega) (by omega)
        have e : i = acts.length := by omega
        subst e
        rw [List.take_length] at hhi
        exact h M' hs hd hhi
      · have hlt := zn_ge h2 (by omega) (by omega)
        obtain ⟨a, ha, htk⟩ := wab_get hlt
        obtain ⟨⟨k1, k2, k3, k4, k5⟩, a1, a2, a3, a4, a5⟩ := hacts i a ha
        have hnext : whk w h' n (acts.take (i + 1)) H = whk1 w h' n (whk w h' n (acts.take i) H) a := by
          unfold whk
          rw [htk, List.foldl_append]
          rfl
        have skip : ∀ M2 o1 o2, zsm [11, 12] M M2 → zdy M2 (wdk w h' n acts D) → zhg M2 (whk1 w h' n (whk w h' n (acts.take i) H) a) → zb_X2_workIn_144 K J M2 [some (.ref pk), some (.int (nI n)), some (.ref 1), some (.ref 10), some (.int (nI i)), o1, o2] [] := by
          intro M2 o1 o2 hs2 hd2 hh2
          simp only [zb_X2_workIn_144, zT_push, zT_bin, zT_div, zT_bil, zT_shl, zT_un, zT_i2l, zT_l2i, zT_lcmp, zT_ild, zT_lld, zT_ald, zT_ist, zT_lst, zT_ast, zT_iinc, zT_dup, zT_dup2, zT_pop, zT_if1, zT_if2, zT_ifn, zT_getI, zT_getJ, zT_getR, zT_putI, zT_putZ, zT_putJ, zT_putR, zT_ald0, zT_lald, zT_aald, zT_iast, zT_zast, zT_bast, zT_last, zT_aast, zT_iret, zT_nret, zT_aret, zT_vret, zT_oi, zT_mm, zT_ialX, zT_S1, zT_S2, zT_S3, zT_V0, zT_V1, zT_V2, zT_V3, zT_V4, zT_V5, zT_V6, zT_I0, zT_I1, zT_I2, zlg, zlset, zlpr, zent, zok, va_rf, List.length_cons, List.length_nil, List.replicate, List.cons_append, List.nil_append, List.append_nil, Option.toList_some, Option.toList_none, Option.toList, Nat.reduceAdd, Nat.reduceSub, Nat.reduceLeDiff, Nat.zero_add, Nat.zero_le, true_and, and_true, Nat.le_refl, ge_iff_le, Nat.reduceEqDiff]
          exact hJ (20 - (i + 1)) _ _ _ (by omega) ⟨i + 1, o1, o2, rfl, hlt, by rw [nI_1], rfl, hs2, hd2, by rw [hnext]; exact hh2⟩
        have hin : vp_in (nI i) 20 := vp_in_nI (by omega) (by decide)
        rw [nI_clamp (by omega), a1, a3, a4]
        unfold zc_X1_has
        dsimp only
        rw [h1, w1, w2]
        refine ⟨hin, fun h3 => ⟨hin, hin, rfl, ?_⟩, fun h3 => ?_⟩
        · have e3 := (nI_eq (by omega) (by omega)).mp h3
          simp only [zbI_0, whas w3 w4 k3 k4, s0, s1, s2, s3, s4, s5, r0, r1, r2, r3, r4, x0, zsh_10, zsh_11, zT_push, zT_bin, zT_div, zT_bil, zT_shl, zT_un, zT_i2l, zT_l2i, zT_lcmp, zT_ild, zT_lld, zT_ald, zT_ist, zT_lst, zT_ast, zT_iinc, zT_dup, zT_dup2, zT_pop, zT_if1, zT_if2, zT_ifn, zT_getI, zT_getJ, zT_getR, zT_putI, zT_putZ, zT_putJ, zT_putR, zT_ald0, zT_lald, zT_aald, zT_iast, zT_zast, zT_bast, zT_last, zT_aast, zT_iret, zT_nret, zT_aret, zT_vret, zT_oi, zT_mm, zT_ialX, zT_S1, zT_S2, zT_S3, zT_V0, zT_V1, zT_V2, zT_V3, zT_V4, zT_V5, zT_V6, zT_I0, zT_I1, zT_I2, zlg, zlset, zlpr, zent, zok, va_rf, List.length_cons, List.length_nil, List.replicate, List.cons_append, List.nil_append, List.append_nil, Option.toList_some, Option.toList_none, Option.toList, Nat.reduceAdd, Nat.reduceSub, Nat.reduceLeDiff, Nat.zero_add, Nat.zero_le, true_and, and_true, Nat.le_refl, ge_iff_le, Nat.reduceEqDiff]
          rw [nI_clamp (by omega), a3, a4]
          refine ⟨fun h4 => skip M' _ _ hs hd ?_, fun h4 => ⟨hin, hin, ?_⟩⟩
          · unfold whk1 wao?
            rw [if_neg (by simp only [decide_eq_true_eq]; exact fun z => h4 z.2)]
            exact hhi
          · have h5 := Classical.not_not.mp h4
            have hon : wao? w h' n a = true := by
              unfold wao?
              rw [decide_eq_true_eq]
              exact ⟨e3, h5⟩
            have hc : wao a * 12 + wax a < 120 := by omega
            unfold zc_X7_cellAt
            dsimp only
            simp only [s0, s2, s5, r1, r4, x0, zsh_10, zsh_11, wcell, zT_push, zT_bin, zT_div, zT_bil, zT_shl, zT_un, zT_i2l, zT_l2i, zT_lcmp, zT_ild, zT_lld, zT_ald, zT_ist, zT_lst, zT_ast, zT_iinc, zT_dup, zT_dup2, zT_pop, zT_if1, zT_if2, zT_ifn, zT_getI, zT_getJ, zT_getR, zT_putI, zT_putZ, zT_putJ, zT_putR, zT_ald0, zT_lald, zT_aald, zT_iast, zT_zast, zT_bast, zT_last, zT_aast, zT_iret, zT_nret, zT_aret, zT_vret, zT_oi, zT_mm, zT_ialX, zT_S1, zT_S2, zT_S3, zT_V0, zT_V1, zT_V2, zT_V3, zT_V4, zT_V5, zT_V6, zT_I0, zT_I1, zT_I2, zlg, zlset, zlpr, zent, zok, va_rf, List.length_cons, List.length_nil, List.replicate, List.cons_append, List.nil_append, List.append_nil, Option.toList_some, Option.toList_none, Option.toList, Nat.reduceAdd, Nat.reduceSub, Nat.reduceLeDiff, Nat.zero_add, Nat.zero_le, true_and, and_true, Nat.le_refl, ge_iff_le, Nat.reduceEqDiff]
            obtain ⟨hcur, hcur2⟩ := hhi _ hc
            rw [nI_clamp (n := wao a * 12 + wax a) (by omega), nI_clamp (n := i) (by omega), a2, hcur]
            have hst : ∀ v g, v = nI g → g ≤ 200 → zhg (zwI M' 11 (wao a * 12 + wax a) v) (va_up (whk w h' n (acts.take i) H) (wao a * 12 + wax a) g) := by
              intro v g hv hg e he
              simp only [zwI_L, zwI_I, zwI_J, zwI_R, zwJ_L, zwJ_I, zwJ_J, zwJ_R, zwR_L, zwR_I, zwR_J, zwR_R, zw2_s, zw2_n, ne_eq, not_false_eq_true, reduceCtorEq, not_true_eq_false, Nat.reduceEqDiff]
              by_cases q : e = wao a * 12 + wax a
              · rw [q, zup_s, zup_s, hv]; exact ⟨rfl, hg⟩
              · rw [zup_n q, zup_n q]; exact hhi e he
            have hdw : ∀ v, zdy (zwI M' 11 (wao a * 12 + wax a) v) (wdk w h' n acts D) := by
              intro v e he
              simp only [zwI_L, zwI_I, zwI_J, zwI_R, zwJ_L, zwJ_I, zwJ_J, zwJ_R, zwR_L, zwR_I, zwR_J, zwR_R, zw2_s, zw2_n, ne_eq, not_false_eq_true, reduceCtorEq, not_true_eq_false, Nat.reduceEqDiff]
              exact hd e he
            have hinc : vp_in (nI (wao a * 12 + wax a)) 120 := vp_in_nI hc (by decide)
            refine ⟨hinc, hin, fun h6 => ⟨hin, hinc, ?_⟩, fun h6 => ⟨hin, fun h7 => ⟨hin, hinc, ?_⟩, fun h7 => skip M' _ _ hs hd ?_⟩⟩
            · have e6 := (nI_eq (b := 2) (by omega) (by omega)).mp h6
              rw [a5 (by omega)]
              refine skip _ _ _ (hs.w (by simp)) (hdw _) ?_
              unfold whk1
              rw [if_pos hon, if_pos e6]
              refine hst _ _ ?_ (by omega)
              generalize whk w h' n (acts.take i) H (wao a * 12 + wax a) = g at hcur hcur2
              by_cases hq : wab a ≤ g
              · rw [pk_sub hq, show (0 : Int32) = nI 0 from rfl]
                by_cases h0 : 0 < g - wab a
                · rw [if_pos ((nI_ltI (a := 0) (by omega) (by omega)).mpr h0)]
                · rw [if_neg (fun z => h0 ((nI_ltI (a := 0) (by omega) (by omega)).mp z)), show g - wab a = 0 from by omega]
              · rw [if_neg (fun z => ?_), show g - wab a = 0 from by omega]
                · rfl
                · have := pk_sneg (a := g) (b := wab a) (by omega) (by omega)
                  exact Int32.lt_irrefl (Int32.lt_trans this z)
            · have e6 : ¬ wak a = 2 := fun z => h6 (by rw [z]; rfl)
              have e7 := (nI_eq (b := 3) (by omega) (by omega)).mp h7
              rw [a5 (by omega)]
              refine skip _ _ _ (hs.w (by simp)) (hdw _) ?_
              unfold whk1
              rw [if_pos hon, if_neg e6, if_pos e7]
              refine hst _ _ (zmin_n (by omega) (by omega)) (by split <;> omega)
            · have e6 : ¬ wak a = 2 := fun z => h6 (by rw [z]; rfl)
              have e7 : ¬ wak a = 3 := fun z => h7 (by rw [z]; rfl)
              unfold whk1
              rw [if_pos hon, if_neg e6, if_neg e7]
              exact hhi
        · refine skip M' _ _ hs hd ?_
          unfold whk1 wao?
          rw [if_neg (by simp only [decide_eq_true_eq]; exact fun z => h3 (by rw [z.1]))]
          exact hhi
    · intro J hJ
      simp only [zb_X2_workIn_0, s0, zT_push, zT_bin, zT_div, zT_bil, zT_shl, zT_un, zT_i2l, zT_l2i, zT_lcmp, zT_ild, zT_lld, zT_ald, zT_ist, zT_lst, zT_ast, zT_iinc, zT_dup, zT_dup2, zT_pop, zT_if1, zT_if2, zT_ifn, zT_getI, zT_getJ, zT_getR, zT_putI, zT_putZ, zT_putJ, zT_putR, zT_ald0, zT_lald, zT_aald, zT_iast, zT_zast, zT_bast, zT_last, zT_aast, zT_iret, zT_nret, zT_aret, zT_vret, zT_oi, zT_mm, zT_ialX, zT_S1, zT_S2, zT_S3, zT_V0, zT_V1, zT_V2, zT_V3, zT_V4, zT_V5, zT_V6, zT_I0, zT_I1, zT_I2, zlg, zlset, zlpr, zent, zok, va_rf, List.length_cons, List.length_nil, List.replicate, List.cons_append, List.nil_append, List.append_nil, Option.toList_some, Option.toList_none, Option.toList, Nat.reduceAdd, Nat.reduceSub, Nat.reduceLeDiff, Nat.zero_add, Nat.zero_le, true_and, and_true, Nat.le_refl, ge_iff_le, Nat.reduceEqDiff]
      unfold zc_X2_dykesIn
      dsimp only
      refine ⟨rfl, rfl, hx, n, w, h', acts, D, rfl, hn, hwh, hpl, hdy, fun M1 hs1 hd1 => ?_⟩
      refine hJ 20 _ _ _ ⟨0, none, none, rfl, Nat.zero_le _, rfl, rfl, hs1.up (by simp), hd1, ?_⟩
      intro e he
      rw [hs1.2.2 11 (by simp)]
      exact hhg e he
  · exact h.elim
end
section
/-! YEARS: eight heights to a long -/
theorem zl_tn {n : Nat} (h : n < 2 ^ 64) : (lN n).toBitVec.toNat = n := by
  show (BitVec.ofNat 64 n).toNat = n
  rw [BitVec.toNat_ofNat, Nat.mod_eq_of_lt h]
theorem zpack {a h : Nat} (hh : h < 256) (ha : a * 256 + h < 2 ^ 64) : lN a <<< ((8 : Int32).toInt64 &&& 63) ||| (nI h).toInt64 = lN (a * 256 + h) := by
  rw [nI_l (by omega)]
  apply Int64.toBitVec_inj.mp
  apply BitVec.eq_of_toNat_eq
  rw [Int64.toBitVec_or, BitVec.toNat_or, zl_tn (by omega), zl_tn ha]
  have e : (lN a <<< ((8 : Int32).toInt64 &&& 63)).toBitVec.toNat = a * 256 := by
    show ((lN a).toBitVec <<< (((8 : Int32).toInt64 &&& 63).toBitVec.smod 64).toNat).toNat = _
    rw [show (((8 : Int32).toInt64 &&& 63).toBitVec.smod 64).toNat = 8 from by decide, BitVec.toNat_shiftLeft, zl_tn (by omega), Nat.shiftLeft_eq]
    show a * 256 % 2 ^ 64 = a * 256
    exact Nat.mod_eq_of_lt (Nat.lt_of_le_of_lt (Nat.le_add_right _ h) ha)
  rw [e]
  have := Nat.shiftLeft_add_eq_or_of_lt (i := 8) (b := h) (by omega) a
  rw [Nat.shiftLeft_eq] at this
  exact this.symm
theorem zl_ushr (x s : UInt64) (k : Nat) (hs : (s.toBitVec % 64).toNat = k) : (x >>> s).toInt64.toBitVec.toNat = x.toBitVec.toNat / 2 ^ k := by
  have e : (x >>> s).toInt64.toBitVec = x.toBitVec >>> k := by
    rw [← hs]
    exact UInt64.toBitVec_shiftRight _ _
  rw [e, BitVec.toNat_ushiftRight, Nat.shiftRight_eq_div_pow]
theorem zunp {n k : Nat} (hn : n < 2 ^ 64) (hk : k < 8) : ((lN n).toUInt64 >>> ((nI (8 * k)).toInt64.toUInt64 &&& Int64.toUInt64 63)).toInt64.toInt32 &&& 255 = nI (n / 256 ^ k % 256) := by
  have hs : (((nI (8 * k)).toInt64.toUInt64 &&& Int64.toUInt64 63).toBitVec % 64).toNat = 8 * k := by
    have : ∀ k, k < 8 → (((nI (8 * k)).toInt64.toUInt64 &&& Int64.toUInt64 63).toBitVec % 64).toNat = 8 * k := by decide
    exact this k hk
  have e : ((lN n).toUInt64 >>> ((nI (8 * k)).toInt64.toUInt64 &&& Int64.toUInt64 63)).toInt64.toBitVec.toNat = n / 256 ^ k := by
    rw [zl_ushr _ _ (8 * k) hs, Nat.pow_mul]
    show (lN n).toBitVec.toNat / _ = _
    rw [zl_tn hn]
  generalize ((lN n).toUInt64 >>> ((nI (8 * k)).toInt64.toUInt64 &&& Int64.toUInt64 63)).toInt64 = x at e
  rw [pk_and _ 8 (by decide)]
  congr 1
  have e2 : x.toInt32.toBitVec.toNat = x.toBitVec.toNat % 2 ^ 32 := by
    show (x.toBitVec.signExtend 32).toNat = _
    rw [BitVec.signExtend_eq_setWidth_of_le _ (by decide), BitVec.toNat_setWidth]
  rw [e2, e]
  omega
/-- the first m of eight, from the last on -/
def wpn (g : Nat → Nat) : Nat → Nat
  | 0 => 0
  | m + 1 => wpn g m * 256 + g (7 - m)
theorem wpn_lt {g : Nat → Nat} (hg : ∀ k, k < 8 → g k < 256) : ∀ m, m ≤ 8 → wpn g m < 256 ^ m
  | 0, _ => Nat.zero_lt_one
  | m + 1, h => by
    have ih := wpn_lt hg m (by omega)
    have := hg (7 - m) (by omega)
    show wpn g m * 256 + g (7 - m) < 256 ^ (m + 1)
    rw [Nat.pow_succ]
    omega
theorem wpn_get {g : Nat → Nat} (hg : ∀ k, k < 8 → g k < 256) {k : Nat} (hk : k < 8) : wpn g 8 / 256 ^ k % 256 = g k := by
  have h0 := hg 0 (by decide)
  have h1 := hg 1 (by decide)
  have h2 := hg 2 (by decide)
  have h3 := hg 3 (by decide)
  have h4 := hg 4 (by decide)
  have h5 := hg 5 (by decide)
  have h6 := hg 6 (by decide)
  have h7 := hg 7 (by decide)
  have e : wpn g 8 = ((((((((0 * 256 + g 7) * 256 + g 6) * 256 + g 5) * 256 + g 4) * 256 + g 3) * 256 + g 2) * 256 + g 1) * 256 + g 0) := rfl
  rw [e]
  match k, hk with
  | 0, _ => simp only [Nat.pow_zero]; omega
  | 1, _ => simp only [show 256 ^ 1 = 256 from rfl]; omega
  | 2, _ => simp only [show 256 ^ 2 = 65536 from rfl]; omega
  | 3, _ => simp only [show 256 ^ 3 = 16777216 from rfl]; omega
  | 4, _ => simp only [show 256 ^ 4 = 4294967296 from rfl]; omega
  | 5, _ => simp only [show 256 ^ 5 = 1099511627776 from rfl]; omega
  | 6, _ => simp only [show 256 ^ 6 = 281474976710656 from rfl]; omega
  | 7, _ => simp only [show 256 ^ 7 = 72057594037927936 from rfl]; omega
/-- the long that holds eight heights from 8 i on -/
def wlg (H : Nat → Nat) (i : Nat) : Nat := wpn (fun k => H (i * 8 + k)) 8
theorem wlg_get {H : Nat → Nat} {c : Nat} (hH : ∀ e, e < 120 → H e ≤ 200) (hc : c < 120) : wlg H (c / 8) < 2 ^ 64 ∧ wlg H (c / 8) / 256 ^ (c % 8) % 256 = H c := by
  have hb : ∀ k, k < 8 → (fun k => H (c / 8 * 8 + k)) k < 256 := fun k hk => by
    have := hH (c / 8 * 8 + k) (by omega)
    dsimp only
    omega
  refine ⟨?_, ?_⟩
  · have := wpn_lt hb 8 (Nat.le_refl _)
    exact this
  · unfold wlg
    rw [wpn_get hb (by omega)]
    congr 1
    omega
/-- Years: behind each year n up to m the heights g n -/
def zys (M : zMm) (yk : Nat) (m : Nat) (g : Nat → Nat → Nat) : Prop := ∀ n, n ≤ m → ∀ i, i < 15 → M.2.2.1 (yk + 1) (n * 15 + i) = lN (wlg (g n) i)
def zyk (M : zMm) (yk : Nat) : Prop := (∃ r, r < 36 ∧ yk = 100 + 2 * r) ∧ M.2.2.2 yk 0 = some (yk + 1)
theorem zyk_sh {yk : Nat} (h : ∃ r, r < 36 ∧ yk = 100 + 2 * r) : zsh yk = (5, 6, 2) ∧ zsh (yk + 1) = (3, 465, 0) := by
  obtain ⟨r, hr, rfl⟩ := h
  have : ∀ r, r < 36 → zsh (100 + 2 * r) = (5, 6, 2) ∧ zsh (100 + 2 * r + 1) = (3, 465, 0) := by decide
  exact this r hr
def zc_X6_heightOf (a : List Value) (M : zMm) (K : zKt) : Prop := match a with
  | [.ref yk, .int x, .int y] => zyk M yk ∧ ∃ n c H, x = nI n ∧ n ≤ 30 ∧ y = nI c ∧ c < 120 ∧ (∀ e, e < 120 → H e ≤ 200) ∧ (∀ i, i < 15 → M.2.2.1 (yk + 1) (n * 15 + i) = lN (wlg H i)) ∧ K (some (.int (nI (H c)))) M
  | _ => False
theorem zm_X6_heightOf (l : Launch) (D : va_G) (Y : Nat → ClassId) : zMt l D Y yX6_heightOf cX6_heightOf 5 (some .int) 0 0 0 0 zc_X6_heightOf := by
  refine zflat (by decide) (fun K J _ _ => zb_X6_heightOf_0 K J) (fun X hR => zbs_X6_heightOf_0 hR zJ0 zJ0_ok) (fun avs M K h => ?_)
  unfold zc_X6_heightOf at h
  split at h
  · next yk x y =>
    obtain ⟨⟨hyk, hr⟩, n, c, H, rfl, hn, rfl, hc, hH, hl, h⟩ := h
    obtain ⟨s0, s1⟩ := zyk_sh hyk
    refine ⟨by simp [zent], ?_⟩
    simp only [zb_X6_heightOf_0, s0, s1, hr, zT_push, zT_bin, zT_div, zT_bil, zT_shl, zT_un, zT_i2l, zT_l2i, zT_lcmp, zT_ild, zT_lld, zT_ald, zT_ist, zT_lst, zT_ast, zT_iinc, zT_dup, zT_dup2, zT_pop, zT_if1, zT_if2, zT_ifn, zT_getI, zT_getJ, zT_getR, zT_putI, zT_putZ, zT_putJ, zT_putR, zT_ald0, zT_lald, zT_aald, zT_iast, zT_zast, zT_bast, zT_last, zT_aast, zT_iret, zT_nret, zT_aret, zT_vret, zT_oi, zT_mm, zT_ialX, zT_S1, zT_S2, zT_S3, zT_V0, zT_V1, zT_V2, zT_V3, zT_V4, zT_V5, zT_V6, zT_I0, zT_I1, zT_I2, zlg, zlset, zlpr, zent, zok, va_rf, List.length_cons, List.length_nil, List.replicate, List.cons_append, List.nil_append, List.append_nil, Option.toList_some, Option.toList_none, Option.toList, Nat.reduceAdd, Nat.reduceSub, Nat.reduceLeDiff, Nat.zero_add, Nat.zero_le, true_and, and_true, Nat.le_refl, ge_iff_le, Nat.reduceEqDiff]
    obtain ⟨g1, g2⟩ := wlg_get hH hc
    rw [show (8 : Int32) = nI 8 from rfl, show (15 : Int32) = nI 15 from rfl, pk_rem (a := c) (by omega) (by omega) (by omega), pk_div (by omega) (by omega) (by omega), pk_mul, pk_mul, nI_add, nI_clamp (by omega), hl (c / 8) (by omega), zunp g1 (by omega), g2]
    exact ⟨by decide, vp_in_nI (by omega) (by decide), by decide, h⟩
  · exact h.elim
theorem zsmJ {M : zMm} {k j : Nat} {x : Int64} : (zwJ M k j x).1 = M.1 ∧ (zwJ M k j x).2.1 = M.2.1 ∧ (zwJ M k j x).2.2.2 = M.2.2.2 := ⟨rfl, rfl, rfl⟩
/-- keep: the year's fifteen longs, and the latest year -/
def zc_X6_keep (a : List Value) (M : zMm) (K : zKt) : Prop := match a with
  | [.ref yk, .int x, .ref hk] => zyk M yk ∧ (hk = 2 ∨ hk = 11) ∧ ∃ n H, x = nI n ∧ n ≤ 30 ∧ (∀ e, e < 120 → M.2.1 hk e = nI (H e) ∧ H e ≤ 200) ∧ ∀ M', M'.1 = M.1 → M'.2.2.2 = M.2.2.2 → (∀ k : Nat, k ≠ yk + 1 → M'.2.2.1 k = M.2.2.1 k) → (∀ j, (j < n * 15 ∨ n * 15 + 15 ≤ j) → M'.2.2.1 (yk + 1) j = M.2.2.1 (yk + 1) j) → (∀ i, i < 15 → M'.2.2.1 (yk + 1) (n * 15 + i) = lN (wlg H i)) → (∀ k : Nat, k ≠ yk → M'.2.1 k = M.2.1 k) → M'.2.1 yk 1 = nI n → K none M'
  | _ => False
set_option maxHeartbeats 2000000 in
theorem zm_X6_keep (l : Launch) (D : va_G) (Y : Nat → ClassId) : zMt l D Y yX6_keep cX6_keep 7 none 0 0 0 0 zc_X6_keep := by
  refine zwhile (heads := [2, 15]) (by decide) (fun K J _ _ => zb_X6_keep_0 K J) (fun K _ _ J h => zB_X6_keep K J h) (fun X hR J hJ => zbs_X6_keep_0 hR J hJ) (fun X hR => zBs_X6_keep hR) (fun avs M K h => ?_)
  unfold zc_X6_keep at h
  split at h
  · next yk x hk =>
    obtain ⟨⟨hyk, hr⟩, hhk, n, H, rfl, hn, hH, h⟩ := h
    obtain ⟨s0, s1⟩ := zyk_sh hyk
    have s2 : zsh hk = (0, 120, 0) := by rcases hhk with rfl | rfl <;> rfl
    refine ⟨by simp [zent], fun q h' M' ls st => (h' = 2 ∧ ∃ i o4 o5 o6, q = 1000 - 20 * i ∧ i ≤ 15 ∧ ls = [some (.ref yk), some (.int (nI n)), some (.ref hk), some (.int (nI i)), o4, o5, o6] ∧ st = [] ∧ M'.1 = M.1 ∧ M'.2.1 = M.2.1 ∧ M'.2.2.2 = M.2.2.2 ∧ (∀ k, k ≠ yk + 1 → M'.2.2.1 k = M.2.2.1 k) ∧ (∀ j, (j < n * 15 ∨ n * 15 + 15 ≤ j) → M'.2.2.1 (yk + 1) j = M.2.2.1 (yk + 1) j) ∧ (∀ j, j < i → M'.2.2.1 (yk + 1) (n * 15 + j) = lN (wlg H j))) ∨
      (h' = 15 ∧ ∃ i m, q = 1000 - 20 * i - 1 - m ∧ i < 15 ∧ m ≤ 8 ∧ ls = [some (.ref yk), some (.int (nI n)), some (.ref hk), some (.int (nI i)), some (.long (lN (wpn (fun k => H (i * 8 + k)) m))), none, some (.int (nI 7 - nI m))] ∧ st = [] ∧ M'.1 = M.1 ∧ M'.2.1 = M.2.1 ∧ M'.2.2.2 = M.2.2.2 ∧ (∀ k, k ≠ yk + 1 → M'.2.2.1 k = M.2.2.1 k) ∧ (∀ j, (j < n * 15 ∨ n * 15 + 15 ≤ j) → M'.2.2.1 (yk + 1) j = M.2.2.1 (yk + 1) j) ∧ (∀ j, j < i → M'.2.2.1 (yk + 1) (n * 15 + j) = lN (wlg H j))), ?_, ?_⟩
    · rintro q J hJ h' - M' ls st (⟨rfl, i, o4, o5, o6, rfl, hi, rfl, rfl, e1, e2, e3, e4, e5, e6⟩ | ⟨rfl, i, m, rfl, hi, hm, rfl, rfl, e1, e2, e3, e4, e5, e6⟩)
      · simp only [zB_X6_keep, zb_X6_keep_2, ↓reduceIte, s0, zT_push, zT_bin, zT_div, zT_bil, zT_shl, zT_un, zT_i2l, zT_l2i, zT_lcmp, zT_ild, zT_lld, zT_ald, zT_ist, zT_lst, zT_ast, zT_iinc, zT_dup, zT_dup2, zT_pop, zT_if1, zT_if2, zT_ifn, zT_getI, zT_getJ, zT_getR, zT_putI, zT_putZ, zT_putJ, zT_putR, zT_ald0, zT_lald, zT_aald, zT_iast, zT_zast, zT_bast, zT_last, zT_aast, zT_iret, zT_nret, zT_aret, zT_vret, zT_oi, zT_mm, zT_ialX, zT_S1, zT_S2, zT_S3, zT_V0, zT_V1, zT_V2, zT_V3, zT_V4, zT_V5, zT_V6, zT_I0, zT_I1, zT_I2, zlg, zlset, zlpr, zent, zok, va_rf, List.length_cons, List.length_nil, List.replicate, List.cons_append, List.nil_append, List.append_nil, Option.toList_some, Option.toList_none, Option.toList, Nat.reduceAdd, Nat.reduceSub, Nat.reduceLeDiff, Nat.zero_add, Nat.zero_le, true_and, and_true, Nat.le_refl, ge_iff_le, Nat.reduceEqDiff]
        refine ⟨fun h1 => ?_, fun h1 => ?_⟩
        · have := zn_ge' (b := 15) h1 (by omega) (by omega)
          have e : i = 15 := by omega
          subst e
          refine h _ e1 e3 e4 e5 e6 (fun k hk' => ?_) ?_
          · simp only [zwI_L, zwI_I, zwI_J, zwI_R, zwJ_L, zwJ_I, zwJ_J, zwJ_R, zwR_L, zwR_I, zwR_J, zwR_R, zw2_s, zw2_n, ne_eq, not_false_eq_true, reduceCtorEq, not_true_eq_false, Nat.reduceEqDiff]
            rw [zw2_n hk', e2]
          · simp only [zwI_L, zwI_I, zwI_J, zwI_R, zwJ_L, zwJ_I, zwJ_J, zwJ_R, zwR_L, zwR_I, zwR_J, zwR_R, zw2_s, zw2_n, ne_eq, not_false_eq_true, reduceCtorEq, not_true_eq_false, Nat.reduceEqDiff]
            rw [zup_s]
        · have hlt := zn_ge (b := 15) h1 (by omega) (by omega)
          exact hJ (1000 - 20 * i - 1 - 0) (by omega) 15 (by simp) _ _ _ (Or.inr ⟨rfl, i, 0, rfl, hlt, by omega, rfl, rfl, e1, e2, e3, e4, e5, e6⟩)
      · have hb : ∀ k, k < 8 → (fun k => H (i * 8 + k)) k < 256 := fun k hk' => by
          have := (hH (i * 8 + k) (by omega)).2
          dsimp only
          omega
        have hlt := wpn_lt hb m hm
        have hr' : M'.2.2.2 yk 0 = some (yk + 1) := by rw [e3]; exact hr
        simp only [zB_X6_keep, zb_X6_keep_15, ↓reduceIte, Nat.reduceEqDiff, s0, s1, s2, hr', e2, zT_push, zT_bin, zT_div, zT_bil, zT_shl, zT_un, zT_i2l, zT_l2i, zT_lcmp, zT_ild, zT_lld, zT_ald, zT_ist, zT_lst, zT_ast, zT_iinc, zT_dup, zT_dup2, zT_pop, zT_if1, zT_if2, zT_ifn, zT_getI, zT_getJ, zT_getR, zT_putI, zT_putZ, zT_putJ, zT_putR, zT_ald0, zT_lald, zT_aald, zT_iast, zT_zast, zT_bast, zT_last, zT_aast, zT_iret, zT_nret, zT_aret, zT_vret, zT_oi, zT_mm, zT_ialX, zT_S1, zT_S2, zT_S3, zT_V0, zT_V1, zT_V2, zT_V3, zT_V4, zT_V5, zT_V6, zT_I0, zT_I1, zT_I2, zlg, zlset, zlpr, zent, zok, va_rf, List.length_cons, List.length_nil, List.replicate, List.cons_append, List.nil_append, List.append_nil, Option.toList_some, Option.toList_none, Option.toList, Nat.reduceAdd, Nat.reduceSub, Nat.reduceLeDiff, Nat.zero_add, Nat.zero_le, true_and, and_true, Nat.le_refl, ge_iff_le, Nat.reduceEqDiff]
        refine ⟨fun h1 => ?_, fun h1 => ?_⟩
        · have e : m = 8 := by
            rcases Nat.lt_or_ge m 8 with q | q
            · rw [pk_sub (by omega)] at h1
              exact absurd h1 (nI_pos (by omega))
            · omega
          subst e
          rw [show (15 : Int32) = nI 15 from rfl, pk_mul, nI_add, nI_clamp (by omega)]
          refine ⟨vp_in_nI (by omega) (by decide), hJ (1000 - 20 * (i + 1)) (by omega) 2 (by simp) _ _ _ (Or.inl ⟨rfl, i + 1, _, _, _, rfl, by omega, by rw [nI_1], rfl, e1, e2, e3, fun k hk' => ?_, fun j hj => ?_, fun j hj => ?_⟩)⟩
          · simp only [zwI_L, zwI_I, zwI_J, zwI_R, zwJ_L, zwJ_I, zwJ_J, zwJ_R, zwR_L, zwR_I, zwR_J, zwR_R, zw2_s, zw2_n, ne_eq, not_false_eq_true, reduceCtorEq, not_true_eq_false, Nat.reduceEqDiff]
            rw [zw2_n hk']
            exact e4 k hk'
          · simp only [zwI_L, zwI_I, zwI_J, zwI_R, zwJ_L, zwJ_I, zwJ_J, zwJ_R, zwR_L, zwR_I, zwR_J, zwR_R, zw2_s, zw2_n, ne_eq, not_false_eq_true, reduceCtorEq, not_true_eq_false, Nat.reduceEqDiff]
            rw [zup_n (by omega)]
            exact e5 j hj
          · simp only [zwI_L, zwI_I, zwI_J, zwI_R, zwJ_L, zwJ_I, zwJ_J, zwJ_R, zwR_L, zwR_I, zwR_J, zwR_R, zw2_s, zw2_n, ne_eq, not_false_eq_true, reduceCtorEq, not_true_eq_false, Nat.reduceEqDiff]
            by_cases q : j = i
            · subst q
              rw [zup_s]
              rfl
            · rw [zup_n (by omega)]
              exact e6 j (by omega)
        · have hm8 : m < 8 := by
            rcases Nat.lt_or_ge m 8 with q | q
            · exact q
            · have : m = 8 := by omega
              subst this
              exact absurd (by decide) h1
          obtain ⟨hh1, hh2⟩ := hH (i * 8 + (7 - m)) (by omega)
          have hp8 : wpn (fun k => H (i * 8 + k)) m * 256 + H (i * 8 + (7 - m)) < 2 ^ 64 := by
            have := wpn_lt hb (m + 1) (by omega)
            have h3 : 256 ^ (m + 1) ≤ 256 ^ 8 := Nat.pow_le_pow_right (by decide) (by omega)
            have h4 : wpn (fun k => H (i * 8 + k)) (m + 1) = wpn (fun k => H (i * 8 + k)) m * 256 + H (i * 8 + (7 - m)) := rfl
            omega
          have hstep : nI 7 - nI m + (-1) = nI 7 - nI (m + 1) := by
            by_cases q : m = 7
            · subst q; decide
            · rw [pk_sub (by omega), pk_sub (by omega), zn_m1 (by omega)]
              rfl
          rw [pk_sub (by omega), show nI i * 8 = nI (i * 8) from pk_mul i 8, nI_add, nI_clamp (by omega), hh1, zpack (by omega) hp8, ← pk_sub (by omega), hstep]
          exact ⟨vp_in_nI (by omega) (by decide), hJ (1000 - 20 * i - 1 - (m + 1)) (by omega) 15 (by simp) _ _ _ (Or.inr ⟨rfl, i, m + 1, rfl, hi, by omega, rfl, rfl, e1, e2, e3, e4, e5, e6⟩)⟩
    · intro J hJ
      simp only [zb_X6_keep_0, zT_push, zT_bin, zT_div, zT_bil, zT_shl, zT_un, zT_i2l, zT_l2i, zT_lcmp, zT_ild, zT_lld, zT_ald, zT_ist, zT_lst, zT_ast, zT_iinc, zT_dup, zT_dup2, zT_pop, zT_if1, zT_if2, zT_ifn, zT_getI, zT_getJ, zT_getR, zT_putI, zT_putZ, zT_putJ, zT_putR, zT_ald0, zT_lald, zT_aald, zT_iast, zT_zast, zT_bast, zT_last, zT_aast, zT_iret, zT_nret, zT_aret, zT_vret, zT_oi, zT_mm, zT_ialX, zT_S1, zT_S2, zT_S3, zT_V0, zT_V1, zT_V2, zT_V3, zT_V4, zT_V5, zT_V6, zT_I0, zT_I1, zT_I2, zlg, zlset, zlpr, zent, zok, va_rf, List.length_cons, List.length_nil, List.replicate, List.cons_append, List.nil_append, List.append_nil, Option.toList_some, Option.toList_none, Option.toList, Nat.reduceAdd, Nat.reduceSub, Nat.reduceLeDiff, Nat.zero_add, Nat.zero_le, true_and, and_true, Nat.le_refl, ge_iff_le, Nat.reduceEqDiff]
      exact hJ 1000 2 (by simp) _ _ _ (Or.inl ⟨rfl, 0, none, none, none, rfl, by omega, rfl, rfl, rfl, rfl, rfl, fun _ _ => rfl, fun _ _ => rfl, fun j hj => absurd hj (Nat.not_lt_zero _)⟩)
  · exact h.elim
end
section
/-! PURE: the flow as a function; the years under a rule (cells numbered 12 y + x) -/
def wil? (w h c : Nat) : Bool := decide (c % 12 < w ∧ c / 12 < h)
theorem wil_t {w h c : Nat} : wil? w h c = true ↔ wil w h c := by simp [wil?, wil]
def wGf (w h : Nat) (H : Nat → Nat) (D : Nat → Bool) (sort sp fl : Nat) : Nat → Nat → Nat
  | 0, _ => 0
  | n + 1, x => if wil? w h x = true then (if x = sp then fl else 0) + wsm (fun e => match wnb w h x e with
      | some b => wgv sort (wGf w h H D sort sp fl n b) (wdr w h H D b) (wop e)
      | none => 0) 4 else 0
def wG (w h : Nat) (H : Nat → Nat) (D : Nat → Bool) (sort sp fl x : Nat) : Nat := wGf w h H D sort sp fl 201 x
theorem wGf_eq {w h : Nat} {H : Nat → Nat} {D : Nat → Bool} {sort sp fl : Nat} {A : Nat → Nat} (hw : w ≤ 12) (hh : h ≤ 10) (hA : wfl w h H D sort sp fl A) (hH : ∀ x, x < 120 → H x ≤ 200) : ∀ n x, x < 120 → wil w h x → 200 < n + H x → wGf w h H D sort sp fl n x = A x
  | 0, x, hx, _, h0 => by
    have := hH x hx
    omega
  | n + 1, x, hx, hxl, h0 => by
    show (if wil? w h x = true then _ else 0) = _
    rw [if_pos (wil_t.mpr hxl), hA x hx hxl]
    congr 1
    refine wsm_congr fun e he => ?_
    unfold wfr
    cases hnb : wnb w h x e with
    | none => rfl
    | some b =>
      dsimp only
      rw [if_pos trivial]
      obtain ⟨s1, s2⟩ := wnb_sym hw he hxl hnb
      by_cases hz : wdr w h H D b (wop e) = 0
      · unfold wgv
        rw [if_pos hz, if_pos hz]
      · have hlt : H x < H b := by
          unfold wdr at hz
          rw [s1] at hz
          dsimp only at hz
          split at hz
          · exact absurd rfl hz
          · omega
        rw [wGf_eq hw hh hA hH n b (wnb_lt hw hh he hxl hnb) s2 (by omega)]
theorem wG_eq {w h : Nat} {H : Nat → Nat} {D : Nat → Bool} {sort sp fl : Nat} {A : Nat → Nat} (hw : w ≤ 12) (hh : h ≤ 10) (hA : wfl w h H D sort sp fl A) (hH : ∀ x, x < 120 → H x ≤ 200) (hz : ∀ x, x < 120 → ¬ wil w h x → A x = 0) : ∀ x, x < 120 → wG w h H D sort sp fl x = A x := by
  intro x hx
  by_cases hxl : wil w h x
  · exact wGf_eq hw hh hA hH 201 x hx hxl (by omega)
  · rw [hz x hx hxl]
    show (if wil? w h x = true then _ else 0) = 0
    rw [if_neg (fun z => hxl (wil_t.mp z))]
/-- what is given of a land: (w, h, level, spring, flow, heights as of year 0, acts) -/
abbrev wSP : Type := Nat × Nat × Nat × Nat × Nat × (Nat → Nat) × List wAc
def sW (σ : wSP) : Nat := σ.1
def sH (σ : wSP) : Nat := σ.2.1
def sL (σ : wSP) : Nat := σ.2.2.1
def sS (σ : wSP) : Nat := σ.2.2.2.1
def sF (σ : wSP) : Nat := σ.2.2.2.2.1
def sG (σ : wSP) : Nat → Nat := σ.2.2.2.2.2.1
def sA (σ : wSP) : List wAc := σ.2.2.2.2.2.2
def wsr (r : Nat) : Nat := r / 12
def wrt (r : Nat) : Nat := 1 + r / 2 % 6
def wwr (r : Nat) : Nat := r % 2
abbrev wHDt : Type := (Nat → Nat) × (Nat → Bool)
def wY (σ : wSP) (r n : Nat) (S : wHDt) : wHDt :=
  (fun x => wst (sL σ) (wrt r) (wwr r) (whk (sW σ) (sH σ) n (sA σ) S.1 x) (wG (sW σ) (sH σ) (whk (sW σ) (sH σ) n (sA σ) S.1) (wdk (sW σ) (sH σ) n (sA σ) S.2) (wsr r) (sS σ) (sF σ) x) (wpt (sW σ) (sH σ) (whk (sW σ) (sH σ) n (sA σ) S.1) (wdk (sW σ) (sH σ) n (sA σ) S.2) x),
   wdk (sW σ) (sH σ) n (sA σ) S.2)
def wHD (σ : wSP) (r : Nat) : Nat → wHDt
  | 0 => (sG σ, fun _ => false)
  | n + 1 => wY σ r (n + 1) (wHD σ r n)
/-- what came to a cell in the year n + 1 -/
def wGT (σ : wSP) (r n x : Nat) : Nat := wG (sW σ) (sH σ) (whk (sW σ) (sH σ) (n + 1) (sA σ) (wHD σ r n).1) (wdk (sW σ) (sH σ) (n + 1) (sA σ) (wHD σ r n).2) (wsr r) (sS σ) (sF σ) x
/-- the numbers of σ are in their bounds -/
def wsok (σ : wSP) : Prop := 2 ≤ sW σ ∧ sW σ ≤ 12 ∧ 2 ≤ sH σ ∧ sH σ ≤ 10 ∧ sL σ ≤ 200 ∧ sS σ < 120 ∧ wil (sW σ) (sH σ) (sS σ) ∧ sF σ ≤ 1000 ∧ (∀ e, sG σ e ≤ 200)
theorem wHD_le {σ : wSP} (h : wsok σ) (r : Nat) : ∀ n e, (wHD σ r n).1 e ≤ 200
  | 0, e => h.2.2.2.2.2.2.2.2 e
  | n + 1, e => wst_le h.2.2.2.2.1 (whk_le (wHD_le h r n) e)
/-- the class's own references, the plan pk and the draft dk -/
def zXr (M : zMm) (pk dk : Nat) : Prop := M.2.2.2 0 0 = some 1 ∧ M.2.2.2 0 1 = some 3 ∧ M.2.2.2 0 2 = some 5 ∧ M.2.2.2 0 3 = some 10 ∧ M.2.2.2 0 4 = some 20 ∧ M.2.2.2 0 5 = some pk ∧ M.2.2.2 0 6 = some dk ∧ M.2.2.2 1 0 = some 2 ∧ M.2.2.2 3 0 = some 4 ∧
  M.2.2.2 5 0 = some 6 ∧ M.2.2.2 5 1 = some 7 ∧ M.2.2.2 5 2 = some 8 ∧ M.2.2.2 5 3 = some 9 ∧ zxw M ∧ (∀ j, j < 5 → M.2.2.2 21 j = some (22 + j)) ∧ (∀ j, j < 5 → M.2.2.2 27 j = some (28 + j)) ∧ ((pk = 21 ∧ dk = 27) ∨ (pk = 27 ∧ dk = 21))
def zyi (r : Nat) : Nat := 100 + 2 * r
def zlv (M : zMm) (r : Nat) : Bool := (M.2.2.2 20 r).isSome
/-- the kept years -/
def zYS (M : zMm) (σ : wSP) : Prop := ∀ r, r < 36 → (M.2.2.2 20 r = none ∧ zyi r ∉ M.1 ∧ zyi r + 1 ∉ M.1) ∨ (M.2.2.2 20 r = some (zyi r) ∧ M.2.2.2 (zyi r) 0 = some (zyi r + 1) ∧ (M.2.1 (zyi r) 1 = -1 ∨ ∃ m, m ≤ 30 ∧ M.2.1 (zyi r) 1 = nI m ∧ zys M (zyi r) m (fun n => (wHD σ r n).1)))
/-- the cells that are there: 33 of the object, two for each kept rule, p readers -/
def zLL (M : zMm) (p : Nat) : Prop := M.1.length = 33 + 2 * wct (zlv M) 36 + p ∧ zss M.1 = 2117 + 467 * wct (zlv M) 36 + 5 * p ∧ ∀ k ∈ M.1, 500 ≤ k → k < 500 + p
/-- THE CLASS's STATE as far as the years need it -/
def zXI (M : zMm) (σ : wSP) (pk dk p : Nat) : Prop := zXr M pk dk ∧ wsok σ ∧ M.2.1 1 1 = nI (sW σ) ∧ M.2.1 1 2 = nI (sH σ) ∧ M.2.1 1 3 = nI (sS σ) ∧ M.2.1 1 4 = nI (sF σ) ∧ M.2.1 1 5 = nI (sL σ) ∧ (∀ e, e < 120 → M.2.1 2 e = nI (sG σ e)) ∧ zpl M pk (sA σ) ∧ (∃ S : wST, zwt M S.1 S.2 ∧ wwf S) ∧ zYS M σ ∧ zLL M p
end
section
/-! DeltaRuns takeUp -/
theorem zd_X7_takeUp_0 : decode cX7_takeUp 0 = .ok (.iconst 0, 1) := by decide +kernel
theorem zd_X7_takeUp_1 : decode cX7_takeUp 1 = .ok (.istore_n 3, 1) := by decide +kernel
theorem zd_X7_takeUp_2 : decode cX7_takeUp 2 = .ok (.iload_n 3, 1) := by decide +kernel
theorem zd_X7_takeUp_3 : decode cX7_takeUp 3 = .ok (.bipush 120, 2) := by decide +kernel
theorem zd_X7_takeUp_5 : decode cX7_takeUp 5 = .ok (.if_icmp .ge 34, 3) := by decide +kernel
theorem zd_X7_takeUp_8 : decode cX7_takeUp 8 = .ok (.aload_n 0, 1) := by decide +kernel
theorem zd_X7_takeUp_9 : decode cX7_takeUp 9 = .ok (.getfield 33, 3) := by decide +kernel
theorem zd_X7_takeUp_12 : decode cX7_takeUp 12 = .ok (.getfield 194, 3) := by decide +kernel
theorem zd_X7_takeUp_15 : decode cX7_takeUp 15 = .ok (.iload_n 3, 1) := by decide +kernel
theorem zd_X7_takeUp_16 : decode cX7_takeUp 16 = .ok (.aload_n 1, 1) := by decide +kernel
theorem zd_X7_takeUp_17 : decode cX7_takeUp 17 = .ok (.iload_n 2, 1) := by decide +kernel
theorem zd_X7_takeUp_18 : decode cX7_takeUp 18 = .ok (.iload_n 3, 1) := by decide +kernel
theorem zd_X7_takeUp_19 : decode cX7_takeUp 19 = .ok (.invokevirtual 123, 3) := by decide +kernel
theorem zd_X7_takeUp_22 : decode cX7_takeUp 22 = .ok (.iastore, 1) := by decide +kernel
theorem zd_X7_takeUp_23 : decode cX7_takeUp 23 = .ok (.aload_n 0, 1) := by decide +kernel
theorem zd_X7_takeUp_24 : decode cX7_takeUp 24 = .ok (.getfield 33, 3) := by decide +kernel
theorem zd_X7_takeUp_27 : decode cX7_takeUp 27 = .ok (.getfield 200, 3) := by decide +kernel
theorem zd_X7_takeUp_30 : decode cX7_takeUp 30 = .ok (.iload_n 3, 1) := by decide +kernel
theorem zd_X7_takeUp_31 : decode cX7_takeUp 31 = .ok (.iconst 0, 1) := by decide +kernel
theorem zd_X7_takeUp_32 : decode cX7_takeUp 32 = .ok (.bastore, 1) := by decide +kernel
theorem zd_X7_takeUp_33 : decode cX7_takeUp 33 = .ok (.iinc 3 1, 3) := by decide +kernel
theorem zd_X7_takeUp_36 : decode cX7_takeUp 36 = .ok (.goto (-34), 3) := by decide +kernel
theorem zd_X7_takeUp_39 : decode cX7_takeUp 39 = .ok (.iconst 1, 1) := by decide +kernel
theorem zd_X7_takeUp_40 : decode cX7_takeUp 40 = .ok (.istore_n 3, 1) := by decide +kernel
theorem zd_X7_takeUp_41 : decode cX7_takeUp 41 = .ok (.iload_n 3, 1) := by decide +kernel
theorem zd_X7_takeUp_42 : decode cX7_takeUp 42 = .ok (.iload_n 2, 1) := by decide +kernel
theorem zd_X7_takeUp_43 : decode cX7_takeUp 43 = .ok (.if_icmp .gt 25, 3) := by decide +kernel
theorem zd_X7_takeUp_46 : decode cX7_takeUp 46 = .ok (.aload_n 0, 1) := by decide +kernel
theorem zd_X7_takeUp_47 : decode cX7_takeUp 47 = .ok (.getfield 46, 3) := by decide +kernel
theorem zd_X7_takeUp_50 : decode cX7_takeUp 50 = .ok (.iload_n 3, 1) := by decide +kernel
theorem zd_X7_takeUp_51 : decode cX7_takeUp 51 = .ok (.aload_n 0, 1) := by decide +kernel
theorem zd_X7_takeUp_52 : decode cX7_takeUp 52 = .ok (.getfield 10, 3) := by decide +kernel
theorem zd_X7_takeUp_55 : decode cX7_takeUp 55 = .ok (.aload_n 0, 1) := by decide +kernel
theorem zd_X7_takeUp_56 : decode cX7_takeUp 56 = .ok (.getfield 33, 3) := by decide +kernel
theorem zd_X7_takeUp_59 : decode cX7_takeUp 59 = .ok (.invokevirtual 204, 3) := by decide +kernel
theorem zd_X7_takeUp_62 : decode cX7_takeUp 62 = .ok (.iinc 3 1, 3) := by decide +kernel
theorem zd_X7_takeUp_65 : decode cX7_takeUp 65 = .ok (.goto (-24), 3) := by decide +kernel
theorem zd_X7_takeUp_68 : decode cX7_takeUp 68 = .ok (.return_, 1) := by decide +kernel
def zb_X7_takeUp_0 (K : zKt) (J : Nat → zPP) : zPP := zT_push (.int 0) (zT_ist 3 (J 2))
theorem zbs_X7_takeUp_0 {X : zCt} (hR : zRX X = { frames := 2, cells := 0, slots := 0, locals := 47 }) (J : Nat → zPP) (hJ : ∀ h ∈ ([2, 41] : List Nat), zSd X RX7 "takeUp" cX7_takeUp 4 none h (J h)) : zSd X RX7 "takeUp" cX7_takeUp 4 none 0 (zb_X7_takeUp_0 (zKX X) J) := zs_iconst zd_X7_takeUp_0 (by decide) (zs_istore_n zd_X7_takeUp_1 rfl (by decide) (hJ 2 (by decide)))
def zb_X7_takeUp_2 (K : zKt) (J : Nat → zPP) : zPP := zT_ild 3 (zT_push (.int 120) (zT_if2 (fun x y => y ≤ x) (zT_push (.int 1) (zT_ist 3 (J 41))) (zT_ald 0 (zT_getR 7 3 9 (zT_getR 5 0 11 (zT_ild 3 (zT_ald 1 (zT_ild 2 (zT_ild 3 (zT_V2 zok 6 2 zc_X6_heightOf (zT_iast (zT_ald 0 (zT_getR 7 3 9 (zT_getR 5 1 11 (zT_ild 3 (zT_push (.int 0) (zT_zast (zT_iinc 3 1 (J 2)))))))))))))))))))
theorem zbs_X7_takeUp_2 {X : zCt} (hR : zRX X = { frames := 2, cells := 0, slots := 0, locals := 47 }) (J : Nat → zPP) (hJ : ∀ h ∈ ([2, 41] : List Nat), zSd X RX7 "takeUp" cX7_takeUp 4 none h (J h)) : zSd X RX7 "takeUp" cX7_takeUp 4 none 2 (zb_X7_takeUp_2 (zKX X) J) := zs_iload_n zd_X7_takeUp_2 rfl (zs_bipush zd_X7_takeUp_3 (by decide) (zs_icmp_ge (tgt := 39) zd_X7_takeUp_5 (by decide) (zs_iconst zd_X7_takeUp_39 (by decide) (zs_istore_n zd_X7_takeUp_40 rfl (by decide) (hJ 41 (by decide)))) (zs_aload_n zd_X7_takeUp_8 rfl (zs_getR (ci := 7) (j := 3) (T := TX7) rfl inX7 (by decide) gw_1_188 rfl zd_X7_takeUp_9 (zs_getR (ci := 5) (j := 0) (T := TX5) rfl inX5 (by decide) gw_1_113 rfl zd_X7_takeUp_12 (zs_iload_n zd_X7_takeUp_15 rfl (zs_aload_n zd_X7_takeUp_16 rfl (zs_iload_n zd_X7_takeUp_17 rfl (zs_iload_n zd_X7_takeUp_18 rfl (zs_V (ci := 6) rfl rfl (zm_X6_heightOf _ _ _) gw_2_190 gw_2_187 gw_2_188 gw_2_189 gw_1_14 zdn_X6_heightOf (zrm hR (by decide) (by decide)) zd_X7_takeUp_19 (zCl_V2 zok_l) (zs_iast zd_X7_takeUp_22 (zs_aload_n zd_X7_takeUp_23 rfl (zs_getR (ci := 7) (j := 3) (T := TX7) rfl inX7 (by decide) gw_1_188 rfl zd_X7_takeUp_24 (zs_getR (ci := 5) (j := 1) (T := TX5) rfl inX5 (by decide) gw_1_116 rfl zd_X7_takeUp_27 (zs_iload_n zd_X7_takeUp_30 rfl (zs_iconst zd_X7_takeUp_31 (by decide) (zs_zast zd_X7_takeUp_32 (zs_iinc zd_X7_takeUp_33 (by decide) (by decide) (zs_goto (tgt := 2) zd_X7_takeUp_36 (by decide) (hJ 2 (by decide)))))))))))))))))))))
def zb_X7_takeUp_41 (K : zKt) (J : Nat → zPP) : zPP := zT_ild 3 (zT_ild 2 (zT_if2 (fun x y => y < x) (zT_vret K) (zT_ald 0 (zT_getR 7 5 9 (zT_ild 3 (zT_ald 0 (zT_getR 7 0 9 (zT_ald 0 (zT_getR 7 3 9 (zT_V3 zok 2 6 zc_X2_dykesIn (zT_iinc 3 1 (J 41))))))))))))
theorem zbs_X7_takeUp_41 {X : zCt} (hR : zRX X = { frames := 2, cells := 0, slots := 0, locals := 47 }) (J : Nat → zPP) (hJ : ∀ h ∈ ([2, 41] : List Nat), zSd X RX7 "takeUp" cX7_takeUp 4 none h (J h)) : zSd X RX7 "takeUp" cX7_takeUp 4 none 41 (zb_X7_takeUp_41 (zKX X) J) := zs_iload_n zd_X7_takeUp_41 rfl (zs_iload_n zd_X7_takeUp_42 rfl (zs_icmp_gt (tgt := 68) zd_X7_takeUp_43 (by decide) (zs_vret rfl zd_X7_takeUp_68) (zs_aload_n zd_X7_takeUp_46 rfl (zs_getR (ci := 7) (j := 5) (T := TX7) rfl inX7 (by decide) gw_1_190 rfl zd_X7_takeUp_47 (zs_iload_n zd_X7_takeUp_50 rfl (zs_aload_n zd_X7_takeUp_51 rfl (zs_getR (ci := 7) (j := 0) (T := TX7) rfl inX7 (by decide) gw_1_185 rfl zd_X7_takeUp_52 (zs_aload_n zd_X7_takeUp_55 rfl (zs_getR (ci := 7) (j := 3) (T := TX7) rfl inX7 (by decide) gw_1_188 rfl zd_X7_takeUp_56 (zs_V (ci := 2) rfl rfl (zm_X2_dykesIn _ _ _) gw_2_194 gw_2_191 gw_2_192 gw_2_193 gw_1_6 zdn_X2_dykesIn (zrm hR (by decide) (by decide)) zd_X7_takeUp_59 (zCl_V3 zok_l) (zs_iinc zd_X7_takeUp_62 (by decide) (by decide) (zs_goto (tgt := 41) zd_X7_takeUp_65 (by decide) (hJ 41 (by decide))))))))))))))
def zB_X7_takeUp (K : zKt) (J : Nat → zPP) (h : Nat) : zPP := if h = 2 then zb_X7_takeUp_2 K J else if h = 41 then zb_X7_takeUp_41 K J else (fun _ _ _ => False)
theorem zBs_X7_takeUp {X : zCt} (hR : zRX X = { frames := 2, cells := 0, slots := 0, locals := 47 }) : ∀ J : Nat → zPP, (∀ h ∈ ([2, 41] : List Nat), zSd X RX7 "takeUp" cX7_takeUp 4 none h (J h)) → ∀ h ∈ ([2, 41] : List Nat), zSd X RX7 "takeUp" cX7_takeUp 4 none h (zB_X7_takeUp (zKX X) J h) := by
  intro J hJ h hh
  unfold zB_X7_takeUp
  simp only [List.mem_cons, List.not_mem_nil, or_false] at hh
  rcases hh with rfl | rfl
  · exact zbs_X7_takeUp_2 hR J hJ
  · exact zbs_X7_takeUp_41 hR J hJ
theorem zdn_X7_takeUp : yX7_takeUp.cls ≠ "java/lang/invoke/MethodHandle" ∧ yX7_takeUp.cls ≠ "java/lang/invoke/VarHandle" ∧ (parseMethodDescriptor yX7_takeUp.desc).map (fun d => d.parameters.length) = some 2 := by decide +kernel
/-! DeltaRuns$Years <init> -/
theorem zd_X6_init_0 : decode cX6_init 0 = .ok (.aload_n 0, 1) := by decide +kernel
theorem zd_X6_init_1 : decode cX6_init 1 = .ok (.invokespecial 5, 3) := by decide +kernel
theorem zd_X6_init_4 : decode cX6_init 4 = .ok (.aload_n 0, 1) := by decide +kernel
theorem zd_X6_init_5 : decode cX6_init 5 = .ok (.sipush 465, 3) := by decide +kernel
theorem zd_X6_init_8 : decode cX6_init 8 = .ok (.newarray .long, 2) := by decide +kernel
theorem zd_X6_init_10 : decode cX6_init 10 = .ok (.putfield 11, 3) := by decide +kernel
theorem zd_X6_init_13 : decode cX6_init 13 = .ok (.aload_n 0, 1) := by decide +kernel
theorem zd_X6_init_14 : decode cX6_init 14 = .ok (.iconst (-1), 1) := by decide +kernel
theorem zd_X6_init_15 : decode cX6_init 15 = .ok (.putfield 15, 3) := by decide +kernel
theorem zd_X6_init_18 : decode cX6_init 18 = .ok (.return_, 1) := by decide +kernel
def zb_X6_init_0 (K : zKt) (J : Nat → zPP) (lc lz : Nat) : zPP := zT_ald 0 (zT_oi (zT_ald 0 (zT_push (.int 465) (zT_newa 3 lc lz (zT_putR 6 0 2 (zT_ald 0 (zT_push (.int (-1)) (zT_putI 6 1 2 (zT_vret K)))))))))
theorem zbs_X6_init_0 {X : zCt} (hR : zRX X = { frames := 1, cells := 1, slots := 465, locals := 20 }) (J : Nat → zPP) (hJ : ∀ h ∈ ([] : List Nat), zSd X RX6 "<init>" cX6_init 1 none h (J h)) : zSd X RX6 "<init>" cX6_init 1 none 0 (zb_X6_init_0 (zKX X) J (zlc X) (zls X)) := zs_aload_n zd_X6_init_0 rfl (zs_oi gw_2_169 gw_1_21 gw_1_22 (zrm1 hR (by decide) (by decide)) zd_X6_init_1 (zs_aload_n zd_X6_init_4 rfl (zs_sipush zd_X6_init_5 (by decide) (zs_newJ gw_2_178 rfl rfl zd_X6_init_8 (zs_putR (ci := 6) (j := 0) (T := TX6) rfl inX6 tyX6_ok nmX6 (by decide) gw_2_170 (Or.inr ⟨rfl, rfl, rfl⟩) (fun _ => ⟨rfl, rfl⟩) rfl zd_X6_init_10 (zs_aload_n zd_X6_init_13 rfl (zs_iconst zd_X6_init_14 (by decide) (zs_putI (ci := 6) (j := 1) (T := TX6) rfl inX6 tyX6_ok nmX6 (by decide) gw_2_171 rfl rfl rfl zd_X6_init_15 (zs_vret rfl zd_X6_init_18)))))))))
theorem zdn_X6_init : yX6_init.cls ≠ "java/lang/invoke/MethodHandle" ∧ yX6_init.cls ≠ "java/lang/invoke/VarHandle" ∧ (parseMethodDescriptor yX6_init.desc).map (fun d => d.parameters.length) = some 0 := by decide +kernel
/-! takeUp; a new Years -/
def wdks (w h : Nat) (acts : List wAc) : Nat → Nat → Bool
  | 0 => fun _ => false
  | n + 1 => wdk w h (n + 1) acts (wdks w h acts n)
theorem wHD_2 (σ : wSP) (r : Nat) : ∀ n, (wHD σ r n).2 = wdks (sW σ) (sH σ) (sA σ) n
  | 0 => rfl
  | n + 1 => by
    show wdk _ _ (n + 1) _ (wHD σ r n).2 = wdk _ _ (n + 1) _ _
    rw [wHD_2 σ r n]
theorem zXr.to {M M' : zMm} {pk dk : Nat} (h : zXr M pk dk) (e : M'.2.2.2 = M.2.2.2) : zXr M' pk dk := by
  unfold zXr zxw
  rw [e]
  exact h
theorem zwh.to {M M' : zMm} {w h : Nat} {ks : List Nat} (hw : zwh M w h) (hs : zsm ks M M') (h1 : 1 ∉ ks) : zwh M' w h := by
  unfold zwh
  rw [hs.2.2 1 h1]
  exact hw
def zc_X7_takeUp (a : List Value) (M : zMm) (K : zKt) : Prop := match a with
  | [.ref k, .ref yk, .int x] => k = 0 ∧ ∃ pk dk n H w h acts, zXr M pk dk ∧ zyk M yk ∧ x = nI n ∧ n ≤ 30 ∧ (∀ e, e < 120 → H e ≤ 200) ∧ (∀ i, i < 15 → M.2.2.1 (yk + 1) (n * 15 + i) = lN (wlg H i)) ∧ zwh M w h ∧ zpl M pk acts ∧ ∀ M', zsm [11, 12] M M' → zhg M' H → zdy M' (wdks w h acts n) → K none M'
  | _ => False
set_option maxHeartbeats 2000000 in
theorem zm_X7_takeUp (l : Launch) (D : va_G) (Y : Nat → ClassId) : zMt l D Y yX7_takeUp cX7_takeUp 4 none 2 47 0 0 zc_X7_takeUp := by
  refine zwhile (heads := [2, 41]) (by decide) (fun K J _ _ => zb_X7_takeUp_0 K J) (fun K _ _ J h => zB_X7_takeUp K J h) (fun X hR J hJ => zbs_X7_takeUp_0 hR J hJ) (fun X hR => zBs_X7_takeUp hR) (fun avs M K h => ?_)
  unfold zc_X7_takeUp at h
  split at h
  · next k yk x =>
    obtain ⟨rfl, pk, dk, n, H, w, h', acts, hxr, hyk, rfl, hn, hH, hlg, hwh, hpl, h⟩ := h
    obtain ⟨y0, y1⟩ := zyk_sh hyk.1
    refine ⟨by simp [zent], fun q h'' M' ls st => (h'' = 2 ∧ ∃ i, q = 1000 - i ∧ i ≤ 120 ∧ ls = [some (.ref 0), some (.ref yk), some (.int (nI n)), some (.int (nI i))] ∧ st = [] ∧ zsm [11, 12] M M' ∧ (∀ e, e < i → M'.2.1 11 e = nI (H e) ∧ M'.2.1 12 e = 0)) ∨
      (h'' = 41 ∧ ∃ m, q = 500 - m ∧ 1 ≤ m ∧ m ≤ n + 1 ∧ ls = [some (.ref 0), some (.ref yk), some (.int (nI n)), some (.int (nI m))] ∧ st = [] ∧ zsm [11, 12] M M' ∧ zhg M' H ∧ zdy M' (wdks w h' acts (m - 1))), ?_, ?_⟩
    · rintro q J hJ h'' - M' ls st (⟨rfl, i, rfl, hi, rfl, rfl, hs, hc⟩ | ⟨rfl, m, rfl, hm1, hm, rfl, rfl, hs, hhg, hdy⟩)
      · obtain ⟨a0, a1, a2, a3, a4, a5, a6, a7, a8, a9, a10, a11, a12, ⟨x0, x1, -⟩, -⟩ := hxr.to hs.R
        have hyk' : zyk M' yk := ⟨hyk.1, by rw [hs.R]; exact hyk.2⟩
        simp only [zB_X7_takeUp, zb_X7_takeUp_2, ↓reduceIte, zsh_0, zsh_10, zsh_11, zsh_12, y0, a3, x0, x1, zT_push, zT_bin, zT_div, zT_bil, zT_shl, zT_un, zT_i2l, zT_l2i, zT_lcmp, zT_ild, zT_lld, zT_ald, zT_ist, zT_lst, zT_ast, zT_iinc, zT_dup, zT_dup2, zT_pop, zT_if1, zT_if2, zT_ifn, zT_getI, zT_getJ, zT_getR, zT_putI, zT_putZ, zT_putJ, zT_putR, zT_ald0, zT_lald, zT_aald, zT_iast, zT_zast, zT_bast, zT_last, zT_aast, zT_iret, zT_nret, zT_aret, zT_vret, zT_oi, zT_mm, zT_ialX, zT_S1, zT_S2, zT_S3, zT_V0, zT_V1, zT_V2, zT_V3, zT_V4, zT_V5, zT_V6, zT_I0, zT_I1, zT_I2, zlg, zlset, zlpr, zent, zok, va_rf, List.length_cons, List.length_nil, List.replicate, List.cons_append, List.nil_append, List.append_nil, Option.toList_some, Option.toList_none, Option.toList, Nat.reduceAdd, Nat.reduceSub, Nat.reduceLeDiff, Nat.zero_add, Nat.zero_le, true_and, and_true, Nat.le_refl, ge_iff_le, Nat.reduceEqDiff]
        refine ⟨fun h1 => ?_, fun h1 => ?_⟩
        · have := zn_ge' (b := 120) h1 (by omega) (by omega)
          have e : i = 120 := by omega
          subst e
          exact hJ (500 - 1) (by omega) 41 (by simp) _ _ _ (Or.inr ⟨rfl, 1, rfl, Nat.le_refl _, by omega, rfl, rfl, hs, fun e he => ⟨(hc e he).1, hH e he⟩, fun e he => by rw [(hc e he).2]; rfl⟩)
        · have hlt := zn_ge (b := 120) h1 (by omega) (by omega)
          unfold zc_X6_heightOf
          dsimp only
          refine ⟨hyk', n, i, H, rfl, hn, rfl, hlt, hH, by rw [hs.J]; exact hlg, ?_⟩
          simp only [zsh_0, zsh_10, zsh_11, zsh_12, a3, x0, x1, zT_push, zT_bin, zT_div, zT_bil, zT_shl, zT_un, zT_i2l, zT_l2i, zT_lcmp, zT_ild, zT_lld, zT_ald, zT_ist, zT_lst, zT_ast, zT_iinc, zT_dup, zT_dup2, zT_pop, zT_if1, zT_if2, zT_ifn, zT_getI, zT_getJ, zT_getR, zT_putI, zT_putZ, zT_putJ, zT_putR, zT_ald0, zT_lald, zT_aald, zT_iast, zT_zast, zT_bast, zT_last, zT_aast, zT_iret, zT_nret, zT_aret, zT_vret, zT_oi, zT_mm, zT_ialX, zT_S1, zT_S2, zT_S3, zT_V0, zT_V1, zT_V2, zT_V3, zT_V4, zT_V5, zT_V6, zT_I0, zT_I1, zT_I2, zlg, zlset, zlpr, zent, zok, va_rf, List.length_cons, List.length_nil, List.replicate, List.cons_append, List.nil_append, List.append_nil, Option.toList_some, Option.toList_none, Option.toList, Nat.reduceAdd, Nat.reduceSub, Nat.reduceLeDiff, Nat.zero_add, Nat.zero_le, true_and, and_true, Nat.le_refl, ge_iff_le, Nat.reduceEqDiff, zwI_L, zwI_I, zwI_J, zwI_R, zwJ_L, zwJ_I, zwJ_J, zwJ_R, zwR_L, zwR_I, zwR_J, zwR_R, zw2_s, zw2_n, ne_eq, not_false_eq_true, reduceCtorEq, not_true_eq_false, Nat.reduceEqDiff]
          rw [nI_clamp (by omega)]
          refine ⟨vp_in_nI hlt (by decide), vp_in_nI hlt (by decide), by decide, hJ (1000 - (i + 1)) (by omega) 2 (by simp) _ _ _ (Or.inl ⟨rfl, i + 1, rfl, hlt, by rw [nI_1], rfl, (hs.w (by simp)).w (by simp), fun e he => ?_⟩)⟩
          simp only [zwI_L, zwI_I, zwI_J, zwI_R, zwJ_L, zwJ_I, zwJ_J, zwJ_R, zwR_L, zwR_I, zwR_J, zwR_R, zw2_s, zw2_n, ne_eq, not_false_eq_true, reduceCtorEq, not_true_eq_false, Nat.reduceEqDiff]
          by_cases q : e = i
          · subst q
            rw [zup_s, zup_s]
            exact ⟨rfl, rfl⟩
          · rw [zup_n q, zup_n q]
            exact hc e (by omega)
      · have hxr' := hxr.to hs.R
        obtain ⟨a0, a1, a2, a3, a4, a5, a6, a7, a8, a9, a10, a11, a12, hxw, -⟩ := hxr.to hs.R
        have hpl' := hpl.to hs (by simp)
        obtain ⟨p0, -⟩ := zpl_sh hpl.1
        simp only [zB_X7_takeUp, zb_X7_takeUp_41, ↓reduceIte, Nat.reduceEqDiff, zsh_0, a0, a3, a5, p0, zT_push, zT_bin, zT_div, zT_bil, zT_shl, zT_un, zT_i2l, zT_l2i, zT_lcmp, zT_ild, zT_lld, zT_ald, zT_ist, zT_lst, zT_ast, zT_iinc, zT_dup, zT_dup2, zT_pop, zT_if1, zT_if2, zT_ifn, zT_getI, zT_getJ, zT_getR, zT_putI, zT_putZ, zT_putJ, zT_putR, zT_ald0, zT_lald, zT_aald, zT_iast, zT_zast, zT_bast, zT_last, zT_aast, zT_iret, zT_nret, zT_aret, zT_vret, zT_oi, zT_mm, zT_ialX, zT_S1, zT_S2, zT_S3, zT_V0, zT_V1, zT_V2, zT_V3, zT_V4, zT_V5, zT_V6, zT_I0, zT_I1, zT_I2, zlg, zlset, zlpr, zent, zok, va_rf, List.length_cons, List.length_nil, List.replicate, List.cons_append, List.nil_append, List.append_nil, Option.toList_some, Option.toList_none, Option.toList, Nat.reduceAdd, Nat.reduceSub, Nat.reduceLeDiff, Nat.zero_add, Nat.zero_le, true_and, and_true, Nat.le_refl, ge_iff_le, Nat.reduceEqDiff]
        refine ⟨fun h1 => ?_, fun h1 => ?_⟩
        · have := (nI_ltI (by omega) (by omega)).mp h1
          have e : m = n + 1 := by omega
          subst e
          exact h M' hs hhg hdy
        · have hle : m ≤ n := by
            rcases Nat.lt_or_ge n m with q | q
            · exact absurd ((nI_ltI (by omega) (by omega)).mpr q) h1
            · exact q
          unfold zc_X2_dykesIn
          dsimp only
          refine ⟨rfl, rfl, hxw, m, w, h', acts, _, rfl, by omega, hwh.to hs (by simp), hpl', hdy, fun M2 hs2 hd2 => ?_⟩
          refine hJ (500 - (m + 1)) (by omega) 41 (by simp) _ _ _ (Or.inr ⟨rfl, m + 1, rfl, by omega, by omega, by rw [nI_1], rfl, hs.tr (hs2.up (by simp)), ?_, ?_⟩)
          · intro e he
            rw [hs2.2.2 11 (by simp)]
            exact hhg e he
          · obtain ⟨m', rfl⟩ : ∃ m', m = m' + 1 := ⟨m - 1, by omega⟩
            exact hd2
    · intro J hJ
      simp only [zb_X7_takeUp_0, zT_push, zT_bin, zT_div, zT_bil, zT_shl, zT_un, zT_i2l, zT_l2i, zT_lcmp, zT_ild, zT_lld, zT_ald, zT_ist, zT_lst, zT_ast, zT_iinc, zT_dup, zT_dup2, zT_pop, zT_if1, zT_if2, zT_ifn, zT_getI, zT_getJ, zT_getR, zT_putI, zT_putZ, zT_putJ, zT_putR, zT_ald0, zT_lald, zT_aald, zT_iast, zT_zast, zT_bast, zT_last, zT_aast, zT_iret, zT_nret, zT_aret, zT_vret, zT_oi, zT_mm, zT_ialX, zT_S1, zT_S2, zT_S3, zT_V0, zT_V1, zT_V2, zT_V3, zT_V4, zT_V5, zT_V6, zT_I0, zT_I1, zT_I2, zlg, zlset, zlpr, zent, zok, va_rf, List.length_cons, List.length_nil, List.replicate, List.cons_append, List.nil_append, List.append_nil, Option.toList_some, Option.toList_none, Option.toList, Nat.reduceAdd, Nat.reduceSub, Nat.reduceLeDiff, Nat.zero_add, Nat.zero_le, true_and, and_true, Nat.le_refl, ge_iff_le, Nat.reduceEqDiff]
      exact hJ 1000 2 (by simp) _ _ _ (Or.inl ⟨rfl, 0, rfl, by omega, rfl, rfl, zsm.rf, fun e he => absurd he (Nat.not_lt_zero _)⟩)
  · exact h.elim
def zc_X6_init (a : List Value) (M : zMm) (K : zKt) : Prop := match a with
  | [.ref yk] => (∃ r : Nat, r < 36 ∧ yk = 100 + 2 * r) ∧ yk + 1 ∉ M.1 ∧ ∀ M', M' = zwI (zwR (znw M (yk + 1)) yk 0 (some (yk + 1))) yk 1 (-1) → K none M'
  | _ => False
theorem zm_X6_init (l : Launch) (D : va_G) (Y : Nat → ClassId) : zMt l D Y yX6_init cX6_init 1 none 1 20 1 465 zc_X6_init := by
  refine zflat (by decide) (fun K J lc lz => zb_X6_init_0 K J lc lz) (fun X hR => zbs_X6_init_0 hR zJ0 zJ0_ok) (fun avs M K h => ?_)
  unfold zc_X6_init at h
  split at h
  · next yk =>
    obtain ⟨hyk, hnl, h⟩ := h
    obtain ⟨y0, y1⟩ := zyk_sh hyk
    obtain ⟨r, hr, rfl⟩ := hyk
    refine ⟨by simp [zent], ?_⟩
    simp only [zb_X6_init_0, zT_newa, zT_push, zT_bin, zT_div, zT_bil, zT_shl, zT_un, zT_i2l, zT_l2i, zT_lcmp, zT_ild, zT_lld, zT_ald, zT_ist, zT_lst, zT_ast, zT_iinc, zT_dup, zT_dup2, zT_pop, zT_if1, zT_if2, zT_ifn, zT_getI, zT_getJ, zT_getR, zT_putI, zT_putZ, zT_putJ, zT_putR, zT_ald0, zT_lald, zT_aald, zT_iast, zT_zast, zT_bast, zT_last, zT_aast, zT_iret, zT_nret, zT_aret, zT_vret, zT_oi, zT_mm, zT_ialX, zT_S1, zT_S2, zT_S3, zT_V0, zT_V1, zT_V2, zT_V3, zT_V4, zT_V5, zT_V6, zT_I0, zT_I1, zT_I2, zlg, zlset, zlpr, zent, zok, va_rf, List.length_cons, List.length_nil, List.replicate, List.cons_append, List.nil_append, List.append_nil, Option.toList_some, Option.toList_none, Option.toList, Nat.reduceAdd, Nat.reduceSub, Nat.reduceLeDiff, Nat.zero_add, Nat.zero_le, true_and, and_true, Nat.le_refl, ge_iff_le, Nat.reduceEqDiff]
    have h465 : (465 : Int32).toNatClampNeg = 465 := by decide
    refine ⟨100 + 2 * r + 1, hnl, y1, by decide, by decide, ?_, y0, ?_, y0, h _ rfl⟩
    · rw [h465]
      exact Nat.le_refl _
    · exact (by omega : (100 + 2 * r + 1 : Nat) < 2000)
  · exact h.elim
end
section
/-! DeltaRuns startedYears -/
theorem zd_X7_startedYears_0 : decode cX7_startedYears 0 = .ok (.aload_n 0, 1) := by decide +kernel
theorem zd_X7_startedYears_1 : decode cX7_startedYears 1 = .ok (.getfield 39, 3) := by decide +kernel
theorem zd_X7_startedYears_4 : decode cX7_startedYears 4 = .ok (.iload_n 1, 1) := by decide +kernel
theorem zd_X7_startedYears_5 : decode cX7_startedYears 5 = .ok (.aaload, 1) := by decide +kernel
theorem zd_X7_startedYears_6 : decode cX7_startedYears 6 = .ok (.astore_n 2, 1) := by decide +kernel
theorem zd_X7_startedYears_7 : decode cX7_startedYears 7 = .ok (.aload_n 2, 1) := by decide +kernel
theorem zd_X7_startedYears_8 : decode cX7_startedYears 8 = .ok (.ifnonnull 18, 3) := by decide +kernel
theorem zd_X7_startedYears_11 : decode cX7_startedYears 11 = .ok (.new 37, 3) := by decide +kernel
theorem zd_X7_startedYears_14 : decode cX7_startedYears 14 = .ok (.dup, 1) := by decide +kernel
theorem zd_X7_startedYears_15 : decode cX7_startedYears 15 = .ok (.invokespecial 199, 3) := by decide +kernel
theorem zd_X7_startedYears_18 : decode cX7_startedYears 18 = .ok (.astore_n 2, 1) := by decide +kernel
theorem zd_X7_startedYears_19 : decode cX7_startedYears 19 = .ok (.aload_n 0, 1) := by decide +kernel
theorem zd_X7_startedYears_20 : decode cX7_startedYears 20 = .ok (.getfield 39, 3) := by decide +kernel
theorem zd_X7_startedYears_23 : decode cX7_startedYears 23 = .ok (.iload_n 1, 1) := by decide +kernel
theorem zd_X7_startedYears_24 : decode cX7_startedYears 24 = .ok (.aload_n 2, 1) := by decide +kernel
theorem zd_X7_startedYears_25 : decode cX7_startedYears 25 = .ok (.aastore, 1) := by decide +kernel
theorem zd_X7_startedYears_26 : decode cX7_startedYears 26 = .ok (.aload_n 2, 1) := by decide +kernel
theorem zd_X7_startedYears_27 : decode cX7_startedYears 27 = .ok (.getfield 177, 3) := by decide +kernel
theorem zd_X7_startedYears_30 : decode cX7_startedYears 30 = .ok (.ifCond .ge 15, 3) := by decide +kernel
theorem zd_X7_startedYears_33 : decode cX7_startedYears 33 = .ok (.aload_n 2, 1) := by decide +kernel
theorem zd_X7_startedYears_34 : decode cX7_startedYears 34 = .ok (.iconst 0, 1) := by decide +kernel
theorem zd_X7_startedYears_35 : decode cX7_startedYears 35 = .ok (.aload_n 0, 1) := by decide +kernel
theorem zd_X7_startedYears_36 : decode cX7_startedYears 36 = .ok (.getfield 10, 3) := by decide +kernel
theorem zd_X7_startedYears_39 : decode cX7_startedYears 39 = .ok (.getfield 171, 3) := by decide +kernel
theorem zd_X7_startedYears_42 : decode cX7_startedYears 42 = .ok (.invokevirtual 195, 3) := by decide +kernel
theorem zd_X7_startedYears_45 : decode cX7_startedYears 45 = .ok (.aload_n 2, 1) := by decide +kernel
theorem zd_X7_startedYears_46 : decode cX7_startedYears 46 = .ok (.areturn, 1) := by decide +kernel
def zb_X7_startedYears_45 (K : zKt) (J : Nat → zPP) (lc lz : Nat) : zPP := zT_ald 2 (zT_aret K)
theorem zbs_X7_startedYears_45 {X : zCt} (hR : zRX X = { frames := 2, cells := 2, slots := 467, locals := 40 }) (J : Nat → zPP) (hJ : ∀ h ∈ ([] : List Nat), zSd X RX7 "startedYears" cX7_startedYears 3 (some (.object "DeltaRuns$Years")) h (J h)) : zSd X RX7 "startedYears" cX7_startedYears 3 (some (.object "DeltaRuns$Years")) 45 (zb_X7_startedYears_45 (zKX X) J (zlc X) (zls X)) := zs_aload_n zd_X7_startedYears_45 rfl (zs_aret rfl zd_X7_startedYears_46)
def zb_X7_startedYears_26 (K : zKt) (J : Nat → zPP) (lc lz : Nat) : zPP := zT_ald 2 (zT_getI 6 1 2 (zT_if1 (fun x => 0 ≤ x) (zb_X7_startedYears_45 K J lc lz) (zT_ald 2 (zT_push (.int 0) (zT_ald 0 (zT_getR 7 0 9 (zT_getR 1 0 6 (zT_V2 zok 6 2 zc_X6_keep (zb_X7_startedYears_45 K J lc lz)))))))))
theorem zbs_X7_startedYears_26 {X : zCt} (hR : zRX X = { frames := 2, cells := 2, slots := 467, locals := 40 }) (J : Nat → zPP) (hJ : ∀ h ∈ ([] : List Nat), zSd X RX7 "startedYears" cX7_startedYears 3 (some (.object "DeltaRuns$Years")) h (J h)) : zSd X RX7 "startedYears" cX7_startedYears 3 (some (.object "DeltaRuns$Years")) 26 (zb_X7_startedYears_26 (zKX X) J (zlc X) (zls X)) := zs_aload_n zd_X7_startedYears_26 rfl (zs_getI (ci := 6) (j := 1) (T := TX6) rfl inX6 (by decide) gw_2_172 rfl zd_X7_startedYears_27 (zs_if_ge (tgt := 45) zd_X7_startedYears_30 (by decide) (zbs_X7_startedYears_45 hR J hJ) (zs_aload_n zd_X7_startedYears_33 rfl (zs_iconst zd_X7_startedYears_34 (by decide) (zs_aload_n zd_X7_startedYears_35 rfl (zs_getR (ci := 7) (j := 0) (T := TX7) rfl inX7 (by decide) gw_1_185 rfl zd_X7_startedYears_36 (zs_getR (ci := 1) (j := 0) (T := TX1) rfl inX1 (by decide) gw_1_34 rfl zd_X7_startedYears_39 (zs_V (ci := 6) rfl rfl (zm_X6_keep _ _ _) gw_2_182 gw_2_179 gw_2_180 gw_2_181 gw_1_14 zdn_X6_keep (zrm hR (by decide) (by decide)) zd_X7_startedYears_42 (zCl_V2 zok_l) (zbs_X7_startedYears_45 hR J hJ)))))))))
def zb_X7_startedYears_0 (K : zKt) (J : Nat → zPP) (lc lz : Nat) : zPP := zT_ald 0 (zT_getR 7 4 9 (zT_ild 1 (zT_aald (zT_ast 2 (zT_ald 2 (zT_ifn (zT_new 6 2 lc lz (zT_dup (zT_I0 (zlm 1 465 lc lz) zc_X6_init (zT_ast 2 (zT_ald 0 (zT_getR 7 4 9 (zT_ild 1 (zT_ald 2 (zT_aast (zb_X7_startedYears_26 K J lc lz)))))))))) (zb_X7_startedYears_26 K J lc lz)))))))
theorem zbs_X7_startedYears_0 {X : zCt} (hR : zRX X = { frames := 2, cells := 2, slots := 467, locals := 40 }) (J : Nat → zPP) (hJ : ∀ h ∈ ([] : List Nat), zSd X RX7 "startedYears" cX7_startedYears 3 (some (.object "DeltaRuns$Years")) h (J h)) : zSd X RX7 "startedYears" cX7_startedYears 3 (some (.object "DeltaRuns$Years")) 0 (zb_X7_startedYears_0 (zKX X) J (zlc X) (zls X)) := zs_aload_n zd_X7_startedYears_0 rfl (zs_getR (ci := 7) (j := 4) (T := TX7) rfl inX7 (by decide) gw_1_189 rfl zd_X7_startedYears_1 (zs_iload_n zd_X7_startedYears_4 rfl (zs_aald zd_X7_startedYears_5 (zs_astore_n zd_X7_startedYears_6 rfl (by decide) (zs_aload_n zd_X7_startedYears_7 rfl (zs_ifnonnull (tgt := 26) zd_X7_startedYears_8 (by decide) (zbs_X7_startedYears_26 hR J hJ) (zs_new (ci := 6) (T := TX6) rfl inX6 tyX6_ok gw_1_151 gw_2_165 gw_1_14 (by decide) rfl rfl zd_X7_startedYears_11 (zs_dup zd_X7_startedYears_14 (zs_IN rfl (zm_X6_init _ _ _) gw_2_168 (List.mem_of_getElem? (i := 6) rfl) gw_2_167 gw_1_14 zdn_X6_init (zrm hR (by decide) (by decide)) zd_X7_startedYears_15 (zCl_I0 zlm_l) (zs_astore_n zd_X7_startedYears_18 rfl (by decide) (zs_aload_n zd_X7_startedYears_19 rfl (zs_getR (ci := 7) (j := 4) (T := TX7) rfl inX7 (by decide) gw_1_189 rfl zd_X7_startedYears_20 (zs_iload_n zd_X7_startedYears_23 rfl (zs_aload_n zd_X7_startedYears_24 rfl (zs_aast zd_X7_startedYears_25 (zbs_X7_startedYears_26 hR J hJ))))))))))))))))
theorem zdn_X7_startedYears : yX7_startedYears.cls ≠ "java/lang/invoke/MethodHandle" ∧ yX7_startedYears.cls ≠ "java/lang/invoke/VarHandle" ∧ (parseMethodDescriptor yX7_startedYears.desc).map (fun d => d.parameters.length) = some 1 := by decide +kernel
/-! RUNS: what a run of a rule may change -/
def zrn (M M' : zMm) (r : Nat) : Prop :=
  ((M'.1 = M.1 ∧ M'.2.2.2 = M.2.2.2) ∨ (M.2.2.2 20 r = none ∧ M'.1 = M.1 ++ [zyi r, zyi r + 1] ∧ M'.2.2.2 20 r = some (zyi r) ∧ M'.2.2.2 (zyi r) 0 = some (zyi r + 1) ∧ ∀ k j, k ≠ zyi r → k ≠ zyi r + 1 → (k ≠ 20 ∨ j ≠ r) → M'.2.2.2 k j = M.2.2.2 k j)) ∧
  (∀ k, (k < 10 ∨ 20 ≤ k) → k ≠ zyi r → k ≠ zyi r + 1 → M'.2.1 k = M.2.1 k) ∧ (∀ k, k ≠ zyi r → k ≠ zyi r + 1 → M'.2.2.1 k = M.2.2.1 k)
theorem zrn.rf {M : zMm} {r : Nat} : zrn M M r := ⟨Or.inl ⟨rfl, rfl⟩, fun _ _ _ _ => rfl, fun _ _ _ => rfl⟩
theorem zrn.tr {M M' M'' : zMm} {r : Nat} (h : zrn M M' r) (h' : zrn M' M'' r) : zrn M M'' r := by
  obtain ⟨a1, a2, a3⟩ := h
  obtain ⟨b1, b2, b3⟩ := h'
  refine ⟨?_, fun k c1 c2 c3 => (b2 k c1 c2 c3).trans (a2 k c1 c2 c3), fun k c1 c2 => (b3 k c1 c2).trans (a3 k c1 c2)⟩
  rcases a1 with ⟨p1, p2⟩ | ⟨p1, p2, p3, p4, p5⟩
  · rcases b1 with ⟨q1, q2⟩ | ⟨q1, q2, q3, q4, q5⟩
    · exact Or.inl ⟨q1.trans p1, q2.trans p2⟩
    · exact Or.inr ⟨by rw [← p2]; exact q1, by rw [q2, p1], q3, q4, fun k j c1 c2 c3 => by rw [q5 k j c1 c2 c3, p2]⟩
  · rcases b1 with ⟨q1, q2⟩ | ⟨q1, -⟩
    · exact Or.inr ⟨p1, q1.trans p2, by rw [q2]; exact p3, by rw [q2]; exact p4, fun k j c1 c2 c3 => by rw [q2]; exact p5 k j c1 c2 c3⟩
    · rw [p3] at q1; cases q1
theorem zrn.len {M M' : zMm} {r : Nat} (h : zrn M M' r) : M.1.length ≤ M'.1.length ∧ M'.1.length ≤ M.1.length + 2 := by
  rcases h.1 with ⟨p1, -⟩ | ⟨-, p2, -⟩
  · rw [p1]; omega
  · rw [p2]; simp
theorem zrn.ref {M M' : zMm} {r : Nat} (h : zrn M M' r) {k j : Nat} (hk : k < 100) (hj : k ≠ 20 ∨ j ≠ r) : M'.2.2.2 k j = M.2.2.2 k j := by
  rcases h.1 with ⟨-, p2⟩ | ⟨-, -, -, -, p5⟩
  · rw [p2]
  · exact p5 k j (by unfold zyi; omega) (by unfold zyi; omega) hj
theorem zrn.row {M M' : zMm} {r k : Nat} (h : zrn M M' r) (hk : k < 10 ∨ (20 ≤ k ∧ k < 100)) : M'.2.1 k = M.2.1 k := h.2.1 k (by omega) (by unfold zyi; omega) (by unfold zyi; omega)
theorem zXr.run {M M' : zMm} {pk dk r : Nat} (h : zXr M pk dk) (hn : zrn M M' r) : zXr M' pk dk := by
  have e : ∀ {k j : Nat}, k < 20 → M'.2.2.2 k j = M.2.2.2 k j := fun hk => hn.ref (by omega) (Or.inl (by omega))
  have e2 : ∀ {j : Nat}, M'.2.2.2 21 j = M.2.2.2 21 j := hn.ref (by omega) (Or.inl (by omega))
  have e3 : ∀ {j : Nat}, M'.2.2.2 27 j = M.2.2.2 27 j := hn.ref (by omega) (Or.inl (by omega))
  unfold zXr zxw
  simp only [e (k := 0) (by decide), e (k := 1) (by decide), e (k := 3) (by decide), e (k := 5) (by decide), e (k := 10) (by decide), e2, e3]
  exact h
theorem zpl.run {M M' : zMm} {pk r : Nat} {acts : List wAc} (h : zpl M pk acts) (hn : zrn M M' r) : zpl M' pk acts := by
  obtain ⟨h1, h2⟩ := h
  have e : ∀ {k : Nat}, k < 6 → M'.2.1 (pk + k) = M.2.1 (pk + k) := fun hk => hn.row (by omega)
  have e0 : M'.2.1 pk = M.2.1 pk := hn.row (by omega)
  have er : ∀ {j : Nat}, M'.2.2.2 pk j = M.2.2.2 pk j := hn.ref (by omega) (Or.inl (by omega))
  refine ⟨h1, ?_⟩
  simp only [er, e0, e (k := 1) (by decide), e (k := 2) (by decide), e (k := 3) (by decide), e (k := 4) (by decide), e (k := 5) (by decide)]
  exact h2
theorem zyi_ne {r r' : Nat} (h : r' ≠ r) : zyi r' ≠ zyi r ∧ zyi r' ≠ zyi r + 1 ∧ zyi r' + 1 ≠ zyi r ∧ zyi r' + 1 ≠ zyi r + 1 := by
  unfold zyi
  omega
theorem zXI.run {M M' : zMm} {σ : wSP} {pk dk p r : Nat} (h : zXI M σ pk dk p) (hr : r < 36) (hn : zrn M M' r) (hw : ∃ S : wST, zwt M' S.1 S.2 ∧ wwf S)
    (hy : M'.2.2.2 20 r = some (zyi r) ∧ M'.2.2.2 (zyi r) 0 = some (zyi r + 1) ∧ (M'.2.1 (zyi r) 1 = -1 ∨ ∃ m, m ≤ 30 ∧ M'.2.1 (zyi r) 1 = nI m ∧ zys M' (zyi r) m (fun n => (wHD σ r n).1))) : zXI M' σ pk dk p := by
  obtain ⟨h1, h2, h3, h4, h5, h6, h7, h8, h9, -, h11, h12⟩ := h
  have e1 : M'.2.1 1 = M.2.1 1 := hn.row (by omega)
  have e2 : M'.2.1 2 = M.2.1 2 := hn.row (by omega)
  have e20 : ∀ r', r' ≠ r → M'.2.2.2 20 r' = M.2.2.2 20 r' := fun r' hr' => hn.ref (by omega) (Or.inr hr')
  refine ⟨h1.run hn, h2, by rw [e1]; exact h3, by rw [e1]; exact h4, by rw [e1]; exact h5, by rw [e1]; exact h6, by rw [e1]; exact h7, by rw [e2]; exact h8, h9.run hn, hw, fun r' hr' => ?_, ?_⟩
  · by_cases e : r' = r
    · subst e
      exact Or.inr hy
    · obtain ⟨n1, n2, n3, n4⟩ := zyi_ne e
      rcases h11 r' hr' with ⟨a1, a2, a3⟩ | ⟨a1, a2, a3⟩
      · refine Or.inl ⟨by rw [e20 r' e]; exact a1, ?_, ?_⟩
        · rcases hn.1 with ⟨p1, -⟩ | ⟨-, p2, -⟩
          · rw [p1]; exact a2
          · rw [p2, List.mem_append]
            rintro (z | z)
            · exact a2 z
            · simp at z; omega
        · rcases hn.1 with ⟨p1, -⟩ | ⟨-, p2, -⟩
          · rw [p1]; exact a3
          · rw [p2, List.mem_append]
            rintro (z | z)
            · exact a3 z
            · simp at z; omega
      · refine Or.inr ⟨by rw [e20 r' e]; exact a1, ?_, ?_⟩
        · rcases hn.1 with ⟨-, p2⟩ | ⟨-, -, -, -, p5⟩
          · rw [p2]; exact a2
          · rw [p5 _ _ n1 n2 (Or.inl (by unfold zyi; omega))]; exact a2
        · rw [hn.2.1 (zyi r') (by unfold zyi; omega) n1 n2]
          rcases a3 with a3 | ⟨m, m1, m2, m3⟩
          · exact Or.inl a3
          · refine Or.inr ⟨m, m1, m2, fun n hnn i hi => ?_⟩
            rw [hn.2.2 (zyi r' + 1) n3 n4]
            exact m3 n hnn i hi
  · obtain ⟨l1, l2, l3⟩ := h12
    rcases hn.1 with ⟨p1, p2⟩ | ⟨p1, p2, p3, p4, p5⟩
    · have : zlv M' = zlv M := by unfold zlv; rw [p2]
      unfold zLL
      rw [this, p1]
      exact ⟨l1, l2, l3⟩
    · have hc : wct (zlv M') 36 = wct (zlv M) 36 + 1 := wct_up hr (by unfold zlv; rw [p1]; rfl) (fun i hi => by
        by_cases e : i = r
        · subst e
          unfold zlv
          rw [p3, if_pos rfl]
          rfl
        · rw [if_neg e]
          unfold zlv
          rw [e20 i e])
      obtain ⟨y0, y1⟩ := zyk_sh (yk := zyi r) ⟨r, hr, rfl⟩
      have z0 : zsz (zyi r) = 2 := zsz_obj y0
      have z1 : zsz (zyi r + 1) = 465 := by unfold zsz; rw [y1]; rfl
      refine ⟨?_, ?_, fun k hk h5 => ?_⟩
      · rw [p2, hc, List.length_append, l1]
        simp
        omega
      · rw [p2, hc]
        have : zss (M.1 ++ [zyi r, zyi r + 1]) = zss M.1 + 467 := by
          unfold zss
          rw [List.map_append, List.sum_append]
          simp [z0, z1]
        rw [this, l2]
        omega
      · rw [p2, List.mem_append] at hk
        rcases hk with hk | hk
        · exact l3 k hk h5
        · simp at hk
          unfold zyi at hk
          omega
def zc_X7_startedYears (a : List Value) (M : zMm) (K : zKt) : Prop := match a with
  | [.ref k, .int x] => k = 0 ∧ ∃ r σ pk dk p, x = nI r ∧ r < 36 ∧ zXI M σ pk dk p ∧ ∀ M' m, zrn M M' r → zXI M' σ pk dk p → (∀ k, 10 ≤ k → k < 20 → M'.2.1 k = M.2.1 k) → M'.2.2.2 20 r = some (zyi r) → M'.2.2.2 (zyi r) 0 = some (zyi r + 1) → m ≤ 30 → M'.2.1 (zyi r) 1 = nI m → zys M' (zyi r) m (fun n => (wHD σ r n).1) → K (some (.ref (zyi r))) M'
  | _ => False
set_option maxHeartbeats 2000000 in
theorem zm_X7_startedYears (l : Launch) (D : va_G) (Y : Nat → ClassId) : zMt l D Y yX7_startedYears cX7_startedYears 3 (some (.object "DeltaRuns$Years")) 2 40 2 467 zc_X7_startedYears := by
  refine zflat (by decide) (fun K J lc lz => zb_X7_startedYears_0 K J lc lz) (fun X hR => zbs_X7_startedYears_0 hR zJ0 zJ0_ok) (fun avs M K h => ?_)
  unfold zc_X7_startedYears at h
  split at h
  · next k x =>
    obtain ⟨rfl, r, σ, pk, dk, p, rfl, hr, hxi, h⟩ := h
    have hXI := hxi
    obtain ⟨hxr, hok, w1, w2, w3, w4, w5, hg, hpl, ⟨S, hS1, hS2⟩, hYS, hLL⟩ := hxi
    obtain ⟨a0, a1, a2, a3, a4, -⟩ := hxr
    obtain ⟨y0, y1⟩ := zyk_sh (yk := zyi r) ⟨r, hr, rfl⟩
    have hrne : zyi r = 100 + 2 * r := rfl
    refine ⟨by simp [zent], ?_⟩
    -- from the join on: the object is there
    have wtk : ∀ M1, (∀ k, 10 ≤ k → k < 20 → M1.2.1 k = M.2.1 k) → zwt M1 S.1 S.2 := by
      intro M1 h1
      unfold zwt
      rw [h1 13 (by decide) (by decide), h1 15 (by decide) (by decide), h1 10 (by decide) (by decide)]
      exact hS1
    have join : ∀ M1, zrn M M1 r → (∀ k, 10 ≤ k → k < 20 → M1.2.1 k = M.2.1 k) → M1.2.2.2 20 r = some (zyi r) → M1.2.2.2 (zyi r) 0 = some (zyi r + 1) → (M1.2.1 (zyi r) 1 = -1 ∨ ∃ m, m ≤ 30 ∧ M1.2.1 (zyi r) 1 = nI m ∧ zys M1 (zyi r) m (fun n => (wHD σ r n).1)) → zb_X7_startedYears_26 K zJ0 (M.1.length + 2) (zss M.1 + 467) M1 [some (.ref 0), some (.int (nI r)), some (.ref (zyi r))] [] := by
      intro M1 hn hw hr1 hr2 hlat
      have hxi1 := hXI.run hr hn ⟨S, wtk M1 hw, hS2⟩ ⟨hr1, hr2, hlat⟩
      obtain ⟨b0, -, -, -, -, -, -, b7, -⟩ := hxi1.1
      have e2 : M1.2.1 2 = M.2.1 2 := hn.row (by omega)
      simp only [zb_X7_startedYears_26, zb_X7_startedYears_45, y0, zsh_0, zsh_1, b0, b7, zT_push, zT_bin, zT_div, zT_bil, zT_shl, zT_un, zT_i2l, zT_l2i, zT_lcmp, zT_ild, zT_lld, zT_ald, zT_ist, zT_lst, zT_ast, zT_iinc, zT_dup, zT_dup2, zT_pop, zT_if1, zT_if2, zT_ifn, zT_getI, zT_getJ, zT_getR, zT_putI, zT_putZ, zT_putJ, zT_putR, zT_ald0, zT_lald, zT_aald, zT_iast, zT_zast, zT_bast, zT_last, zT_aast, zT_iret, zT_nret, zT_aret, zT_vret, zT_oi, zT_mm, zT_ialX, zT_S1, zT_S2, zT_S3, zT_V0, zT_V1, zT_V2, zT_V3, zT_V4, zT_V5, zT_V6, zT_I0, zT_I1, zT_I2, zlg, zlset, zlpr, zent, zok, va_rf, List.length_cons, List.length_nil, List.replicate, List.cons_append, List.nil_append, List.append_nil, Option.toList_some, Option.toList_none, Option.toList, Nat.reduceAdd, Nat.reduceSub, Nat.reduceLeDiff, Nat.zero_add, Nat.zero_le, true_and, and_true, Nat.le_refl, ge_iff_le, Nat.reduceEqDiff]
      refine ⟨fun h1 => ?_, fun h1 => ?_⟩
      · rcases hlat with hl | ⟨m, m1, m2, m3⟩
        · rw [hl] at h1; exact absurd h1 (by decide)
        · exact h M1 m hn hxi1 hw hr1 hr2 m1 m2 m3
      · have hl : M1.2.1 (zyi r) 1 = -1 := by
          rcases hlat with hl | ⟨m, m1, m2, m3⟩
          · exact hl
          · rw [m2] at h1; exact absurd (nI_pos' (by omega)) h1
        unfold zc_X6_keep
        dsimp only
        refine ⟨⟨⟨r, hr, rfl⟩, hr2⟩, Or.inl rfl, 0, sG σ, rfl, by decide, fun e he => ⟨by rw [e2]; exact hg e he, hok.2.2.2.2.2.2.2.2 e⟩, fun M2 c1 c2 c3 c4 c5 c6 c7 => ?_⟩
        have hn2 : zrn M M2 r := hn.tr ⟨Or.inl ⟨c1, c2⟩, fun k q1 q2 q3 => c6 k q2, fun k q1 q2 => c3 k q2⟩
        have hw2 : ∀ k, 10 ≤ k → k < 20 → M2.2.1 k = M.2.1 k := fun k q1 q2 => by rw [c6 k (by omega)]; exact hw k q1 q2
        have hz2 : zys M2 (zyi r) 0 (fun n => (wHD σ r n).1) := fun n hn0 i hi => by
          have : n = 0 := by omega
          subst this
          exact c5 i hi
        have hr12 : M2.2.2.2 20 r = some (zyi r) := by rw [c2]; exact hr1
        have hr22 : M2.2.2.2 (zyi r) 0 = some (zyi r + 1) := by rw [c2]; exact hr2
        have hxi2 := hXI.run hr hn2 ⟨S, wtk M2 hw2, hS2⟩ ⟨hr12, hr22, Or.inr ⟨0, by decide, c7, hz2⟩⟩
        exact h M2 0 hn2 hxi2 hw2 hr12 hr22 (by decide) c7 hz2
    simp only [zb_X7_startedYears_0, zT_new, zsh_0, zsh_20, a4, zT_push, zT_bin, zT_div, zT_bil, zT_shl, zT_un, zT_i2l, zT_l2i, zT_lcmp, zT_ild, zT_lld, zT_ald, zT_ist, zT_lst, zT_ast, zT_iinc, zT_dup, zT_dup2, zT_pop, zT_if1, zT_if2, zT_ifn, zT_getI, zT_getJ, zT_getR, zT_putI, zT_putZ, zT_putJ, zT_putR, zT_ald0, zT_lald, zT_aald, zT_iast, zT_zast, zT_bast, zT_last, zT_aast, zT_iret, zT_nret, zT_aret, zT_vret, zT_oi, zT_mm, zT_ialX, zT_S1, zT_S2, zT_S3, zT_V0, zT_V1, zT_V2, zT_V3, zT_V4, zT_V5, zT_V6, zT_I0, zT_I1, zT_I2, zlg, zlset, zlpr, zent, zok, va_rf, List.length_cons, List.length_nil, List.replicate, List.cons_append, List.nil_append, List.append_nil, Option.toList_some, Option.toList_none, Option.toList, Nat.reduceAdd, Nat.reduceSub, Nat.reduceLeDiff, Nat.zero_add, Nat.zero_le, true_and, and_true, Nat.le_refl, ge_iff_le, Nat.reduceEqDiff]
    rw [nI_clamp (by omega)]
    refine ⟨vp_in_nI hr (by decide), ?_⟩
    rcases hYS r hr with ⟨q1, q2, q3⟩ | ⟨q1, q2, q3⟩
    · rw [q1]
      dsimp only
      refine ⟨zyi r, q2, y0, by omega, by omega, ⟨by simp [znw], ?_⟩, by decide, ?_⟩
      · show zss (M.1 ++ [zyi r]) + 465 ≤ _
        rw [zss_app, zsz_obj y0]
        omega
      · unfold zc_X6_init
        dsimp only
        refine ⟨⟨r, hr, rfl⟩, ?_, fun M1 hM1 => ?_⟩
        · show zyi r + 1 ∉ M.1 ++ [zyi r]
          rw [List.mem_append]
          rintro (z | z)
          · exact q3 z
          · simp at z
        · have rr : ∀ k j, k ≠ zyi r → k ≠ zyi r + 1 → M1.2.2.2 k j = M.2.2.2 k j := by
            intro k j c1 c2
            rw [hM1]
            show zw2 (zrw (zrw M.2.2.2 (zyi r) none) (zyi r + 1) none) (zyi r) 0 (some (zyi r + 1)) k j = _
            rw [zw2_n c1, zrw_n c2, zrw_n c1]
          have ri : ∀ k, k ≠ zyi r → k ≠ zyi r + 1 → M1.2.1 k = M.2.1 k := by
            intro k c1 c2
            rw [hM1]
            show zw2 (zrw (zrw M.2.1 (zyi r) 0) (zyi r + 1) 0) (zyi r) 1 (-1) k = _
            rw [zw2_n c1, zrw_n c2, zrw_n c1]
          have rj : ∀ k, k ≠ zyi r → k ≠ zyi r + 1 → M1.2.2.1 k = M.2.2.1 k := by
            intro k c1 c2
            rw [hM1]
            show zrw (zrw M.2.2.1 (zyi r) 0) (zyi r + 1) 0 k = _
            rw [zrw_n c2, zrw_n c1]
          have rL : M1.1 = M.1 ++ [zyi r, zyi r + 1] := by
            rw [hM1]
            show (M.1 ++ [zyi r]) ++ [zyi r + 1] = _
            rw [List.append_assoc]
            rfl
          have r0 : M1.2.2.2 (zyi r) 0 = some (zyi r + 1) := by
            rw [hM1]
            show zw2 (zrw (zrw M.2.2.2 (zyi r) none) (zyi r + 1) none) (zyi r) 0 (some (zyi r + 1)) (zyi r) 0 = _
            rw [zw2_s, zup_s]
          have rl : M1.2.1 (zyi r) 1 = -1 := by
            rw [hM1]
            show zw2 (zrw (zrw M.2.1 (zyi r) 0) (zyi r + 1) 0) (zyi r) 1 (-1) (zyi r) 1 = _
            rw [zw2_s, zup_s]
          have a4' : M1.2.2.2 0 4 = some 20 := by rw [rr 0 4 (by omega) (by omega)]; exact a4
          clear hM1
          simp only [zsh_0, zsh_20, a4', y0, zT_push, zT_bin, zT_div, zT_bil, zT_shl, zT_un, zT_i2l, zT_l2i, zT_lcmp, zT_ild, zT_lld, zT_ald, zT_ist, zT_lst, zT_ast, zT_iinc, zT_dup, zT_dup2, zT_pop, zT_if1, zT_if2, zT_ifn, zT_getI, zT_getJ, zT_getR, zT_putI, zT_putZ, zT_putJ, zT_putR, zT_ald0, zT_lald, zT_aald, zT_iast, zT_zast, zT_bast, zT_last, zT_aast, zT_iret, zT_nret, zT_aret, zT_vret, zT_oi, zT_mm, zT_ialX, zT_S1, zT_S2, zT_S3, zT_V0, zT_V1, zT_V2, zT_V3, zT_V4, zT_V5, zT_V6, zT_I0, zT_I1, zT_I2, zlg, zlset, zlpr, zent, zok, va_rf, List.length_cons, List.length_nil, List.replicate, List.cons_append, List.nil_append, List.append_nil, Option.toList_some, Option.toList_none, Option.toList, Nat.reduceAdd, Nat.reduceSub, Nat.reduceLeDiff, Nat.zero_add, Nat.zero_le, true_and, and_true, Nat.le_refl, ge_iff_le, Nat.reduceEqDiff]
          rw [nI_clamp (by omega)]
          refine ⟨vp_in_nI hr (by decide), join _ ⟨Or.inr ⟨q1, rL, ?_, ?_, fun k j c1 c2 c3 => ?_⟩, fun k c1 c2 c3 => ri k c2 c3, fun k c1 c2 => rj k c1 c2⟩ (fun k c1 c2 => ri k (by omega) (by omega)) ?_ ?_ (Or.inl rl)⟩
          · simp only [zwI_L, zwI_I, zwI_J, zwI_R, zwJ_L, zwJ_I, zwJ_J, zwJ_R, zwR_L, zwR_I, zwR_J, zwR_R, zw2_s, zw2_n, ne_eq, not_false_eq_true, reduceCtorEq, not_true_eq_false, Nat.reduceEqDiff]; rw [zup_s]
          · simp only [zwI_L, zwI_I, zwI_J, zwI_R, zwJ_L, zwJ_I, zwJ_J, zwJ_R, zwR_L, zwR_I, zwR_J, zwR_R, zw2_s, zw2_n, ne_eq, not_false_eq_true, reduceCtorEq, not_true_eq_false, Nat.reduceEqDiff]
            rw [zw2_n (by omega)]; exact r0
          · simp only [zwI_L, zwI_I, zwI_J, zwI_R, zwJ_L, zwJ_I, zwJ_J, zwJ_R, zwR_L, zwR_I, zwR_J, zwR_R, zw2_s, zw2_n, ne_eq, not_false_eq_true, reduceCtorEq, not_true_eq_false, Nat.reduceEqDiff]
            by_cases e : k = 20
            · subst e
              rw [zw2_s, zup_n (by omega)]
              exact rr 20 j c1 c2
            · rw [zw2_n e]
              exact rr k j c1 c2
          · simp only [zwI_L, zwI_I, zwI_J, zwI_R, zwJ_L, zwJ_I, zwJ_J, zwJ_R, zwR_L, zwR_I, zwR_J, zwR_R, zw2_s, zw2_n, ne_eq, not_false_eq_true, reduceCtorEq, not_true_eq_false, Nat.reduceEqDiff]; rw [zup_s]
          · simp only [zwI_L, zwI_I, zwI_J, zwI_R, zwJ_L, zwJ_I, zwJ_J, zwJ_R, zwR_L, zwR_I, zwR_J, zwR_R, zw2_s, zw2_n, ne_eq, not_false_eq_true, reduceCtorEq, not_true_eq_false, Nat.reduceEqDiff]
            rw [zw2_n (by omega)]; exact r0
    · rw [q1]
      dsimp only
      exact join M zrn.rf (fun _ _ _ => rfl) q1 q2 q3
  · exact h.elim
end
section
/-! DeltaRuns runTo -/
theorem zd_X7_runTo_0 : decode cX7_runTo 0 = .ok (.aload_n 0, 1) := by decide +kernel
theorem zd_X7_runTo_1 : decode cX7_runTo 1 = .ok (.iload_n 1, 1) := by decide +kernel
theorem zd_X7_runTo_2 : decode cX7_runTo 2 = .ok (.invokevirtual 180, 3) := by decide +kernel
theorem zd_X7_runTo_5 : decode cX7_runTo 5 = .ok (.astore_n 3, 1) := by decide +kernel
theorem zd_X7_runTo_6 : decode cX7_runTo 6 = .ok (.aload_n 3, 1) := by decide +kernel
theorem zd_X7_runTo_7 : decode cX7_runTo 7 = .ok (.getfield 177, 3) := by decide +kernel
theorem zd_X7_runTo_10 : decode cX7_runTo 10 = .ok (.iload_n 2, 1) := by decide +kernel
theorem zd_X7_runTo_11 : decode cX7_runTo 11 = .ok (.if_icmp .lt 5, 3) := by decide +kernel
theorem zd_X7_runTo_14 : decode cX7_runTo 14 = .ok (.aload_n 3, 1) := by decide +kernel
theorem zd_X7_runTo_15 : decode cX7_runTo 15 = .ok (.areturn, 1) := by decide +kernel
theorem zd_X7_runTo_16 : decode cX7_runTo 16 = .ok (.aload_n 0, 1) := by decide +kernel
theorem zd_X7_runTo_17 : decode cX7_runTo 17 = .ok (.aload_n 3, 1) := by decide +kernel
theorem zd_X7_runTo_18 : decode cX7_runTo 18 = .ok (.aload_n 3, 1) := by decide +kernel
theorem zd_X7_runTo_19 : decode cX7_runTo 19 = .ok (.getfield 177, 3) := by decide +kernel
theorem zd_X7_runTo_22 : decode cX7_runTo 22 = .ok (.invokevirtual 126, 3) := by decide +kernel
theorem zd_X7_runTo_25 : decode cX7_runTo 25 = .ok (.aload_n 3, 1) := by decide +kernel
theorem zd_X7_runTo_26 : decode cX7_runTo 26 = .ok (.getfield 177, 3) := by decide +kernel
theorem zd_X7_runTo_29 : decode cX7_runTo 29 = .ok (.iconst 1, 1) := by decide +kernel
theorem zd_X7_runTo_30 : decode cX7_runTo 30 = .ok (.iadd, 1) := by decide +kernel
theorem zd_X7_runTo_31 : decode cX7_runTo 31 = .ok (.istore 4, 2) := by decide +kernel
theorem zd_X7_runTo_33 : decode cX7_runTo 33 = .ok (.iload 4, 2) := by decide +kernel
theorem zd_X7_runTo_35 : decode cX7_runTo 35 = .ok (.iload_n 2, 1) := by decide +kernel
theorem zd_X7_runTo_36 : decode cX7_runTo 36 = .ok (.if_icmp .gt 76, 3) := by decide +kernel
theorem zd_X7_runTo_39 : decode cX7_runTo 39 = .ok (.aload_n 0, 1) := by decide +kernel
theorem zd_X7_runTo_40 : decode cX7_runTo 40 = .ok (.getfield 46, 3) := by decide +kernel
theorem zd_X7_runTo_43 : decode cX7_runTo 43 = .ok (.iload 4, 2) := by decide +kernel
theorem zd_X7_runTo_45 : decode cX7_runTo 45 = .ok (.aload_n 0, 1) := by decide +kernel
theorem zd_X7_runTo_46 : decode cX7_runTo 46 = .ok (.getfield 10, 3) := by decide +kernel
theorem zd_X7_runTo_49 : decode cX7_runTo 49 = .ok (.aload_n 0, 1) := by decide +kernel
theorem zd_X7_runTo_50 : decode cX7_runTo 50 = .ok (.getfield 33, 3) := by decide +kernel
theorem zd_X7_runTo_53 : decode cX7_runTo 53 = .ok (.invokevirtual 130, 3) := by decide +kernel
theorem zd_X7_runTo_56 : decode cX7_runTo 56 = .ok (.aload_n 0, 1) := by decide +kernel
theorem zd_X7_runTo_57 : decode cX7_runTo 57 = .ok (.getfield 33, 3) := by decide +kernel
theorem zd_X7_runTo_60 : decode cX7_runTo 60 = .ok (.aload_n 0, 1) := by decide +kernel
theorem zd_X7_runTo_61 : decode cX7_runTo 61 = .ok (.getfield 10, 3) := by decide +kernel
theorem zd_X7_runTo_64 : decode cX7_runTo 64 = .ok (.iload_n 1, 1) := by decide +kernel
theorem zd_X7_runTo_65 : decode cX7_runTo 65 = .ok (.invokestatic 134, 3) := by decide +kernel
theorem zd_X7_runTo_68 : decode cX7_runTo 68 = .ok (.invokevirtual 137, 3) := by decide +kernel
theorem zd_X7_runTo_71 : decode cX7_runTo 71 = .ok (.aload_n 0, 1) := by decide +kernel
theorem zd_X7_runTo_72 : decode cX7_runTo 72 = .ok (.getfield 33, 3) := by decide +kernel
theorem zd_X7_runTo_75 : decode cX7_runTo 75 = .ok (.aload_n 0, 1) := by decide +kernel
theorem zd_X7_runTo_76 : decode cX7_runTo 76 = .ok (.getfield 10, 3) := by decide +kernel
theorem zd_X7_runTo_79 : decode cX7_runTo 79 = .ok (.getfield 89, 3) := by decide +kernel
theorem zd_X7_runTo_82 : decode cX7_runTo 82 = .ok (.iload_n 1, 1) := by decide +kernel
theorem zd_X7_runTo_83 : decode cX7_runTo 83 = .ok (.invokestatic 184, 3) := by decide +kernel
theorem zd_X7_runTo_86 : decode cX7_runTo 86 = .ok (.iload_n 1, 1) := by decide +kernel
theorem zd_X7_runTo_87 : decode cX7_runTo 87 = .ok (.invokestatic 187, 3) := by decide +kernel
theorem zd_X7_runTo_90 : decode cX7_runTo 90 = .ok (.invokevirtual 190, 3) := by decide +kernel
theorem zd_X7_runTo_93 : decode cX7_runTo 93 = .ok (.aload_n 3, 1) := by decide +kernel
theorem zd_X7_runTo_94 : decode cX7_runTo 94 = .ok (.iload 4, 2) := by decide +kernel
theorem zd_X7_runTo_96 : decode cX7_runTo 96 = .ok (.aload_n 0, 1) := by decide +kernel
theorem zd_X7_runTo_97 : decode cX7_runTo 97 = .ok (.getfield 33, 3) := by decide +kernel
theorem zd_X7_runTo_100 : decode cX7_runTo 100 = .ok (.getfield 194, 3) := by decide +kernel
theorem zd_X7_runTo_103 : decode cX7_runTo 103 = .ok (.invokevirtual 195, 3) := by decide +kernel
theorem zd_X7_runTo_106 : decode cX7_runTo 106 = .ok (.iinc 4 1, 3) := by decide +kernel
theorem zd_X7_runTo_109 : decode cX7_runTo 109 = .ok (.goto (-76), 3) := by decide +kernel
theorem zd_X7_runTo_112 : decode cX7_runTo 112 = .ok (.aload_n 3, 1) := by decide +kernel
theorem zd_X7_runTo_113 : decode cX7_runTo 113 = .ok (.areturn, 1) := by decide +kernel
def zb_X7_runTo_0 (K : zKt) (J : Nat → zPP) (lc lz : Nat) : zPP := zT_ald 0 (zT_ild 1 (zT_V1 (zlm 2 467 lc lz) 7 9 zc_X7_startedYears (zT_ast 3 (zT_ald 3 (zT_getI 6 1 2 (zT_ild 2 (zT_if2 (fun x y => x < y) (zT_ald 0 (zT_ald 3 (zT_ald 3 (zT_getI 6 1 2 (zT_V2 zok 7 9 zc_X7_takeUp (zT_ald 3 (zT_getI 6 1 2 (zT_push (.int 1) (zT_bin (fun x y => x + y) (zT_ist 4 (J 33))))))))))) (zT_ald 3 (zT_aret K)))))))))
theorem zbs_X7_runTo_0 {X : zCt} (hR : zRX X = { frames := 4, cells := 2, slots := 467, locals := 95 }) (J : Nat → zPP) (hJ : ∀ h ∈ ([33] : List Nat), zSd X RX7 "runTo" cX7_runTo 5 (some (.object "DeltaRuns$Years")) h (J h)) : zSd X RX7 "runTo" cX7_runTo 5 (some (.object "DeltaRuns$Years")) 0 (zb_X7_runTo_0 (zKX X) J (zlc X) (zls X)) := zs_aload_n zd_X7_runTo_0 rfl (zs_iload_n zd_X7_runTo_1 rfl (zs_V (ci := 7) rfl rfl (zm_X7_startedYears _ _ _) gw_2_164 gw_2_161 gw_2_163 gw_0_10 gw_1_1 zdn_X7_startedYears (zrm hR (by decide) (by decide)) zd_X7_runTo_2 (zCl_V1 zlm_l) (zs_astore_n zd_X7_runTo_5 rfl (by decide) (zs_aload_n zd_X7_runTo_6 rfl (zs_getI (ci := 6) (j := 1) (T := TX6) rfl inX6 (by decide) gw_2_172 rfl zd_X7_runTo_7 (zs_iload_n zd_X7_runTo_10 rfl (zs_icmp_lt (tgt := 16) zd_X7_runTo_11 (by decide) (zs_aload_n zd_X7_runTo_16 rfl (zs_aload_n zd_X7_runTo_17 rfl (zs_aload_n zd_X7_runTo_18 rfl (zs_getI (ci := 6) (j := 1) (T := TX6) rfl inX6 (by decide) gw_2_172 rfl zd_X7_runTo_19 (zs_V (ci := 7) rfl rfl (zm_X7_takeUp _ _ _) gw_2_186 gw_2_183 gw_2_185 gw_0_11 gw_1_1 zdn_X7_takeUp (zrm hR (by decide) (by decide)) zd_X7_runTo_22 (zCl_V2 zok_l) (zs_aload_n zd_X7_runTo_25 rfl (zs_getI (ci := 6) (j := 1) (T := TX6) rfl inX6 (by decide) gw_2_172 rfl zd_X7_runTo_26 (zs_iconst zd_X7_runTo_29 (by decide) (zs_iadd zd_X7_runTo_30 (zs_istore zd_X7_runTo_31 (by decide) (hJ 33 (by decide)))))))))))) (zs_aload_n zd_X7_runTo_14 rfl (zs_aret rfl zd_X7_runTo_15)))))))))
def zb_X7_runTo_33 (K : zKt) (J : Nat → zPP) (lc lz : Nat) : zPP := zT_ild 4 (zT_ild 2 (zT_if2 (fun x y => y < x) (zT_ald 3 (zT_aret K)) (zT_ald 0 (zT_getR 7 5 9 (zT_ild 4 (zT_ald 0 (zT_getR 7 0 9 (zT_ald 0 (zT_getR 7 3 9 (zT_V3 zok 2 6 zc_X2_workIn (zT_ald 0 (zT_getR 7 3 9 (zT_ald 0 (zT_getR 7 0 9 (zT_ild 1 (zT_S1 zok zc_X7_sortOf (zT_V2 zok 5 11 zc_X5_run (zT_ald 0 (zT_getR 7 3 9 (zT_ald 0 (zT_getR 7 0 9 (zT_getI 1 5 6 (zT_ild 1 (zT_S1 zok zc_X7_rateOf (zT_ild 1 (zT_S1 zok zc_X7_wearOf (zT_V3 zok 5 11 zc_X5_settle (zT_ald 3 (zT_ild 4 (zT_ald 0 (zT_getR 7 3 9 (zT_getR 5 0 11 (zT_V2 zok 6 2 zc_X6_keep (zT_iinc 4 1 (J 33)))))))))))))))))))))))))))))))))))
theorem zbs_X7_runTo_33 {X : zCt} (hR : zRX X = { frames := 4, cells := 2, slots := 467, locals := 95 }) (J : Nat → zPP) (hJ : ∀ h ∈ ([33] : List Nat), zSd X RX7 "runTo" cX7_runTo 5 (some (.object "DeltaRuns$Years")) h (J h)) : zSd X RX7 "runTo" cX7_runTo 5 (some (.object "DeltaRuns$Years")) 33 (zb_X7_runTo_33 (zKX X) J (zlc X) (zls X)) := zs_iload zd_X7_runTo_33 (zs_iload_n zd_X7_runTo_35 rfl (zs_icmp_gt (tgt := 112) zd_X7_runTo_36 (by decide) (zs_aload_n zd_X7_runTo_112 rfl (zs_aret rfl zd_X7_runTo_113)) (zs_aload_n zd_X7_runTo_39 rfl (zs_getR (ci := 7) (j := 5) (T := TX7) rfl inX7 (by decide) gw_1_190 rfl zd_X7_runTo_40 (zs_iload zd_X7_runTo_43 (zs_aload_n zd_X7_runTo_45 rfl (zs_getR (ci := 7) (j := 0) (T := TX7) rfl inX7 (by decide) gw_1_185 rfl zd_X7_runTo_46 (zs_aload_n zd_X7_runTo_49 rfl (zs_getR (ci := 7) (j := 3) (T := TX7) rfl inX7 (by decide) gw_1_188 rfl zd_X7_runTo_50 (zs_V (ci := 2) rfl rfl (zm_X2_workIn _ _ _) gw_2_200 gw_2_197 gw_2_198 gw_2_199 gw_1_6 zdn_X2_workIn (zrm hR (by decide) (by decide)) zd_X7_runTo_53 (zCl_V3 zok_l) (zs_aload_n zd_X7_runTo_56 rfl (zs_getR (ci := 7) (j := 3) (T := TX7) rfl inX7 (by decide) gw_1_188 rfl zd_X7_runTo_57 (zs_aload_n zd_X7_runTo_60 rfl (zs_getR (ci := 7) (j := 0) (T := TX7) rfl inX7 (by decide) gw_1_185 rfl zd_X7_runTo_61 (zs_iload_n zd_X7_runTo_64 rfl (zs_S (zm_X7_sortOf _ _ _) gw_2_208 gw_2_206 gw_2_207 gw_1_1 zdn_X7_sortOf (zrm hR (by decide) (by decide)) zd_X7_runTo_65 (zCl_S1 zok_l) (zs_V (ci := 5) rfl rfl (zm_X5_run _ _ _) gw_2_212 gw_2_209 gw_2_210 gw_2_211 gw_1_5 zdn_X5_run (zrm hR (by decide) (by decide)) zd_X7_runTo_68 (zCl_V2 zok_l) (zs_aload_n zd_X7_runTo_71 rfl (zs_getR (ci := 7) (j := 3) (T := TX7) rfl inX7 (by decide) gw_1_188 rfl zd_X7_runTo_72 (zs_aload_n zd_X7_runTo_75 rfl (zs_getR (ci := 7) (j := 0) (T := TX7) rfl inX7 (by decide) gw_1_185 rfl zd_X7_runTo_76 (zs_getI (ci := 1) (j := 5) (T := TX1) rfl inX1 (by decide) gw_1_46 rfl zd_X7_runTo_79 (zs_iload_n zd_X7_runTo_82 rfl (zs_S (zm_X7_rateOf _ _ _) gw_3_17 gw_3_15 gw_3_16 gw_1_1 zdn_X7_rateOf (zrm hR (by decide) (by decide)) zd_X7_runTo_83 (zCl_S1 zok_l) (zs_iload_n zd_X7_runTo_86 rfl (zs_S (zm_X7_wearOf _ _ _) gw_3_20 gw_3_18 gw_3_19 gw_1_1 zdn_X7_wearOf (zrm hR (by decide) (by decide)) zd_X7_runTo_87 (zCl_S1 zok_l) (zs_V (ci := 5) rfl rfl (zm_X5_settle _ _ _) gw_3_24 gw_3_21 gw_3_22 gw_3_23 gw_1_5 zdn_X5_settle (zrm hR (by decide) (by decide)) zd_X7_runTo_90 (zCl_V3 zok_l) (zs_aload_n zd_X7_runTo_93 rfl (zs_iload zd_X7_runTo_94 (zs_aload_n zd_X7_runTo_96 rfl (zs_getR (ci := 7) (j := 3) (T := TX7) rfl inX7 (by decide) gw_1_188 rfl zd_X7_runTo_97 (zs_getR (ci := 5) (j := 0) (T := TX5) rfl inX5 (by decide) gw_1_113 rfl zd_X7_runTo_100 (zs_V (ci := 6) rfl rfl (zm_X6_keep _ _ _) gw_2_182 gw_2_179 gw_2_180 gw_2_181 gw_1_14 zdn_X6_keep (zrm hR (by decide) (by decide)) zd_X7_runTo_103 (zCl_V2 zok_l) (zs_iinc zd_X7_runTo_106 (by decide) (by decide) (zs_goto (tgt := 33) zd_X7_runTo_109 (by decide) (hJ 33 (by decide)))))))))))))))))))))))))))))))))))))
def zB_X7_runTo (K : zKt) (lc lz : Nat) (J : Nat → zPP) (h : Nat) : zPP := if h = 33 then zb_X7_runTo_33 K J lc lz else (fun _ _ _ => False)
theorem zBs_X7_runTo {X : zCt} (hR : zRX X = { frames := 4, cells := 2, slots := 467, locals := 95 }) : ∀ J : Nat → zPP, (∀ h ∈ ([33] : List Nat), zSd X RX7 "runTo" cX7_runTo 5 (some (.object "DeltaRuns$Years")) h (J h)) → ∀ h ∈ ([33] : List Nat), zSd X RX7 "runTo" cX7_runTo 5 (some (.object "DeltaRuns$Years")) h (zB_X7_runTo (zKX X) (zlc X) (zls X) J h) := by
  intro J hJ h hh
  unfold zB_X7_runTo
  simp only [List.mem_cons, List.not_mem_nil, or_false] at hh
  subst hh
  exact zbs_X7_runTo_33 hR J hJ
theorem zdn_X7_runTo : yX7_runTo.cls ≠ "java/lang/invoke/MethodHandle" ∧ yX7_runTo.cls ≠ "java/lang/invoke/VarHandle" ∧ (parseMethodDescriptor yX7_runTo.desc).map (fun d => d.parameters.length) = some 2 := by decide +kernel
/-! runTo -/
theorem wG_run {w h : Nat} {H : Nat → Nat} {D : Nat → Bool} {sort sp fl : Nat} {S : wST} (hw : w ≤ 12) (hh : h ≤ 10) (hH : ∀ x, x < 120 → H x ≤ 200) (hwf : wwf S) (hin : ∀ x ∈ S.2, wil w h x) (hfl : wfl w h H D sort sp fl S.1) : ∀ x, x < 120 → wG w h H D sort sp fl x = S.1 x :=
  wG_eq hw hh hfl hH (fun x hx hxl => by
    have := hwf.2.2 x hx
    have : ¬ 0 < S.1 x := fun z => hxl (hin x (this.mpr z))
    omega)
def zc_X7_runTo (a : List Value) (M : zMm) (K : zKt) : Prop := match a with
  | [.ref k, .int x, .int y] => k = 0 ∧ ∃ r yr σ pk dk p, x = nI r ∧ r < 36 ∧ y = nI yr ∧ yr ≤ 30 ∧ zXI M σ pk dk p ∧ ∀ M' m, zrn M M' r → zXI M' σ pk dk p → yr ≤ m → m ≤ 30 → M'.2.2.2 20 r = some (zyi r) → M'.2.2.2 (zyi r) 0 = some (zyi r + 1) → M'.2.1 (zyi r) 1 = nI m → zys M' (zyi r) m (fun n => (wHD σ r n).1) → K (some (.ref (zyi r))) M'
  | _ => False
set_option maxHeartbeats 4000000 in
theorem zm_X7_runTo (l : Launch) (D : va_G) (Y : Nat → ClassId) : zMt l D Y yX7_runTo cX7_runTo 5 (some (.object "DeltaRuns$Years")) 4 95 2 467 zc_X7_runTo := by
  refine zwhile1 (h0 := 33) (by decide) (fun K J lc lz => zb_X7_runTo_0 K J lc lz) (fun K lc lz J => zb_X7_runTo_33 K J lc lz) (fun X hR J hJ => zbs_X7_runTo_0 hR J hJ) (fun X hR J hJ => zbs_X7_runTo_33 hR J hJ) (fun avs M K h => ?_)
  unfold zc_X7_runTo at h
  split at h
  · next k x y =>
    obtain ⟨rfl, r, yr, σ, pk, dk, p, rfl, hr, rfl, hyr, hXI, h⟩ := h
    obtain ⟨y0, y1⟩ := zyk_sh (yk := zyi r) ⟨r, hr, rfl⟩
    have hrne : zyi r = 100 + 2 * r := rfl
    refine ⟨by simp [zent], fun q M' ls st => ∃ n, q = 40 - n ∧ 1 ≤ n ∧ n ≤ yr + 1 ∧ ls = [some (.ref 0), some (.int (nI r)), some (.int (nI yr)), some (.ref (zyi r)), some (.int (nI n))] ∧ st = [] ∧ zrn M M' r ∧ zXI M' σ pk dk p ∧ M'.2.2.2 20 r = some (zyi r) ∧ M'.2.2.2 (zyi r) 0 = some (zyi r + 1) ∧ M'.2.1 (zyi r) 1 = nI (n - 1) ∧ zys M' (zyi r) (n - 1) (fun n => (wHD σ r n).1) ∧ zhg M' (wHD σ r (n - 1)).1 ∧ zdy M' (wHD σ r (n - 1)).2, ?_, ?_⟩
    · rintro q J hJ M' ls st ⟨n, rfl, hn1, hn, rfl, rfl, hrn, hxi, r1, r2, hlat, hzy, hhg, hdy⟩
      obtain ⟨hxr, hok, w1, w2, w3, w4, w5, hg, hpl, ⟨S, hS1, hS2⟩, hYS, hLL⟩ := id hxi
      obtain ⟨k1, k2, k3, k4, k5, k6, k7, k8, k9⟩ := id hok
      obtain ⟨a0, a1, a2, a3, a4, a5, a6, a7, a8, a9, a10, a11, a12, hxw, -⟩ := id hxr
      obtain ⟨p0, -⟩ := zpl_sh hpl.1
      obtain ⟨m, rfl⟩ : ∃ m, n = m + 1 := ⟨n - 1, by omega⟩
      rw [show m + 1 - 1 = m from rfl] at hlat hzy hhg hdy
      simp only [zb_X7_runTo_33, zsh_0, a0, a3, a5, p0, zT_push, zT_bin, zT_div, zT_bil, zT_shl, zT_un, zT_i2l, zT_l2i, zT_lcmp, zT_ild, zT_lld, zT_ald, zT_ist, zT_lst, zT_ast, zT_iinc, zT_dup, zT_dup2, zT_pop, zT_if1, zT_if2, zT_ifn, zT_getI, zT_getJ, zT_getR, zT_putI, zT_putZ, zT_putJ, zT_putR, zT_ald0, zT_lald, zT_aald, zT_iast, zT_zast, zT_bast, zT_last, zT_aast, zT_iret, zT_nret, zT_aret, zT_vret, zT_oi, zT_mm, zT_ialX, zT_S1, zT_S2, zT_S3, zT_V0, zT_V1, zT_V2, zT_V3, zT_V4, zT_V5, zT_V6, zT_I0, zT_I1, zT_I2, zlg, zlset, zlpr, zent, zok, va_rf, List.length_cons, List.length_nil, List.replicate, List.cons_append, List.nil_append, List.append_nil, Option.toList_some, Option.toList_none, Option.toList, Nat.reduceAdd, Nat.reduceSub, Nat.reduceLeDiff, Nat.zero_add, Nat.zero_le, true_and, and_true, Nat.le_refl, ge_iff_le, Nat.reduceEqDiff]
      refine ⟨fun h1 => ?_, fun h1 => ?_⟩
      · have := (nI_ltI (by omega) (by omega)).mp h1
        exact h M' m hrn hxi (by omega) (by omega) r1 r2 hlat hzy
      · have hle : m + 1 ≤ yr := by
          rcases Nat.lt_or_ge yr (m + 1) with q | q
          · exact absurd ((nI_ltI (by omega) (by omega)).mpr q) h1
          · exact q
        unfold zc_X2_workIn
        dsimp only
        refine ⟨rfl, rfl, hxw, m + 1, sW σ, sH σ, sA σ, _, _, rfl, by omega, ⟨w1, w2, k2, k4⟩, hpl, hdy, hhg, fun M1 hs1 hd1 hh1 => ?_⟩
        have hxr1 := hxr.to hs1.R
        obtain ⟨b0, b1, b2, b3, b4, b5, b6, b7, b8, b9, b10, b11, b12, hxw1, -⟩ := id hxr1
        simp only [zsh_0, b0, b3, zT_push, zT_bin, zT_div, zT_bil, zT_shl, zT_un, zT_i2l, zT_l2i, zT_lcmp, zT_ild, zT_lld, zT_ald, zT_ist, zT_lst, zT_ast, zT_iinc, zT_dup, zT_dup2, zT_pop, zT_if1, zT_if2, zT_ifn, zT_getI, zT_getJ, zT_getR, zT_putI, zT_putZ, zT_putJ, zT_putR, zT_ald0, zT_lald, zT_aald, zT_iast, zT_zast, zT_bast, zT_last, zT_aast, zT_iret, zT_nret, zT_aret, zT_vret, zT_oi, zT_mm, zT_ialX, zT_S1, zT_S2, zT_S3, zT_V0, zT_V1, zT_V2, zT_V3, zT_V4, zT_V5, zT_V6, zT_I0, zT_I1, zT_I2, zlg, zlset, zlpr, zent, zok, va_rf, List.length_cons, List.length_nil, List.replicate, List.cons_append, List.nil_append, List.append_nil, Option.toList_some, Option.toList_none, Option.toList, Nat.reduceAdd, Nat.reduceSub, Nat.reduceLeDiff, Nat.zero_add, Nat.zero_le, true_and, and_true, Nat.le_refl, ge_iff_le, Nat.reduceEqDiff]
        unfold zc_X7_sortOf
        dsimp only
        rw [show (12 : Int32) = nI 12 from rfl, pk_div (by omega) (by omega) (by omega)]
        simp only [zsh_0, zsh_1, zsh_10, b0, b3, zT_push, zT_bin, zT_div, zT_bil, zT_shl, zT_un, zT_i2l, zT_l2i, zT_lcmp, zT_ild, zT_lld, zT_ald, zT_ist, zT_lst, zT_ast, zT_iinc, zT_dup, zT_dup2, zT_pop, zT_if1, zT_if2, zT_ifn, zT_getI, zT_getJ, zT_getR, zT_putI, zT_putZ, zT_putJ, zT_putR, zT_ald0, zT_lald, zT_aald, zT_iast, zT_zast, zT_bast, zT_last, zT_aast, zT_iret, zT_nret, zT_aret, zT_vret, zT_oi, zT_mm, zT_ialX, zT_S1, zT_S2, zT_S3, zT_V0, zT_V1, zT_V2, zT_V3, zT_V4, zT_V5, zT_V6, zT_I0, zT_I1, zT_I2, zlg, zlset, zlpr, zent, zok, va_rf, List.length_cons, List.length_nil, List.replicate, List.cons_append, List.nil_append, List.append_nil, Option.toList_some, Option.toList_none, Option.toList, Nat.reduceAdd, Nat.reduceSub, Nat.reduceLeDiff, Nat.zero_add, Nat.zero_le, true_and, and_true, Nat.le_refl, ge_iff_le, Nat.reduceEqDiff]
        unfold zc_X5_run
        dsimp only
        have e1 : M1.2.1 1 = M'.2.1 1 := hs1.2.2 1 (by simp)
        have hS1' : zwt M1 S.1 S.2 := by
          unfold zwt
          rw [hs1.2.2 13 (by simp), hs1.2.2 15 (by simp), hs1.2.2 10 (by simp)]
          exact hS1
        have hld1 : zld M1 (sW σ) (sH σ) (whk (sW σ) (sH σ) (m + 1) (sA σ) (wHD σ r m).1) (wdk (sW σ) (sH σ) (m + 1) (sA σ) (wHD σ r m).2) := ⟨by rw [e1]; exact w1, by rw [e1]; exact w2, k2, k4, hh1, hd1⟩
        refine ⟨rfl, rfl, hxw1, sW σ, sH σ, _, _, r / 12, sS σ, sF σ, S, hld1, rfl, by omega, by rw [e1]; exact w3, k6, k7, by rw [e1]; exact w4, k8, hS1', hS2, fun M2 S2 hs2 hwt2 hwf2 hin2 hbd2 hfl2 hpt2 => ?_⟩
        have hH200 : ∀ x, x < 120 → whk (sW σ) (sH σ) (m + 1) (sA σ) (wHD σ r m).1 x ≤ 200 := fun x hx => (hh1 x hx).2
        have hGeq := wG_run k2 k4 hH200 hwf2 hin2 hfl2
        have hxr2 := hxr1.to hs2.R
        obtain ⟨c0, c1, c2, c3, c4, c5, c6, c7, c8, c9, c10, c11, c12, hxw2, -⟩ := id hxr2
        have e2 : M2.2.1 1 = M'.2.1 1 := by rw [hs2.2.2 1 (by simp)]; exact e1
        simp only [zsh_0, zsh_1, c0, c3, e2, w5, zT_push, zT_bin, zT_div, zT_bil, zT_shl, zT_un, zT_i2l, zT_l2i, zT_lcmp, zT_ild, zT_lld, zT_ald, zT_ist, zT_lst, zT_ast, zT_iinc, zT_dup, zT_dup2, zT_pop, zT_if1, zT_if2, zT_ifn, zT_getI, zT_getJ, zT_getR, zT_putI, zT_putZ, zT_putJ, zT_putR, zT_ald0, zT_lald, zT_aald, zT_iast, zT_zast, zT_bast, zT_last, zT_aast, zT_iret, zT_nret, zT_aret, zT_vret, zT_oi, zT_mm, zT_ialX, zT_S1, zT_S2, zT_S3, zT_V0, zT_V1, zT_V2, zT_V3, zT_V4, zT_V5, zT_V6, zT_I0, zT_I1, zT_I2, zlg, zlset, zlpr, zent, zok, va_rf, List.length_cons, List.length_nil, List.replicate, List.cons_append, List.nil_append, List.append_nil, Option.toList_some, Option.toList_none, Option.toList, Nat.reduceAdd, Nat.reduceSub, Nat.reduceLeDiff, Nat.zero_add, Nat.zero_le, true_and, and_true, Nat.le_refl, ge_iff_le, Nat.reduceEqDiff]
        unfold zc_X7_rateOf
        dsimp only
        have hrate : (1 : Int32) + (nI r / 2 - nI r / 2 / 6 * 6) = nI (wrt r) := by
          rw [show (2 : Int32) = nI 2 from rfl, show (6 : Int32) = nI 6 from rfl, show (1 : Int32) = nI 1 from rfl, pk_div (by omega) (by omega) (by omega), pk_rem (by omega) (by omega) (by omega), nI_add]
          rfl
        rw [hrate]
        simp only [zT_push, zT_bin, zT_div, zT_bil, zT_shl, zT_un, zT_i2l, zT_l2i, zT_lcmp, zT_ild, zT_lld, zT_ald, zT_ist, zT_lst, zT_ast, zT_iinc, zT_dup, zT_dup2, zT_pop, zT_if1, zT_if2, zT_ifn, zT_getI, zT_getJ, zT_getR, zT_putI, zT_putZ, zT_putJ, zT_putR, zT_ald0, zT_lald, zT_aald, zT_iast, zT_zast, zT_bast, zT_last, zT_aast, zT_iret, zT_nret, zT_aret, zT_vret, zT_oi, zT_mm, zT_ialX, zT_S1, zT_S2, zT_S3, zT_V0, zT_V1, zT_V2, zT_V3, zT_V4, zT_V5, zT_V6, zT_I0, zT_I1, zT_I2, zlg, zlset, zlpr, zent, zok, va_rf, List.length_cons, List.length_nil, List.replicate, List.cons_append, List.nil_append, List.append_nil, Option.toList_some, Option.toList_none, Option.toList, Nat.reduceAdd, Nat.reduceSub, Nat.reduceLeDiff, Nat.zero_add, Nat.zero_le, true_and, and_true, Nat.le_refl, ge_iff_le, Nat.reduceEqDiff]
        unfold zc_X7_wearOf
        dsimp only
        have hwear : nI r - nI r / 2 * 2 = nI (wwr r) := by
          rw [show (2 : Int32) = nI 2 from rfl, pk_rem (by omega) (by omega) (by omega)]
          rfl
        rw [hwear]
        simp only [zsh_0, zsh_10, c0, c3, zT_push, zT_bin, zT_div, zT_bil, zT_shl, zT_un, zT_i2l, zT_l2i, zT_lcmp, zT_ild, zT_lld, zT_ald, zT_ist, zT_lst, zT_ast, zT_iinc, zT_dup, zT_dup2, zT_pop, zT_if1, zT_if2, zT_ifn, zT_getI, zT_getJ, zT_getR, zT_putI, zT_putZ, zT_putJ, zT_putR, zT_ald0, zT_lald, zT_aald, zT_iast, zT_zast, zT_bast, zT_last, zT_aast, zT_iret, zT_nret, zT_aret, zT_vret, zT_oi, zT_mm, zT_ialX, zT_S1, zT_S2, zT_S3, zT_V0, zT_V1, zT_V2, zT_V3, zT_V4, zT_V5, zT_V6, zT_I0, zT_I1, zT_I2, zlg, zlset, zlpr, zent, zok, va_rf, List.length_cons, List.length_nil, List.replicate, List.cons_append, List.nil_append, List.append_nil, Option.toList_some, Option.toList_none, Option.toList, Nat.reduceAdd, Nat.reduceSub, Nat.reduceLeDiff, Nat.zero_add, Nat.zero_le, true_and, and_true, Nat.le_refl, ge_iff_le, Nat.reduceEqDiff]
        unfold zc_X5_settle
        dsimp only
        have h11 : M2.2.1 11 = M1.2.1 11 := hs2.2.2 11 (by simp)
        refine ⟨rfl, hxw2, sL σ, wrt r, wwr r, S2, whk (sW σ) (sH σ) (m + 1) (sA σ) (wHD σ r m).1, wpt (sW σ) (sH σ) (whk (sW σ) (sH σ) (m + 1) (sA σ) (wHD σ r m).1) (wdk (sW σ) (sH σ) (m + 1) (sA σ) (wHD σ r m).2), rfl, k5, rfl, by unfold wrt; omega, rfl, by unfold wwr; omega, hwt2, hwf2, fun e => by have := hbd2 e; omega, by rw [h11]; exact hh1, hpt2, fun M3 hs3 hset => ?_⟩
        have hxr3 := hxr2.to hs3.R
        obtain ⟨d0, d1, d2, d3, d4, d5, d6, d7, d8, d9, d10, d11, d12, hxw3, -⟩ := id hxr3
        obtain ⟨x0, -⟩ := id hxw3
        have hnew : ∀ e, e < 120 → M3.2.1 11 e = nI ((wHD σ r (m + 1)).1 e) ∧ (wHD σ r (m + 1)).1 e ≤ 200 := by
          intro e he
          refine ⟨?_, wHD_le hok r (m + 1) e⟩
          rw [hset e he, ← hGeq e he]
          rfl
        simp only [zsh_0, zsh_10, y0, d3, x0, zT_push, zT_bin, zT_div, zT_bil, zT_shl, zT_un, zT_i2l, zT_l2i, zT_lcmp, zT_ild, zT_lld, zT_ald, zT_ist, zT_lst, zT_ast, zT_iinc, zT_dup, zT_dup2, zT_pop, zT_if1, zT_if2, zT_ifn, zT_getI, zT_getJ, zT_getR, zT_putI, zT_putZ, zT_putJ, zT_putR, zT_ald0, zT_lald, zT_aald, zT_iast, zT_zast, zT_bast, zT_last, zT_aast, zT_iret, zT_nret, zT_aret, zT_vret, zT_oi, zT_mm, zT_ialX, zT_S1, zT_S2, zT_S3, zT_V0, zT_V1, zT_V2, zT_V3, zT_V4, zT_V5, zT_V6, zT_I0, zT_I1, zT_I2, zlg, zlset, zlpr, zent, zok, va_rf, List.length_cons, List.length_nil, List.replicate, List.cons_append, List.nil_append, List.append_nil, Option.toList_some, Option.toList_none, Option.toList, Nat.reduceAdd, Nat.reduceSub, Nat.reduceLeDiff, Nat.zero_add, Nat.zero_le, true_and, and_true, Nat.le_refl, ge_iff_le, Nat.reduceEqDiff]
        unfold zc_X6_keep
        dsimp only
        have hR3 : M3.2.2.2 = M'.2.2.2 := by rw [hs3.R, hs2.R, hs1.R]
        have hL3 : M3.1 = M'.1 := by rw [hs3.1, hs2.1, hs1.1]
        have hJ3 : M3.2.2.1 = M'.2.2.1 := by rw [hs3.J, hs2.J, hs1.J]
        have hI3 : ∀ k, k < 10 ∨ 20 ≤ k → M3.2.1 k = M'.2.1 k := fun k hk => by
          rw [hs3.2.2 k (by simp; omega), hs2.2.2 k (by simp; omega), hs1.2.2 k (by simp; omega)]
        refine ⟨⟨⟨r, hr, rfl⟩, by rw [hR3]; exact r2⟩, Or.inr rfl, m + 1, (wHD σ r (m + 1)).1, rfl, by omega, hnew, fun M4 f1 f2 f3 f4 f5 f6 f7 => ?_⟩
        have hrn4 : zrn M' M4 r := ⟨Or.inl ⟨by rw [f1, hL3], by rw [f2, hR3]⟩, fun k q1 q2 q3 => by rw [f6 k q2]; exact hI3 k q1, fun k q1 q2 => by rw [f3 k q2, hJ3]⟩
        have hw4 : ∀ k, k < 20 → M4.2.1 k = M3.2.1 k := fun k hk => f6 k (by omega)
        have hwt4 : zwt M4 S2.1 S2.2 := by
          unfold zwt
          rw [hw4 13 (by decide), hw4 15 (by decide), hw4 10 (by decide), hs3.2.2 13 (by simp), hs3.2.2 15 (by simp), hs3.2.2 10 (by simp)]
          exact hwt2
        have r14 : M4.2.2.2 20 r = some (zyi r) := by rw [f2, hR3]; exact r1
        have r24 : M4.2.2.2 (zyi r) 0 = some (zyi r + 1) := by rw [f2, hR3]; exact r2
        have hzy4 : zys M4 (zyi r) (m + 1) (fun n => (wHD σ r n).1) := by
          intro n' hn' i hi
          by_cases e : n' = m + 1
          · subst e
            exact f5 i hi
          · rw [f4 _ (Or.inl (by omega)), hJ3]
            exact hzy n' (by omega) i hi
        have hxi4 := hxi.run hr hrn4 ⟨S2, hwt4, hwf2⟩ ⟨r14, r24, Or.inr ⟨m + 1, by omega, f7, hzy4⟩⟩
        refine hJ (40 - (m + 1 + 1)) _ _ _ (by omega) ⟨m + 1 + 1, rfl, by omega, by omega, by rw [nI_1], rfl, hrn.tr hrn4, hxi4, r14, r24, f7, hzy4, ?_, ?_⟩
        · intro e he
          rw [hw4 11 (by decide)]
          exact hnew e he
        · intro e he
          rw [hw4 12 (by decide), hs3.2.2 12 (by simp), hs2.2.2 12 (by simp)]
          exact hd1 e he
    · intro J hJ
      simp only [zb_X7_runTo_0, zsh_0, zT_push, zT_bin, zT_div, zT_bil, zT_shl, zT_un, zT_i2l, zT_l2i, zT_lcmp, zT_ild, zT_lld, zT_ald, zT_ist, zT_lst, zT_ast, zT_iinc, zT_dup, zT_dup2, zT_pop, zT_if1, zT_if2, zT_ifn, zT_getI, zT_getJ, zT_getR, zT_putI, zT_putZ, zT_putJ, zT_putR, zT_ald0, zT_lald, zT_aald, zT_iast, zT_zast, zT_bast, zT_last, zT_aast, zT_iret, zT_nret, zT_aret, zT_vret, zT_oi, zT_mm, zT_ialX, zT_S1, zT_S2, zT_S3, zT_V0, zT_V1, zT_V2, zT_V3, zT_V4, zT_V5, zT_V6, zT_I0, zT_I1, zT_I2, zlg, zlset, zlpr, zent, zok, va_rf, List.length_cons, List.length_nil, List.replicate, List.cons_append, List.nil_append, List.append_nil, Option.toList_some, Option.toList_none, Option.toList, Nat.reduceAdd, Nat.reduceSub, Nat.reduceLeDiff, Nat.zero_add, Nat.zero_le, true_and, and_true, Nat.le_refl, ge_iff_le, Nat.reduceEqDiff]
      refine ⟨⟨Nat.le_refl _, Nat.le_refl _⟩, ?_⟩
      unfold zc_X7_startedYears
      dsimp only
      refine ⟨rfl, r, σ, pk, dk, p, rfl, hr, hXI, fun M1 m hrn1 hxi1 hw1 r1 r2 hm hlat hzy => ?_⟩
      simp only [zsh_0, y0, hlat, zT_push, zT_bin, zT_div, zT_bil, zT_shl, zT_un, zT_i2l, zT_l2i, zT_lcmp, zT_ild, zT_lld, zT_ald, zT_ist, zT_lst, zT_ast, zT_iinc, zT_dup, zT_dup2, zT_pop, zT_if1, zT_if2, zT_ifn, zT_getI, zT_getJ, zT_getR, zT_putI, zT_putZ, zT_putJ, zT_putR, zT_ald0, zT_lald, zT_aald, zT_iast, zT_zast, zT_bast, zT_last, zT_aast, zT_iret, zT_nret, zT_aret, zT_vret, zT_oi, zT_mm, zT_ialX, zT_S1, zT_S2, zT_S3, zT_V0, zT_V1, zT_V2, zT_V3, zT_V4, zT_V5, zT_V6, zT_I0, zT_I1, zT_I2, zlg, zlset, zlpr, zent, zok, va_rf, List.length_cons, List.length_nil, List.replicate, List.cons_append, List.nil_append, List.append_nil, Option.toList_some, Option.toList_none, Option.toList, Nat.reduceAdd, Nat.reduceSub, Nat.reduceLeDiff, Nat.zero_add, Nat.zero_le, true_and, and_true, Nat.le_refl, ge_iff_le, Nat.reduceEqDiff]
      refine ⟨fun h1 => ?_, fun h1 => ?_⟩
      · have hlt := (nI_ltI (by omega) (by omega)).mp h1
        obtain ⟨hxr, hok, w1, w2, w3, w4, w5, hg, hpl, ⟨S, hS1, hS2⟩, hYS, hLL⟩ := id hxi1
        obtain ⟨k1, k2, k3, k4, k5, k6, k7, k8, k9⟩ := id hok
        unfold zc_X7_takeUp
        dsimp only
        refine ⟨rfl, pk, dk, m, (wHD σ r m).1, sW σ, sH σ, sA σ, hxr, ⟨⟨r, hr, rfl⟩, r2⟩, rfl, hm, fun e _ => wHD_le hok r m e, fun i hi => hzy m (Nat.le_refl _) i hi, ⟨w1, w2, k2, k4⟩, hpl, fun M2 hs2 hh2 hd2 => ?_⟩
        have hlat2 : M2.2.1 (zyi r) = M1.2.1 (zyi r) := hs2.2.2 _ (by simp; omega)
        simp only [y0, hlat2, hlat, zT_push, zT_bin, zT_div, zT_bil, zT_shl, zT_un, zT_i2l, zT_l2i, zT_lcmp, zT_ild, zT_lld, zT_ald, zT_ist, zT_lst, zT_ast, zT_iinc, zT_dup, zT_dup2, zT_pop, zT_if1, zT_if2, zT_ifn, zT_getI, zT_getJ, zT_getR, zT_putI, zT_putZ, zT_putJ, zT_putR, zT_ald0, zT_lald, zT_aald, zT_iast, zT_zast, zT_bast, zT_last, zT_aast, zT_iret, zT_nret, zT_aret, zT_vret, zT_oi, zT_mm, zT_ialX, zT_S1, zT_S2, zT_S3, zT_V0, zT_V1, zT_V2, zT_V3, zT_V4, zT_V5, zT_V6, zT_I0, zT_I1, zT_I2, zlg, zlset, zlpr, zent, zok, va_rf, List.length_cons, List.length_nil, List.replicate, List.cons_append, List.nil_append, List.append_nil, Option.toList_some, Option.toList_none, Option.toList, Nat.reduceAdd, Nat.reduceSub, Nat.reduceLeDiff, Nat.zero_add, Nat.zero_le, true_and, and_true, Nat.le_refl, ge_iff_le, Nat.reduceEqDiff]
        have hrn2 : zrn M1 M2 r := ⟨Or.inl ⟨hs2.1, hs2.R⟩, fun k q1 q2 q3 => hs2.2.2 k (by simp; omega), fun k q1 q2 => by rw [hs2.J]⟩
        have hwt2 : zwt M2 S.1 S.2 := by
          unfold zwt
          rw [hs2.2.2 13 (by simp), hs2.2.2 15 (by simp), hs2.2.2 10 (by simp)]
          exact hS1
        have r12 : M2.2.2.2 20 r = some (zyi r) := by rw [hs2.R]; exact r1
        have r22 : M2.2.2.2 (zyi r) 0 = some (zyi r + 1) := by rw [hs2.R]; exact r2
        have hzy2 : zys M2 (zyi r) m (fun n => (wHD σ r n).1) := by
          unfold zys
          rw [hs2.J]
          exact hzy
        have hxi2 := hxi1.run hr hrn2 ⟨S, hwt2, hS2⟩ ⟨r12, r22, Or.inr ⟨m, hm, by rw [hlat2]; exact hlat, hzy2⟩⟩
        refine hJ (40 - (m + 1)) _ _ _ ⟨m + 1, rfl, by omega, by omega, by rw [nI_1], rfl, hrn1.tr hrn2, hxi2, r12, r22, by rw [hlat2]; exact hlat, hzy2, hh2, ?_⟩
        rw [show m + 1 - 1 = m from rfl, wHD_2]
        exact hd2
      · have hle : yr ≤ m := by
          rcases Nat.lt_or_ge m yr with q | q
          · exact absurd ((nI_ltI (by omega) (by omega)).mpr q) h1
          · exact q
        exact h M1 m hrn1 hxi1 hle hm r1 r2 hlat hzy
  · exact h.elim
end
section
/-! DeltaRuns againstFrom -/
theorem zd_X7_againstFrom_0 : decode cX7_againstFrom 0 = .ok (.iload_n 1, 1) := by decide +kernel
theorem zd_X7_againstFrom_1 : decode cX7_againstFrom 1 = .ok (.istore 4, 2) := by decide +kernel
theorem zd_X7_againstFrom_3 : decode cX7_againstFrom 3 = .ok (.iload 4, 2) := by decide +kernel
theorem zd_X7_againstFrom_5 : decode cX7_againstFrom 5 = .ok (.aload_n 0, 1) := by decide +kernel
theorem zd_X7_againstFrom_6 : decode cX7_againstFrom 6 = .ok (.getfield 26, 3) := by decide +kernel
theorem zd_X7_againstFrom_9 : decode cX7_againstFrom 9 = .ok (.getfield 72, 3) := by decide +kernel
theorem zd_X7_againstFrom_12 : decode cX7_againstFrom 12 = .ok (.if_icmp .ge 73, 3) := by decide +kernel
theorem zd_X7_againstFrom_15 : decode cX7_againstFrom 15 = .ok (.aload_n 0, 1) := by decide +kernel
theorem zd_X7_againstFrom_16 : decode cX7_againstFrom 16 = .ok (.getfield 26, 3) := by decide +kernel
theorem zd_X7_againstFrom_19 : decode cX7_againstFrom 19 = .ok (.getfield 207, 3) := by decide +kernel
theorem zd_X7_againstFrom_22 : decode cX7_againstFrom 22 = .ok (.iload 4, 2) := by decide +kernel
theorem zd_X7_againstFrom_24 : decode cX7_againstFrom 24 = .ok (.iaload, 1) := by decide +kernel
theorem zd_X7_againstFrom_25 : decode cX7_againstFrom 25 = .ok (.iload_n 3, 1) := by decide +kernel
theorem zd_X7_againstFrom_26 : decode cX7_againstFrom 26 = .ok (.if_icmp .gt 53, 3) := by decide +kernel
theorem zd_X7_againstFrom_29 : decode cX7_againstFrom 29 = .ok (.aload_n 0, 1) := by decide +kernel
theorem zd_X7_againstFrom_30 : decode cX7_againstFrom 30 = .ok (.getfield 26, 3) := by decide +kernel
theorem zd_X7_againstFrom_33 : decode cX7_againstFrom 33 = .ok (.getfield 210, 3) := by decide +kernel
theorem zd_X7_againstFrom_36 : decode cX7_againstFrom 36 = .ok (.iload 4, 2) := by decide +kernel
theorem zd_X7_againstFrom_38 : decode cX7_againstFrom 38 = .ok (.iaload, 1) := by decide +kernel
theorem zd_X7_againstFrom_39 : decode cX7_againstFrom 39 = .ok (.istore 5, 2) := by decide +kernel
theorem zd_X7_againstFrom_41 : decode cX7_againstFrom 41 = .ok (.aload_n 0, 1) := by decide +kernel
theorem zd_X7_againstFrom_42 : decode cX7_againstFrom 42 = .ok (.iload_n 2, 1) := by decide +kernel
theorem zd_X7_againstFrom_43 : decode cX7_againstFrom 43 = .ok (.iload 5, 2) := by decide +kernel
theorem zd_X7_againstFrom_45 : decode cX7_againstFrom 45 = .ok (.invokevirtual 119, 3) := by decide +kernel
theorem zd_X7_againstFrom_48 : decode cX7_againstFrom 48 = .ok (.iload 5, 2) := by decide +kernel
theorem zd_X7_againstFrom_50 : decode cX7_againstFrom 50 = .ok (.aload_n 0, 1) := by decide +kernel
theorem zd_X7_againstFrom_51 : decode cX7_againstFrom 51 = .ok (.getfield 26, 3) := by decide +kernel
theorem zd_X7_againstFrom_54 : decode cX7_againstFrom 54 = .ok (.getfield 213, 3) := by decide +kernel
theorem zd_X7_againstFrom_57 : decode cX7_againstFrom 57 = .ok (.iload 4, 2) := by decide +kernel
theorem zd_X7_againstFrom_59 : decode cX7_againstFrom 59 = .ok (.iaload, 1) := by decide +kernel
theorem zd_X7_againstFrom_60 : decode cX7_againstFrom 60 = .ok (.invokevirtual 123, 3) := by decide +kernel
theorem zd_X7_againstFrom_63 : decode cX7_againstFrom 63 = .ok (.aload_n 0, 1) := by decide +kernel
theorem zd_X7_againstFrom_64 : decode cX7_againstFrom 64 = .ok (.getfield 26, 3) := by decide +kernel
theorem zd_X7_againstFrom_67 : decode cX7_againstFrom 67 = .ok (.getfield 216, 3) := by decide +kernel
theorem zd_X7_againstFrom_70 : decode cX7_againstFrom 70 = .ok (.iload 4, 2) := by decide +kernel
theorem zd_X7_againstFrom_72 : decode cX7_againstFrom 72 = .ok (.iaload, 1) := by decide +kernel
theorem zd_X7_againstFrom_73 : decode cX7_againstFrom 73 = .ok (.if_icmp .eq 6, 3) := by decide +kernel
theorem zd_X7_againstFrom_76 : decode cX7_againstFrom 76 = .ok (.iload 4, 2) := by decide +kernel
theorem zd_X7_againstFrom_78 : decode cX7_againstFrom 78 = .ok (.ireturn, 1) := by decide +kernel
theorem zd_X7_againstFrom_79 : decode cX7_againstFrom 79 = .ok (.iinc 4 1, 3) := by decide +kernel
theorem zd_X7_againstFrom_82 : decode cX7_againstFrom 82 = .ok (.goto (-79), 3) := by decide +kernel
theorem zd_X7_againstFrom_85 : decode cX7_againstFrom 85 = .ok (.iconst (-1), 1) := by decide +kernel
theorem zd_X7_againstFrom_86 : decode cX7_againstFrom 86 = .ok (.ireturn, 1) := by decide +kernel
def zb_X7_againstFrom_0 (K : zKt) (J : Nat → zPP) (lc lz : Nat) : zPP := zT_ild 1 (zT_ist 4 (J 3))
theorem zbs_X7_againstFrom_0 {X : zCt} (hR : zRX X = { frames := 5, cells := 4, slots := 934, locals := 119 }) (J : Nat → zPP) (hJ : ∀ h ∈ ([3] : List Nat), zSd X RX7 "againstFrom" cX7_againstFrom 6 (some .int) h (J h)) : zSd X RX7 "againstFrom" cX7_againstFrom 6 (some .int) 0 (zb_X7_againstFrom_0 (zKX X) J (zlc X) (zls X)) := zs_iload_n zd_X7_againstFrom_0 rfl (zs_istore zd_X7_againstFrom_1 (by decide) (hJ 3 (by decide)))
def zb_X7_againstFrom_79 (K : zKt) (J : Nat → zPP) (lc lz : Nat) : zPP := zT_iinc 4 1 (J 3)
theorem zbs_X7_againstFrom_79 {X : zCt} (hR : zRX X = { frames := 5, cells := 4, slots := 934, locals := 119 }) (J : Nat → zPP) (hJ : ∀ h ∈ ([3] : List Nat), zSd X RX7 "againstFrom" cX7_againstFrom 6 (some .int) h (J h)) : zSd X RX7 "againstFrom" cX7_againstFrom 6 (some .int) 79 (zb_X7_againstFrom_79 (zKX X) J (zlc X) (zls X)) := zs_iinc zd_X7_againstFrom_79 (by decide) (by decide) (zs_goto (tgt := 3) zd_X7_againstFrom_82 (by decide) (hJ 3 (by decide)))
def zb_X7_againstFrom_3 (K : zKt) (J : Nat → zPP) (lc lz : Nat) : zPP := zT_ild 4 (zT_ald 0 (zT_getR 7 2 9 (zT_getI 0 4 5 (zT_if2 (fun x y => y ≤ x) (zT_push (.int (-1)) (zT_iret K)) (zT_ald 0 (zT_getR 7 2 9 (zT_getR 0 3 5 (zT_ild 4 (zT_ald0 0 (zT_ild 3 (zT_if2 (fun x y => y < x) (zb_X7_againstFrom_79 K J lc lz) (zT_ald 0 (zT_getR 7 2 9 (zT_getR 0 0 5 (zT_ild 4 (zT_ald0 0 (zT_ist 5 (zT_ald 0 (zT_ild 2 (zT_ild 5 (zT_V2 (zlm 2 467 lc lz) 7 9 zc_X7_runTo (zT_ild 5 (zT_ald 0 (zT_getR 7 2 9 (zT_getR 0 1 5 (zT_ild 4 (zT_ald0 0 (zT_V2 zok 6 2 zc_X6_heightOf (zT_ald 0 (zT_getR 7 2 9 (zT_getR 0 2 5 (zT_ild 4 (zT_ald0 0 (zT_if2 (fun x y => x = y) (zb_X7_againstFrom_79 K J lc lz) (zT_ild 4 (zT_iret K))))))))))))))))))))))))))))))))))))
theorem zbs_X7_againstFrom_3 {X : zCt} (hR : zRX X = { frames := 5, cells := 4, slots := 934, locals := 119 }) (J : Nat → zPP) (hJ : ∀ h ∈ ([3] : List Nat), zSd X RX7 "againstFrom" cX7_againstFrom 6 (some .int) h (J h)) : zSd X RX7 "againstFrom" cX7_againstFrom 6 (some .int) 3 (zb_X7_againstFrom_3 (zKX X) J (zlc X) (zls X)) := zs_iload zd_X7_againstFrom_3 (zs_aload_n zd_X7_againstFrom_5 rfl (zs_getR (ci := 7) (j := 2) (T := TX7) rfl inX7 (by decide) gw_1_187 rfl zd_X7_againstFrom_6 (zs_getI (ci := 0) (j := 4) (T := TX0) rfl inX0 (by decide) gw_1_93 rfl zd_X7_againstFrom_9 (zs_icmp_ge (tgt := 85) zd_X7_againstFrom_12 (by decide) (zs_iconst zd_X7_againstFrom_85 (by decide) (zs_iret rfl zd_X7_againstFrom_86)) (zs_aload_n zd_X7_againstFrom_15 rfl (zs_getR (ci := 7) (j := 2) (T := TX7) rfl inX7 (by decide) gw_1_187 rfl zd_X7_againstFrom_16 (zs_getR (ci := 0) (j := 3) (T := TX0) rfl inX0 (by decide) gw_1_91 rfl zd_X7_againstFrom_19 (zs_iload zd_X7_againstFrom_22 (zs_iald zd_X7_againstFrom_24 (zs_iload_n zd_X7_againstFrom_25 rfl (zs_icmp_gt (tgt := 79) zd_X7_againstFrom_26 (by decide) (zbs_X7_againstFrom_79 hR J hJ) (zs_aload_n zd_X7_againstFrom_29 rfl (zs_getR (ci := 7) (j := 2) (T := TX7) rfl inX7 (by decide) gw_1_187 rfl zd_X7_againstFrom_30 (zs_getR (ci := 0) (j := 0) (T := TX0) rfl inX0 (by decide) gw_1_85 rfl zd_X7_againstFrom_33 (zs_iload zd_X7_againstFrom_36 (zs_iald zd_X7_againstFrom_38 (zs_istore zd_X7_againstFrom_39 (by decide) (zs_aload_n zd_X7_againstFrom_41 rfl (zs_iload_n zd_X7_againstFrom_42 rfl (zs_iload zd_X7_againstFrom_43 (zs_V (ci := 7) rfl rfl (zm_X7_runTo _ _ _) gw_2_160 gw_2_157 gw_2_159 gw_0_9 gw_1_1 zdn_X7_runTo (zrm hR (by decide) (by decide)) zd_X7_againstFrom_45 (zCl_V2 zlm_l) (zs_iload zd_X7_againstFrom_48 (zs_aload_n zd_X7_againstFrom_50 rfl (zs_getR (ci := 7) (j := 2) (T := TX7) rfl inX7 (by decide) gw_1_187 rfl zd_X7_againstFrom_51 (zs_getR (ci := 0) (j := 1) (T := TX0) rfl inX0 (by decide) gw_1_87 rfl zd_X7_againstFrom_54 (zs_iload zd_X7_againstFrom_57 (zs_iald zd_X7_againstFrom_59 (zs_V (ci := 6) rfl rfl (zm_X6_heightOf _ _ _) gw_2_190 gw_2_187 gw_2_188 gw_2_189 gw_1_14 zdn_X6_heightOf (zrm hR (by decide) (by decide)) zd_X7_againstFrom_60 (zCl_V2 zok_l) (zs_aload_n zd_X7_againstFrom_63 rfl (zs_getR (ci := 7) (j := 2) (T := TX7) rfl inX7 (by decide) gw_1_187 rfl zd_X7_againstFrom_64 (zs_getR (ci := 0) (j := 2) (T := TX0) rfl inX0 (by decide) gw_1_89 rfl zd_X7_againstFrom_67 (zs_iload zd_X7_againstFrom_70 (zs_iald zd_X7_againstFrom_72 (zs_icmp_eq (tgt := 79) zd_X7_againstFrom_73 (by decide) (zbs_X7_againstFrom_79 hR J hJ) (zs_iload zd_X7_againstFrom_76 (zs_iret rfl zd_X7_againstFrom_78))))))))))))))))))))))))))))))))))))
def zB_X7_againstFrom (K : zKt) (lc lz : Nat) (J : Nat → zPP) (h : Nat) : zPP := if h = 3 then zb_X7_againstFrom_3 K J lc lz else (fun _ _ _ => False)
theorem zBs_X7_againstFrom {X : zCt} (hR : zRX X = { frames := 5, cells := 4, slots := 934, locals := 119 }) : ∀ J : Nat → zPP, (∀ h ∈ ([3] : List Nat), zSd X RX7 "againstFrom" cX7_againstFrom 6 (some .int) h (J h)) → ∀ h ∈ ([3] : List Nat), zSd X RX7 "againstFrom" cX7_againstFrom 6 (some .int) h (zB_X7_againstFrom (zKX X) (zlc X) (zls X) J h) := by
  intro J hJ h hh
  unfold zB_X7_againstFrom
  simp only [List.mem_cons, List.not_mem_nil, or_false] at hh
  subst hh
  exact zbs_X7_againstFrom_3 hR J hJ
theorem zdn_X7_againstFrom : yX7_againstFrom.cls ≠ "java/lang/invoke/MethodHandle" ∧ yX7_againstFrom.cls ≠ "java/lang/invoke/VarHandle" ∧ (parseMethodDescriptor yX7_againstFrom.desc).map (fun d => d.parameters.length) = some 3 := by decide +kernel
/-! DeltaRuns isDay -/
theorem zd_X7_isDay_0 : decode cX7_isDay 0 = .ok (.iload_n 0, 1) := by decide +kernel
theorem zd_X7_isDay_1 : decode cX7_isDay 1 = .ok (.iconst 0, 1) := by decide +kernel
theorem zd_X7_isDay_2 : decode cX7_isDay 2 = .ok (.sipush 1000, 3) := by decide +kernel
theorem zd_X7_isDay_5 : decode cX7_isDay 5 = .ok (.invokestatic 60, 3) := by decide +kernel
theorem zd_X7_isDay_8 : decode cX7_isDay 8 = .ok (.ireturn, 1) := by decide +kernel
def zb_X7_isDay_0 (K : zKt) (J : Nat → zPP) : zPP := zT_ild 0 (zT_push (.int 0) (zT_push (.int 1000) (zT_S3 zok zc_X7_within (zT_nret .boolean K))))
theorem zbs_X7_isDay_0 {X : zCt} (hR : zRX X = { frames := 1, cells := 0, slots := 0, locals := 22 }) (J : Nat → zPP) (hJ : ∀ h ∈ ([] : List Nat), zSd X RX7 "isDay" cX7_isDay 1 (some .boolean) h (J h)) : zSd X RX7 "isDay" cX7_isDay 1 (some .boolean) 0 (zb_X7_isDay_0 (zKX X) J) := zs_iload_n zd_X7_isDay_0 rfl (zs_iconst zd_X7_isDay_1 (by decide) (zs_sipush zd_X7_isDay_2 (by decide) (zs_S (zm_X7_within _ _ _) gw_1_219 gw_1_217 gw_1_218 gw_1_1 zdn_X7_within (zrm hR (by decide) (by decide)) zd_X7_isDay_5 (zCl_S3 zok_l) (zs_nret rfl zd_X7_isDay_8))))
theorem zdn_X7_isDay : yX7_isDay.cls ≠ "java/lang/invoke/MethodHandle" ∧ yX7_isDay.cls ≠ "java/lang/invoke/VarHandle" ∧ (parseMethodDescriptor yX7_isDay.desc).map (fun d => d.parameters.length) = some 1 := by decide +kernel
/-! ENTRIES: (year, cell, height, day); againstFrom -/
abbrev wEn : Type := Nat × Nat × Nat × Nat
def wey (e : wEn) : Nat := e.1
def wec (e : wEn) : Nat := e.2.1
def weh (e : wEn) : Nat := e.2.2.1
def wed (e : wEn) : Nat := e.2.2.2
def weok (e : wEn) : Prop := wey e ≤ 30 ∧ wec e < 120 ∧ weh e ≤ 200 ∧ wed e ≤ 1000
def zEn (M : zMm) (es : List wEn) : Prop := M.2.1 5 4 = nI es.length ∧ es.length ≤ 200 ∧ ∀ i e, es[i]? = some e → weok e ∧ M.2.1 6 i = nI (wey e) ∧ M.2.1 7 i = nI (wec e) ∧ M.2.1 8 i = nI (weh e) ∧ M.2.1 9 i = nI (wed e)
theorem zEn.run {M M' : zMm} {es : List wEn} {r : Nat} (h : zEn M es) (hn : zrn M M' r) : zEn M' es := by
  unfold zEn
  rw [hn.row (k := 5) (by omega), hn.row (k := 6) (by omega), hn.row (k := 7) (by omega), hn.row (k := 8) (by omega), hn.row (k := 9) (by omega)]
  exact h
/-- the first of k from i on -/
def wff (p : Nat → Bool) : Nat → Nat → Option Nat
  | 0, _ => none
  | k + 1, i => if p i = true then some i else wff p k (i + 1)
def woi (o : Option Nat) : Int32 := match o with
  | some j => nI j
  | none => -1
def weA (es : List wEn) (i : Nat) : wEn := es.getD i (0, 0, 0, 0)
theorem weA_get {es : List wEn} {i : Nat} (h : i < es.length) : es[i]? = some (weA es i) := by
  unfold weA
  rw [List.getD_eq_getElem?_getD, List.getElem?_eq_getElem h]
  rfl
/-- the entry i is known by the day and not as under the rule r; HT: the heights under r -/
def wbd (HT : Nat → Nat → Nat) (day : Nat) (e : wEn) : Bool := decide (wed e ≤ day ∧ HT (wey e) (wec e) ≠ weh e)
def wHT (σ : wSP) (r n x : Nat) : Nat := (wHD σ r n).1 x
def wAG (σ : wSP) (es : List wEn) (r day i : Nat) : Option Nat := wff (fun j => wbd (wHT σ r) day (weA es j)) (es.length - i) i
theorem zrn.ss {M M' : zMm} {r : Nat} (h : zrn M M' r) (hr : r < 36) : zss M.1 ≤ zss M'.1 ∧ zss M'.1 ≤ zss M.1 + 467 := by
  rcases h.1 with ⟨p1, -⟩ | ⟨-, p2, -⟩
  · rw [p1]; omega
  · obtain ⟨y0, y1⟩ := zyk_sh (yk := zyi r) ⟨r, hr, rfl⟩
    have z0 : zsz (zyi r) = 2 := zsz_obj y0
    have z1 : zsz (zyi r + 1) = 465 := by unfold zsz; rw [y1]; rfl
    have : zss (M.1 ++ [zyi r, zyi r + 1]) = zss M.1 + 467 := by
      unfold zss
      rw [List.map_append, List.sum_append]
      simp [z0, z1]
    rw [p2, this]
    omega
def zc_X7_againstFrom (a : List Value) (M : zMm) (K : zKt) : Prop := match a with
  | [.ref k, .int f, .int x, .int d] => k = 0 ∧ ∃ i r day σ pk dk p es, f = nI i ∧ i ≤ es.length ∧ x = nI r ∧ r < 36 ∧ d = nI day ∧ day ≤ 1000 ∧ zXI M σ pk dk p ∧ zEn M es ∧ ∀ M', zrn M M' r → zXI M' σ pk dk p → K (some (.int (woi (wAG σ es r day i)))) M'
  | _ => False
set_option maxHeartbeats 4000000 in
theorem zm_X7_againstFrom (l : Launch) (D : va_G) (Y : Nat → ClassId) : zMt l D Y yX7_againstFrom cX7_againstFrom 6 (some .int) 5 119 4 934 zc_X7_againstFrom := by
  refine zwhile1 (h0 := 3) (by decide) (fun K J lc lz => zb_X7_againstFrom_0 K J lc lz) (fun K lc lz J => zb_X7_againstFrom_3 K J lc lz) (fun X hR J hJ => zbs_X7_againstFrom_0 hR J hJ) (fun X hR J hJ => zbs_X7_againstFrom_3 hR J hJ) (fun avs M K h => ?_)
  unfold zc_X7_againstFrom at h
  split at h
  · next k f x d =>
    obtain ⟨rfl, i0, r, day, σ, pk, dk, p, es, rfl, hi0, rfl, hr, rfl, hday, hXI, hEn, h⟩ := h
    obtain ⟨y0, y1⟩ := zyk_sh (yk := zyi r) ⟨r, hr, rfl⟩
    have hl200 := hEn.2.1
    refine ⟨by simp [zent], fun q M' ls st => ∃ i o, q = 201 - i ∧ i ≤ es.length ∧ ls = [some (.ref 0), some (.int (nI i0)), some (.int (nI r)), some (.int (nI day)), some (.int (nI i)), o] ∧ st = [] ∧ zrn M M' r ∧ zXI M' σ pk dk p ∧ wAG σ es r day i = wAG σ es r day i0, ?_, ?_⟩
    · rintro q J hJ M' ls st ⟨i, o, rfl, hi, rfl, rfl, hrn, hxi, hag⟩
      obtain ⟨hxr, hok, -⟩ := id hxi
      obtain ⟨a0, a1, a2, a3, a4, a5, a6, a7, a8, a9, a10, a11, a12, -⟩ := id hxr
      obtain ⟨en1, en2, en3⟩ := hEn.run hrn
      simp only [zb_X7_againstFrom_3, zsh_0, zsh_5, zsh_6, zsh_9, a2, a9, a12, en1, zT_push, zT_bin, zT_div, zT_bil, zT_shl, zT_un, zT_i2l, zT_l2i, zT_lcmp, zT_ild, zT_lld, zT_ald, zT_ist, zT_lst, zT_ast, zT_iinc, zT_dup, zT_dup2, zT_pop, zT_if1, zT_if2, zT_ifn, zT_getI, zT_getJ, zT_getR, zT_putI, zT_putZ, zT_putJ, zT_putR, zT_ald0, zT_lald, zT_aald, zT_iast, zT_zast, zT_bast, zT_last, zT_aast, zT_iret, zT_nret, zT_aret, zT_vret, zT_oi, zT_mm, zT_ialX, zT_S1, zT_S2, zT_S3, zT_V0, zT_V1, zT_V2, zT_V3, zT_V4, zT_V5, zT_V6, zT_I0, zT_I1, zT_I2, zlg, zlset, zlpr, zent, zok, va_rf, List.length_cons, List.length_nil, List.replicate, List.cons_append, List.nil_append, List.append_nil, Option.toList_some, Option.toList_none, Option.toList, Nat.reduceAdd, Nat.reduceSub, Nat.reduceLeDiff, Nat.zero_add, Nat.zero_le, true_and, and_true, Nat.le_refl, ge_iff_le, Nat.reduceEqDiff]
      refine ⟨fun h1 => ?_, fun h1 => ?_⟩
      · have := zn_ge' h1 (by omega) (by omega)
        have e : i = es.length := by omega
        subst e
        have h2 := h M' hrn hxi
        rw [← hag] at h2
        unfold wAG at h2
        rw [Nat.sub_self] at h2
        exact h2
      · have hlt := zn_ge h1 (by omega) (by omega)
        have hg := weA_get hlt
        obtain ⟨⟨o1, o2, o3, o4⟩, v1, v2, v3, v4⟩ := en3 i _ hg
        have hunf : wAG σ es r day i = if wbd (wHT σ r) day (weA es i) = true then some i else wAG σ es r day (i + 1) := by
          unfold wAG
          rw [show es.length - i = (es.length - (i + 1)) + 1 from by omega]
          rfl
        have hin : vp_in (nI i) 200 := vp_in_nI (by omega) (by decide)
        have skip : ∀ M2 o, zrn M M2 r → zXI M2 σ pk dk p → wbd (wHT σ r) day (weA es i) = false → zb_X7_againstFrom_79 K J (M.1.length + 4) (zss M.1 + 934) M2 [some (.ref 0), some (.int (nI i0)), some (.int (nI r)), some (.int (nI day)), some (.int (nI i)), o] [] := by
          intro M2 o hrn2 hxi2 hb
          simp only [zb_X7_againstFrom_79, zT_push, zT_bin, zT_div, zT_bil, zT_shl, zT_un, zT_i2l, zT_l2i, zT_lcmp, zT_ild, zT_lld, zT_ald, zT_ist, zT_lst, zT_ast, zT_iinc, zT_dup, zT_dup2, zT_pop, zT_if1, zT_if2, zT_ifn, zT_getI, zT_getJ, zT_getR, zT_putI, zT_putZ, zT_putJ, zT_putR, zT_ald0, zT_lald, zT_aald, zT_iast, zT_zast, zT_bast, zT_last, zT_aast, zT_iret, zT_nret, zT_aret, zT_vret, zT_oi, zT_mm, zT_ialX, zT_S1, zT_S2, zT_S3, zT_V0, zT_V1, zT_V2, zT_V3, zT_V4, zT_V5, zT_V6, zT_I0, zT_I1, zT_I2, zlg, zlset, zlpr, zent, zok, va_rf, List.length_cons, List.length_nil, List.replicate, List.cons_append, List.nil_append, List.append_nil, Option.toList_some, Option.toList_none, Option.toList, Nat.reduceAdd, Nat.reduceSub, Nat.reduceLeDiff, Nat.zero_add, Nat.zero_le, true_and, and_true, Nat.le_refl, ge_iff_le, Nat.reduceEqDiff]
          refine hJ (201 - (i + 1)) _ _ _ (by omega) ⟨i + 1, o, rfl, hlt, by rw [nI_1], rfl, hrn2, hxi2, ?_⟩
          rw [← hag, hunf, hb]
          simp
        rw [nI_clamp (by omega), v4, v1]
        refine ⟨hin, fun h2 => ?_, fun h2 => ?_⟩
        · refine skip M' _ hrn hxi ?_
          have := (nI_ltI (by omega) (by omega)).mp h2
          unfold wbd
          simp only [decide_eq_false_iff_not]
          omega
        · have hle : wed (weA es i) ≤ day := by
            rcases Nat.lt_or_ge day (wed (weA es i)) with q | q
            · exact absurd ((nI_ltI (by omega) (by omega)).mpr q) h2
            · exact q
          have hln := hrn.len
          have hss := hrn.ss hr
          refine ⟨hin, ⟨by omega, by omega⟩, ?_⟩
          unfold zc_X7_runTo
          dsimp only
          refine ⟨rfl, r, wey (weA es i), σ, pk, dk, p, rfl, hr, rfl, o1, hxi, fun M2 m hrn2 hxi2 hm1 hm2 r1 r2 hlat hzy => ?_⟩
          obtain ⟨hxr2, hok2, -⟩ := id hxi2
          obtain ⟨b0, b1, b2, b3, b4, b5, b6, b7, b8, b9, b10, b11, b12, -⟩ := id hxr2
          obtain ⟨-, -, en32⟩ := hEn.run (hrn.tr hrn2)
          obtain ⟨-, u1, u2, u3, u4⟩ := en32 i _ hg
          simp only [zsh_0, zsh_5, zsh_7, zsh_8, y0, b2, b10, b11, zT_push, zT_bin, zT_div, zT_bil, zT_shl, zT_un, zT_i2l, zT_l2i, zT_lcmp, zT_ild, zT_lld, zT_ald, zT_ist, zT_lst, zT_ast, zT_iinc, zT_dup, zT_dup2, zT_pop, zT_if1, zT_if2, zT_ifn, zT_getI, zT_getJ, zT_getR, zT_putI, zT_putZ, zT_putJ, zT_putR, zT_ald0, zT_lald, zT_aald, zT_iast, zT_zast, zT_bast, zT_last, zT_aast, zT_iret, zT_nret, zT_aret, zT_vret, zT_oi, zT_mm, zT_ialX, zT_S1, zT_S2, zT_S3, zT_V0, zT_V1, zT_V2, zT_V3, zT_V4, zT_V5, zT_V6, zT_I0, zT_I1, zT_I2, zlg, zlset, zlpr, zent, zok, va_rf, List.length_cons, List.length_nil, List.replicate, List.cons_append, List.nil_append, List.append_nil, Option.toList_some, Option.toList_none, Option.toList, Nat.reduceAdd, Nat.reduceSub, Nat.reduceLeDiff, Nat.zero_add, Nat.zero_le, true_and, and_true, Nat.le_refl, ge_iff_le, Nat.reduceEqDiff]
          rw [nI_clamp (by omega), u2]
          refine ⟨hin, ?_⟩
          unfold zc_X6_heightOf
          dsimp only
          refine ⟨⟨⟨r, hr, rfl⟩, r2⟩, wey (weA es i), wec (weA es i), (wHD σ r (wey (weA es i))).1, rfl, o1, rfl, o2, fun e _ => wHD_le hok r _ e, fun j hj => hzy _ hm1 j hj, ?_⟩
          simp only [zsh_0, zsh_5, zsh_8, b2, b11, zT_push, zT_bin, zT_div, zT_bil, zT_shl, zT_un, zT_i2l, zT_l2i, zT_lcmp, zT_ild, zT_lld, zT_ald, zT_ist, zT_lst, zT_ast, zT_iinc, zT_dup, zT_dup2, zT_pop, zT_if1, zT_if2, zT_ifn, zT_getI, zT_getJ, zT_getR, zT_putI, zT_putZ, zT_putJ, zT_putR, zT_ald0, zT_lald, zT_aald, zT_iast, zT_zast, zT_bast, zT_last, zT_aast, zT_iret, zT_nret, zT_aret, zT_vret, zT_oi, zT_mm, zT_ialX, zT_S1, zT_S2, zT_S3, zT_V0, zT_V1, zT_V2, zT_V3, zT_V4, zT_V5, zT_V6, zT_I0, zT_I1, zT_I2, zlg, zlset, zlpr, zent, zok, va_rf, List.length_cons, List.length_nil, List.replicate, List.cons_append, List.nil_append, List.append_nil, Option.toList_some, Option.toList_none, Option.toList, Nat.reduceAdd, Nat.reduceSub, Nat.reduceLeDiff, Nat.zero_add, Nat.zero_le, true_and, and_true, Nat.le_refl, ge_iff_le, Nat.reduceEqDiff]
          rw [nI_clamp (by omega), u3]
          have hle2 := wHD_le hok r (wey (weA es i)) (wec (weA es i))
          refine ⟨hin, fun h3 => ?_, fun h3 => ?_⟩
          · refine skip M2 _ (hrn.tr hrn2) hxi2 ?_
            have := (nI_eq (by omega) (by omega)).mp h3
            unfold wbd wHT
            simp only [decide_eq_false_iff_not]
            exact fun z => z.2 this
          · have h4 := h M2 (hrn.tr hrn2) hxi2
            rw [← hag, hunf, if_pos] at h4
            · exact h4
            · unfold wbd wHT
              simp only [decide_eq_true_eq]
              exact ⟨hle, fun z => h3 (by rw [z])⟩
    · intro J hJ
      simp only [zb_X7_againstFrom_0, zT_push, zT_bin, zT_div, zT_bil, zT_shl, zT_un, zT_i2l, zT_l2i, zT_lcmp, zT_ild, zT_lld, zT_ald, zT_ist, zT_lst, zT_ast, zT_iinc, zT_dup, zT_dup2, zT_pop, zT_if1, zT_if2, zT_ifn, zT_getI, zT_getJ, zT_getR, zT_putI, zT_putZ, zT_putJ, zT_putR, zT_ald0, zT_lald, zT_aald, zT_iast, zT_zast, zT_bast, zT_last, zT_aast, zT_iret, zT_nret, zT_aret, zT_vret, zT_oi, zT_mm, zT_ialX, zT_S1, zT_S2, zT_S3, zT_V0, zT_V1, zT_V2, zT_V3, zT_V4, zT_V5, zT_V6, zT_I0, zT_I1, zT_I2, zlg, zlset, zlpr, zent, zok, va_rf, List.length_cons, List.length_nil, List.replicate, List.cons_append, List.nil_append, List.append_nil, Option.toList_some, Option.toList_none, Option.toList, Nat.reduceAdd, Nat.reduceSub, Nat.reduceLeDiff, Nat.zero_add, Nat.zero_le, true_and, and_true, Nat.le_refl, ge_iff_le, Nat.reduceEqDiff]
      exact hJ (201 - i0) _ _ _ ⟨i0, none, rfl, hi0, rfl, rfl, zrn.rf, hXI, rfl⟩
  · exact h.elim
def zc_X7_isDay (a : List Value) (M : zMm) (K : zKt) : Prop := match a with
  | [.int x] => K (some (.int (zbI (0 ≤ x ∧ x ≤ 1000)))) M
  | _ => False
theorem zm_X7_isDay (l : Launch) (D : va_G) (Y : Nat → ClassId) : zMt l D Y yX7_isDay cX7_isDay 1 (some .boolean) 1 22 0 0 zc_X7_isDay := by
  refine zflat (by decide) (fun K J _ _ => zb_X7_isDay_0 K J) (fun X hR => zbs_X7_isDay_0 hR zJ0 zJ0_ok) (fun avs M K h => ?_)
  unfold zc_X7_isDay at h
  split at h
  · refine ⟨by simp [zent], ?_⟩
    simp only [zb_X7_isDay_0, zT_push, zT_bin, zT_div, zT_bil, zT_shl, zT_un, zT_i2l, zT_l2i, zT_lcmp, zT_ild, zT_lld, zT_ald, zT_ist, zT_lst, zT_ast, zT_iinc, zT_dup, zT_dup2, zT_pop, zT_if1, zT_if2, zT_ifn, zT_getI, zT_getJ, zT_getR, zT_putI, zT_putZ, zT_putJ, zT_putR, zT_ald0, zT_lald, zT_aald, zT_iast, zT_zast, zT_bast, zT_last, zT_aast, zT_iret, zT_nret, zT_aret, zT_vret, zT_oi, zT_mm, zT_ialX, zT_S1, zT_S2, zT_S3, zT_V0, zT_V1, zT_V2, zT_V3, zT_V4, zT_V5, zT_V6, zT_I0, zT_I1, zT_I2, zlg, zlset, zlpr, zent, zok, va_rf, List.length_cons, List.length_nil, List.replicate, List.cons_append, List.nil_append, List.append_nil, Option.toList_some, Option.toList_none, Option.toList, Nat.reduceAdd, Nat.reduceSub, Nat.reduceLeDiff, Nat.zero_add, Nat.zero_le, true_and, and_true, Nat.le_refl, ge_iff_le, Nat.reduceEqDiff]
    unfold zc_X7_within
    dsimp only
    refine ⟨?_, h⟩
    unfold zbI
    split <;> rfl
  · exact h.elim
end
section
/-! DeltaRuns$Land raise -/
theorem zd_X1_raise_0 : decode cX1_raise 0 = .ok (.iconst 0, 1) := by decide +kernel
theorem zd_X1_raise_1 : decode cX1_raise 1 = .ok (.istore 6, 2) := by decide +kernel
theorem zd_X1_raise_3 : decode cX1_raise 3 = .ok (.iload_n 2, 1) := by decide +kernel
theorem zd_X1_raise_4 : decode cX1_raise 4 = .ok (.istore 7, 2) := by decide +kernel
theorem zd_X1_raise_6 : decode cX1_raise 6 = .ok (.iload 7, 2) := by decide +kernel
theorem zd_X1_raise_8 : decode cX1_raise 8 = .ok (.iload 4, 2) := by decide +kernel
theorem zd_X1_raise_10 : decode cX1_raise 10 = .ok (.if_icmp .gt 41, 3) := by decide +kernel
theorem zd_X1_raise_13 : decode cX1_raise 13 = .ok (.iload_n 1, 1) := by decide +kernel
theorem zd_X1_raise_14 : decode cX1_raise 14 = .ok (.istore 8, 2) := by decide +kernel
theorem zd_X1_raise_16 : decode cX1_raise 16 = .ok (.iload 8, 2) := by decide +kernel
theorem zd_X1_raise_18 : decode cX1_raise 18 = .ok (.iload_n 3, 1) := by decide +kernel
theorem zd_X1_raise_19 : decode cX1_raise 19 = .ok (.if_icmp .gt 26, 3) := by decide +kernel
theorem zd_X1_raise_22 : decode cX1_raise 22 = .ok (.aload_n 0, 1) := by decide +kernel
theorem zd_X1_raise_23 : decode cX1_raise 23 = .ok (.getfield 9, 3) := by decide +kernel
theorem zd_X1_raise_26 : decode cX1_raise 26 = .ok (.iload 8, 2) := by decide +kernel
theorem zd_X1_raise_28 : decode cX1_raise 28 = .ok (.iload 7, 2) := by decide +kernel
theorem zd_X1_raise_30 : decode cX1_raise 30 = .ok (.invokestatic 35, 3) := by decide +kernel
theorem zd_X1_raise_33 : decode cX1_raise 33 = .ok (.iload 5, 2) := by decide +kernel
theorem zd_X1_raise_35 : decode cX1_raise 35 = .ok (.iastore, 1) := by decide +kernel
theorem zd_X1_raise_36 : decode cX1_raise 36 = .ok (.iinc 6 1, 3) := by decide +kernel
theorem zd_X1_raise_39 : decode cX1_raise 39 = .ok (.iinc 8 1, 3) := by decide +kernel
theorem zd_X1_raise_42 : decode cX1_raise 42 = .ok (.goto (-26), 3) := by decide +kernel
theorem zd_X1_raise_45 : decode cX1_raise 45 = .ok (.iinc 7 1, 3) := by decide +kernel
theorem zd_X1_raise_48 : decode cX1_raise 48 = .ok (.goto (-42), 3) := by decide +kernel
theorem zd_X1_raise_51 : decode cX1_raise 51 = .ok (.iload 6, 2) := by decide +kernel
theorem zd_X1_raise_53 : decode cX1_raise 53 = .ok (.ireturn, 1) := by decide +kernel
def zb_X1_raise_0 (K : zKt) (J : Nat → zPP) : zPP := zT_push (.int 0) (zT_ist 6 (zT_ild 2 (zT_ist 7 (J 6))))
theorem zbs_X1_raise_0 {X : zCt} (hR : zRX X = { frames := 1, cells := 0, slots := 0, locals := 21 }) (J : Nat → zPP) (hJ : ∀ h ∈ ([6, 16] : List Nat), zSd X RX1 "raise" cX1_raise 9 (some .int) h (J h)) : zSd X RX1 "raise" cX1_raise 9 (some .int) 0 (zb_X1_raise_0 (zKX X) J) := zs_iconst zd_X1_raise_0 (by decide) (zs_istore zd_X1_raise_1 (by decide) (zs_iload_n zd_X1_raise_3 rfl (zs_istore zd_X1_raise_4 (by decide) (hJ 6 (by decide)))))
def zb_X1_raise_6 (K : zKt) (J : Nat → zPP) : zPP := zT_ild 7 (zT_ild 4 (zT_if2 (fun x y => y < x) (zT_ild 6 (zT_iret K)) (zT_ild 1 (zT_ist 8 (J 16)))))
theorem zbs_X1_raise_6 {X : zCt} (hR : zRX X = { frames := 1, cells := 0, slots := 0, locals := 21 }) (J : Nat → zPP) (hJ : ∀ h ∈ ([6, 16] : List Nat), zSd X RX1 "raise" cX1_raise 9 (some .int) h (J h)) : zSd X RX1 "raise" cX1_raise 9 (some .int) 6 (zb_X1_raise_6 (zKX X) J) := zs_iload zd_X1_raise_6 (zs_iload zd_X1_raise_8 (zs_icmp_gt (tgt := 51) zd_X1_raise_10 (by decide) (zs_iload zd_X1_raise_51 (zs_iret rfl zd_X1_raise_53)) (zs_iload_n zd_X1_raise_13 rfl (zs_istore zd_X1_raise_14 (by decide) (hJ 16 (by decide))))))
def zb_X1_raise_16 (K : zKt) (J : Nat → zPP) : zPP := zT_ild 8 (zT_ild 3 (zT_if2 (fun x y => y < x) (zT_iinc 7 1 (J 6)) (zT_ald 0 (zT_getR 1 0 6 (zT_ild 8 (zT_ild 7 (zT_S2 zok zc_X7_cellAt (zT_ild 5 (zT_iast (zT_iinc 6 1 (zT_iinc 8 1 (J 16))))))))))))
theorem zbs_X1_raise_16 {X : zCt} (hR : zRX X = { frames := 1, cells := 0, slots := 0, locals := 21 }) (J : Nat → zPP) (hJ : ∀ h ∈ ([6, 16] : List Nat), zSd X RX1 "raise" cX1_raise 9 (some .int) h (J h)) : zSd X RX1 "raise" cX1_raise 9 (some .int) 16 (zb_X1_raise_16 (zKX X) J) := zs_iload zd_X1_raise_16 (zs_iload_n zd_X1_raise_18 rfl (zs_icmp_gt (tgt := 45) zd_X1_raise_19 (by decide) (zs_iinc zd_X1_raise_45 (by decide) (by decide) (zs_goto (tgt := 6) zd_X1_raise_48 (by decide) (hJ 6 (by decide)))) (zs_aload_n zd_X1_raise_22 rfl (zs_getR (ci := 1) (j := 0) (T := TX1) rfl inX1 (by decide) gw_1_33 rfl zd_X1_raise_23 (zs_iload zd_X1_raise_26 (zs_iload zd_X1_raise_28 (zs_SN (zm_X7_cellAt _ _ _) gw_2_7 (List.mem_of_getElem? (i := 4) rfl) gw_2_6 gw_1_1 zdn_X7_cellAt (zrm hR (by decide) (by decide)) zd_X1_raise_30 (zCl_S2 zok_l) (zs_iload zd_X1_raise_33 (zs_iast zd_X1_raise_35 (zs_iinc zd_X1_raise_36 (by decide) (by decide) (zs_iinc zd_X1_raise_39 (by decide) (by decide) (zs_goto (tgt := 16) zd_X1_raise_42 (by decide) (hJ 16 (by decide))))))))))))))
def zB_X1_raise (K : zKt) (J : Nat → zPP) (h : Nat) : zPP := if h = 6 then zb_X1_raise_6 K J else if h = 16 then zb_X1_raise_16 K J else (fun _ _ _ => False)
theorem zBs_X1_raise {X : zCt} (hR : zRX X = { frames := 1, cells := 0, slots := 0, locals := 21 }) : ∀ J : Nat → zPP, (∀ h ∈ ([6, 16] : List Nat), zSd X RX1 "raise" cX1_raise 9 (some .int) h (J h)) → ∀ h ∈ ([6, 16] : List Nat), zSd X RX1 "raise" cX1_raise 9 (some .int) h (zB_X1_raise (zKX X) J h) := by
  intro J hJ h hh
  unfold zB_X1_raise
  simp only [List.mem_cons, List.not_mem_nil, or_false] at hh
  rcases hh with rfl | rfl
  · exact zbs_X1_raise_6 hR J hJ
  · exact zbs_X1_raise_16 hR J hJ
theorem zdn_X1_raise : yX1_raise.cls ≠ "java/lang/invoke/MethodHandle" ∧ yX1_raise.cls ≠ "java/lang/invoke/VarHandle" ∧ (parseMethodDescriptor yX1_raise.desc).map (fun d => d.parameters.length) = some 5 := by decide +kernel
/-! THE FULL STATE (σ, entries, tape, fault, status) and small parts -/
abbrev wFS : Type := wSP × List wEn × List Nat × Int32 × Int32
def zTp (M : zMm) (tp : List Nat) : Prop := M.2.1 3 1 = nI tp.length ∧ tp.length ≤ 300 ∧ ∀ i b, tp[i]? = some b → b < 256 ∧ M.2.1 4 i = (nI b).toInt8.toInt32
def zXF (M : zMm) (F : wFS) (pk dk p : Nat) : Prop := zXI M F.1 pk dk p ∧ zEn M F.2.1 ∧ (∀ e ∈ F.2.1, wil (sW F.1) (sH F.1) (wec e)) ∧ zTp M F.2.2.1 ∧ M.2.1 0 7 = F.2.2.2.1 ∧ M.2.1 0 8 = F.2.2.2.2
/-- the years' structure alone, whatever they hold -/
def zYT (M : zMm) : Prop := ∀ r, r < 36 → (M.2.2.2 20 r = none ∧ zyi r ∉ M.1 ∧ zyi r + 1 ∉ M.1) ∨ (M.2.2.2 20 r = some (zyi r) ∧ M.2.2.2 (zyi r) 0 = some (zyi r + 1))
theorem zYS.t {M : zMm} {σ : wSP} (h : zYS M σ) : zYT M := fun r hr => (h r hr).elim Or.inl (fun z => Or.inr ⟨z.1, z.2.1⟩)
/-- but for the kept years all of zXI -/
def zX2 (M : zMm) (σ : wSP) (pk dk p : Nat) : Prop := zXr M pk dk ∧ wsok σ ∧ M.2.1 1 1 = nI (sW σ) ∧ M.2.1 1 2 = nI (sH σ) ∧ M.2.1 1 3 = nI (sS σ) ∧ M.2.1 1 4 = nI (sF σ) ∧ M.2.1 1 5 = nI (sL σ) ∧ (∀ e, e < 120 → M.2.1 2 e = nI (sG σ e)) ∧ zpl M pk (sA σ) ∧ (∃ S : wST, zwt M S.1 S.2 ∧ wwf S) ∧ zYT M ∧ zLL M p
theorem zXI.x2 {M : zMm} {σ : wSP} {pk dk p : Nat} (h : zXI M σ pk dk p) : zX2 M σ pk dk p := by
  obtain ⟨h1, h2, h3, h4, h5, h6, h7, h8, h9, h10, h11, h12⟩ := h
  exact ⟨h1, h2, h3, h4, h5, h6, h7, h8, h9, h10, h11.t, h12⟩
/-- forgetRuns: only the latest years change -/
def zfg0 (M M' : zMm) : Prop := M'.1 = M.1 ∧ M'.2.2 = M.2.2 ∧ (∀ k, k < 100 ∨ 172 ≤ k → M'.2.1 k = M.2.1 k)
def zc_X7_forgetRuns (a : List Value) (M : zMm) (K : zKt) : Prop := match a with
  | [.ref k] => k = 0 ∧ M.2.2.2 0 4 = some 20 ∧ zYT M ∧ ∀ M', zfg0 M M' → (∀ r, r < 36 → M.2.2.2 20 r = some (zyi r) → M'.2.1 (zyi r) 1 = -1) → K none M'
  | _ => False
theorem zm_X7_forgetRuns (l : Launch) (D : va_G) (Y : Nat → ClassId) : zMt l D Y yX7_forgetRuns cX7_forgetRuns 2 none 0 0 0 0 zc_X7_forgetRuns := by
  refine zwhile1 (h0 := 2) (by decide) (fun K J _ _ => zb_X7_forgetRuns_0 K J) (fun K _ _ J => zb_X7_forgetRuns_2 K J) (fun X hR J hJ => zbs_X7_forgetRuns_0 hR J hJ) (fun X hR J hJ => zbs_X7_forgetRuns_2 hR J hJ) (fun avs M K h => ?_)
  unfold zc_X7_forgetRuns at h
  split at h
  · obtain ⟨rfl, hr4, hyt, h⟩ := h
    refine ⟨by simp [zent], fun q M' ls st => ∃ i, q = 36 - i ∧ i ≤ 36 ∧ ls = [some (.ref 0), some (.int (nI i))] ∧ st = [] ∧ zfg0 M M' ∧ (∀ r, r < i → M.2.2.2 20 r = some (zyi r) → M'.2.1 (zyi r) 1 = -1), ?_, ?_⟩
    · rintro q J hJ M' ls st ⟨i, rfl, hi, rfl, rfl, ⟨f1, f2, f3⟩, hc⟩
      have hR : M'.2.2.2 = M.2.2.2 := congrArg Prod.snd f2
      have a4 : M'.2.2.2 0 4 = some 20 := by rw [hR]; exact hr4
      simp only [zb_X7_forgetRuns_2, zsh_0, zsh_20, a4, hR, zT_push, zT_bin, zT_div, zT_bil, zT_shl, zT_un, zT_i2l, zT_l2i, zT_lcmp, zT_ild, zT_lld, zT_ald, zT_ist, zT_lst, zT_ast, zT_iinc, zT_dup, zT_dup2, zT_pop, zT_if1, zT_if2, zT_ifn, zT_getI, zT_getJ, zT_getR, zT_putI, zT_putZ, zT_putJ, zT_putR, zT_ald0, zT_lald, zT_aald, zT_iast, zT_zast, zT_bast, zT_last, zT_aast, zT_iret, zT_nret, zT_aret, zT_vret, zT_oi, zT_mm, zT_ialX, zT_S1, zT_S2, zT_S3, zT_V0, zT_V1, zT_V2, zT_V3, zT_V4, zT_V5, zT_V6, zT_I0, zT_I1, zT_I2, zlg, zlset, zlpr, zent, zok, va_rf, List.length_cons, List.length_nil, List.replicate, List.cons_append, List.nil_append, List.append_nil, Option.toList_some, Option.toList_none, Option.toList, Nat.reduceAdd, Nat.reduceSub, Nat.reduceLeDiff, Nat.zero_add, Nat.zero_le, true_and, and_true, Nat.le_refl, ge_iff_le, Nat.reduceEqDiff]
      refine ⟨fun h1 => ?_, fun h1 => ?_⟩
      · have := zn_ge' (b := 36) h1 (by omega) (by omega)
        have e : i = 36 := by omega
        subst e
        exact h M' ⟨f1, f2, f3⟩ hc
      · have hlt := zn_ge (b := 36) h1 (by omega) (by omega)
        obtain ⟨y0, y1⟩ := zyk_sh (yk := zyi i) ⟨i, hlt, rfl⟩
        rw [nI_clamp (by omega)]
        refine ⟨vp_in_nI hlt (by decide), ?_⟩
        rcases hyt i hlt with ⟨q1, -⟩ | ⟨q1, -⟩
        · rw [q1]
          dsimp only
          simp only [zb_X7_forgetRuns_27, zT_push, zT_bin, zT_div, zT_bil, zT_shl, zT_un, zT_i2l, zT_l2i, zT_lcmp, zT_ild, zT_lld, zT_ald, zT_ist, zT_lst, zT_ast, zT_iinc, zT_dup, zT_dup2, zT_pop, zT_if1, zT_if2, zT_ifn, zT_getI, zT_getJ, zT_getR, zT_putI, zT_putZ, zT_putJ, zT_putR, zT_ald0, zT_lald, zT_aald, zT_iast, zT_zast, zT_bast, zT_last, zT_aast, zT_iret, zT_nret, zT_aret, zT_vret, zT_oi, zT_mm, zT_ialX, zT_S1, zT_S2, zT_S3, zT_V0, zT_V1, zT_V2, zT_V3, zT_V4, zT_V5, zT_V6, zT_I0, zT_I1, zT_I2, zlg, zlset, zlpr, zent, zok, va_rf, List.length_cons, List.length_nil, List.replicate, List.cons_append, List.nil_append, List.append_nil, Option.toList_some, Option.toList_none, Option.toList, Nat.reduceAdd, Nat.reduceSub, Nat.reduceLeDiff, Nat.zero_add, Nat.zero_le, true_and, and_true, Nat.le_refl, ge_iff_le, Nat.reduceEqDiff]
          refine hJ (36 - (i + 1)) _ _ _ (by omega) ⟨i + 1, rfl, hlt, by rw [nI_1], rfl, ⟨f1, f2, f3⟩, fun r hr1 hr2 => ?_⟩
          by_cases e : r = i
          · subst e; rw [q1] at hr2; cases hr2
          · exact hc r (by omega) hr2
        · rw [q1]
          dsimp only
          refine ⟨vp_in_nI hlt (by decide), y0, ?_⟩
          simp only [zb_X7_forgetRuns_27, zT_push, zT_bin, zT_div, zT_bil, zT_shl, zT_un, zT_i2l, zT_l2i, zT_lcmp, zT_ild, zT_lld, zT_ald, zT_ist, zT_lst, zT_ast, zT_iinc, zT_dup, zT_dup2, zT_pop, zT_if1, zT_if2, zT_ifn, zT_getI, zT_getJ, zT_getR, zT_putI, zT_putZ, zT_putJ, zT_putR, zT_ald0, zT_lald, zT_aald, zT_iast, zT_zast, zT_bast, zT_last, zT_aast, zT_iret, zT_nret, zT_aret, zT_vret, zT_oi, zT_mm, zT_ialX, zT_S1, zT_S2, zT_S3, zT_V0, zT_V1, zT_V2, zT_V3, zT_V4, zT_V5, zT_V6, zT_I0, zT_I1, zT_I2, zlg, zlset, zlpr, zent, zok, va_rf, List.length_cons, List.length_nil, List.replicate, List.cons_append, List.nil_append, List.append_nil, Option.toList_some, Option.toList_none, Option.toList, Nat.reduceAdd, Nat.reduceSub, Nat.reduceLeDiff, Nat.zero_add, Nat.zero_le, true_and, and_true, Nat.le_refl, ge_iff_le, Nat.reduceEqDiff]
          refine hJ (36 - (i + 1)) _ _ _ (by omega) ⟨i + 1, rfl, hlt, by rw [nI_1], rfl, ⟨f1, f2, fun k hk => ?_⟩, fun r hr1 hr2 => ?_⟩
          · simp only [zwI_L, zwI_I, zwI_J, zwI_R, zwJ_L, zwJ_I, zwJ_J, zwJ_R, zwR_L, zwR_I, zwR_J, zwR_R, zw2_s, zw2_n, ne_eq, not_false_eq_true, reduceCtorEq, not_true_eq_false, Nat.reduceEqDiff]
            rw [zw2_n (by unfold zyi; omega)]
            exact f3 k hk
          · simp only [zwI_L, zwI_I, zwI_J, zwI_R, zwJ_L, zwJ_I, zwJ_J, zwJ_R, zwR_L, zwR_I, zwR_J, zwR_R, zw2_s, zw2_n, ne_eq, not_false_eq_true, reduceCtorEq, not_true_eq_false, Nat.reduceEqDiff]
            by_cases e : r = i
            · subst e; rw [zw2_s, zup_s]
            · rw [zw2_n (zyi_ne e).1]
              exact hc r (by omega) hr2
    · intro J hJ
      simp only [zb_X7_forgetRuns_0, zT_push, zT_bin, zT_div, zT_bil, zT_shl, zT_un, zT_i2l, zT_l2i, zT_lcmp, zT_ild, zT_lld, zT_ald, zT_ist, zT_lst, zT_ast, zT_iinc, zT_dup, zT_dup2, zT_pop, zT_if1, zT_if2, zT_ifn, zT_getI, zT_getJ, zT_getR, zT_putI, zT_putZ, zT_putJ, zT_putR, zT_ald0, zT_lald, zT_aald, zT_iast, zT_zast, zT_bast, zT_last, zT_aast, zT_iret, zT_nret, zT_aret, zT_vret, zT_oi, zT_mm, zT_ialX, zT_S1, zT_S2, zT_S3, zT_V0, zT_V1, zT_V2, zT_V3, zT_V4, zT_V5, zT_V6, zT_I0, zT_I1, zT_I2, zlg, zlset, zlpr, zent, zok, va_rf, List.length_cons, List.length_nil, List.replicate, List.cons_append, List.nil_append, List.append_nil, Option.toList_some, Option.toList_none, Option.toList, Nat.reduceAdd, Nat.reduceSub, Nat.reduceLeDiff, Nat.zero_add, Nat.zero_le, true_and, and_true, Nat.le_refl, ge_iff_le, Nat.reduceEqDiff]
      exact hJ 36 _ _ _ ⟨0, rfl, by omega, rfl, rfl, ⟨rfl, rfl, fun _ _ => rfl⟩, fun r hr => absurd hr (Nat.not_lt_zero _)⟩
  · exact h.elim
theorem zX2.forget {M M' : zMm} {σ : wSP} {pk dk p : Nat} (h : zX2 M σ pk dk p) (hf : zfg0 M M') (hl : ∀ r, r < 36 → M.2.2.2 20 r = some (zyi r) → M'.2.1 (zyi r) 1 = -1) : zXI M' σ pk dk p := by
  obtain ⟨h1, h2, h3, h4, h5, h6, h7, h8, h9, ⟨S, hS1, hS2⟩, h11, h12⟩ := h
  obtain ⟨f1, f2, f3⟩ := hf
  have hR : M'.2.2.2 = M.2.2.2 := congrArg Prod.snd f2
  have e : ∀ {k : Nat}, k < 100 → M'.2.1 k = M.2.1 k := fun hk => f3 _ (Or.inl hk)
  refine ⟨h1.to hR, h2, by rw [e (by decide)]; exact h3, by rw [e (by decide)]; exact h4, by rw [e (by decide)]; exact h5, by rw [e (by decide)]; exact h6, by rw [e (by decide)]; exact h7, by rw [e (by decide)]; exact h8, ?_, ⟨S, ?_, hS2⟩, fun r hr => ?_, ?_⟩
  · obtain ⟨g1, g2⟩ := h9
    refine ⟨g1, ?_⟩
    have hp : pk < 28 := by omega
    rw [hR, e (k := pk) (by omega), e (k := pk + 1) (by omega), e (k := pk + 2) (by omega), e (k := pk + 3) (by omega), e (k := pk + 4) (by omega), e (k := pk + 5) (by omega)]
    exact g2
  · unfold zwt
    rw [e (k := 13) (by decide), e (k := 15) (by decide), e (k := 10) (by decide)]
    exact hS1
  · rw [hR, f1]
    rcases h11 r hr with z | ⟨z1, z2⟩
    · exact Or.inl z
    · exact Or.inr ⟨z1, z2, Or.inl (hl r hr z1)⟩
  · have : zlv M' = zlv M := by unfold zlv; rw [hR]
    unfold zLL
    rw [this, f1]
    exact h12
/-- Land.raise -/
def zc_X1_raise (a : List Value) (M : zMm) (K : zKt) : Prop := match a with
  | [.ref k, .int x1, .int y1, .int u1, .int v1, .int g] => k = 1 ∧ M.2.2.2 1 0 = some 2 ∧ ∃ x y u v : Nat, x1 = nI x ∧ y1 = nI y ∧ u1 = nI u ∧ v1 = nI v ∧ x ≤ u ∧ y ≤ v ∧ u < 12 ∧ v < 10 ∧ ∀ M', zsm [2] M M' → (∀ e, e < 120 → M'.2.1 2 e = if x ≤ e % 12 ∧ e % 12 ≤ u ∧ y ≤ e / 12 ∧ e / 12 ≤ v then g else M.2.1 2 e) → K (some (.int (nI ((u + 1 - x) * (v + 1 - y))))) M'
  | _ => False
set_option maxHeartbeats 1000000 in
theorem zm_X1_raise (l : Launch) (D : va_G) (Y : Nat → ClassId) : zMt l D Y yX1_raise cX1_raise 9 (some .int) 1 21 0 0 zc_X1_raise := by
  refine zwhile (heads := [6, 16]) (by decide) (fun K J _ _ => zb_X1_raise_0 K J) (fun K _ _ J h => zB_X1_raise K J h) (fun X hR J hJ => zbs_X1_raise_0 hR J hJ) (fun X hR => zBs_X1_raise hR) (fun avs M K h => ?_)
  unfold zc_X1_raise at h
  split at h
  · next k x1 y1 u1 v1 g =>
    obtain ⟨rfl, hr, x, y, u, v, rfl, rfl, rfl, rfl, hxu, hyv, hu, hv, h⟩ := h
    refine ⟨by simp [zent], fun q h' M' ls st => (h' = 6 ∧ ∃ b o, q = 1000 - 20 * b ∧ y ≤ b ∧ b ≤ v + 1 ∧ ls = [some (.ref 1), some (.int (nI x)), some (.int (nI y)), some (.int (nI u)), some (.int (nI v)), some (.int g), some (.int (nI ((u + 1 - x) * (b - y)))), some (.int (nI b)), o] ∧ st = [] ∧ zsm [2] M M' ∧ (∀ e, e < 120 → M'.2.1 2 e = if x ≤ e % 12 ∧ e % 12 ≤ u ∧ y ≤ e / 12 ∧ e / 12 < b then g else M.2.1 2 e)) ∨
      (h' = 16 ∧ ∃ b a, q = 1000 - 20 * b - 1 - a ∧ y ≤ b ∧ b ≤ v ∧ x ≤ a ∧ a ≤ u + 1 ∧ ls = [some (.ref 1), some (.int (nI x)), some (.int (nI y)), some (.int (nI u)), some (.int (nI v)), some (.int g), some (.int (nI ((u + 1 - x) * (b - y) + (a - x)))), some (.int (nI b)), some (.int (nI a))] ∧ st = [] ∧ zsm [2] M M' ∧ (∀ e, e < 120 → M'.2.1 2 e = if (x ≤ e % 12 ∧ e % 12 ≤ u ∧ y ≤ e / 12 ∧ e / 12 < b) ∨ (x ≤ e % 12 ∧ e % 12 < a ∧ e / 12 = b) then g else M.2.1 2 e)), ?_, ?_⟩
    · rintro q J hJ h' - M' ls st (⟨rfl, b, o, rfl, hb1, hb2, rfl, rfl, hs, hc⟩ | ⟨rfl, b, a, rfl, hb1, hb2, ha1, ha2, rfl, rfl, hs, hc⟩)
      · simp only [zB_X1_raise, zb_X1_raise_6, ↓reduceIte, zT_push, zT_bin, zT_div, zT_bil, zT_shl, zT_un, zT_i2l, zT_l2i, zT_lcmp, zT_ild, zT_lld, zT_ald, zT_ist, zT_lst, zT_ast, zT_iinc, zT_dup, zT_dup2, zT_pop, zT_if1, zT_if2, zT_ifn, zT_getI, zT_getJ, zT_getR, zT_putI, zT_putZ, zT_putJ, zT_putR, zT_ald0, zT_lald, zT_aald, zT_iast, zT_zast, zT_bast, zT_last, zT_aast, zT_iret, zT_nret, zT_aret, zT_vret, zT_oi, zT_mm, zT_ialX, zT_S1, zT_S2, zT_S3, zT_V0, zT_V1, zT_V2, zT_V3, zT_V4, zT_V5, zT_V6, zT_I0, zT_I1, zT_I2, zlg, zlset, zlpr, zent, zok, va_rf, List.length_cons, List.length_nil, List.replicate, List.cons_append, List.nil_append, List.append_nil, Option.toList_some, Option.toList_none, Option.toList, Nat.reduceAdd, Nat.reduceSub, Nat.reduceLeDiff, Nat.zero_add, Nat.zero_le, true_and, and_true, Nat.le_refl, ge_iff_le, Nat.reduceEqDiff]
        refine ⟨fun h1 => ?_, fun h1 => ?_⟩
        · have := (nI_ltI (by omega) (by omega)).mp h1
          have e : b = v + 1 := by omega
          subst e
          refine h M' hs (fun e he => ?_)
          rw [hc e he]
          have : (x ≤ e % 12 ∧ e % 12 ≤ u ∧ y ≤ e / 12 ∧ e / 12 < v + 1) ↔ (x ≤ e % 12 ∧ e % 12 ≤ u ∧ y ≤ e / 12 ∧ e / 12 ≤ v) := by omega
          simp only [this]
        · have hle : b ≤ v := by
            rcases Nat.lt_or_ge v b with q | q
            · exact absurd ((nI_ltI (by omega) (by omega)).mpr q) h1
            · exact q
          refine hJ (1000 - 20 * b - 1 - x) (by omega) 16 (by simp) _ _ _ (Or.inr ⟨rfl, b, x, rfl, hb1, hle, Nat.le_refl _, by omega, by simp only [Nat.sub_self, Nat.add_zero], rfl, hs, fun e he => ?_⟩)
          rw [hc e he]
          have : ((x ≤ e % 12 ∧ e % 12 ≤ u ∧ y ≤ e / 12 ∧ e / 12 < b) ∨ (x ≤ e % 12 ∧ e % 12 < x ∧ e / 12 = b)) ↔ (x ≤ e % 12 ∧ e % 12 ≤ u ∧ y ≤ e / 12 ∧ e / 12 < b) := by omega
          simp only [this]
      · have hr' : M'.2.2.2 1 0 = some 2 := by rw [hs.R]; exact hr
        simp only [zB_X1_raise, zb_X1_raise_16, ↓reduceIte, Nat.reduceEqDiff, zsh_1, hr', zT_push, zT_bin, zT_div, zT_bil, zT_shl, zT_un, zT_i2l, zT_l2i, zT_lcmp, zT_ild, zT_lld, zT_ald, zT_ist, zT_lst, zT_ast, zT_iinc, zT_dup, zT_dup2, zT_pop, zT_if1, zT_if2, zT_ifn, zT_getI, zT_getJ, zT_getR, zT_putI, zT_putZ, zT_putJ, zT_putR, zT_ald0, zT_lald, zT_aald, zT_iast, zT_zast, zT_bast, zT_last, zT_aast, zT_iret, zT_nret, zT_aret, zT_vret, zT_oi, zT_mm, zT_ialX, zT_S1, zT_S2, zT_S3, zT_V0, zT_V1, zT_V2, zT_V3, zT_V4, zT_V5, zT_V6, zT_I0, zT_I1, zT_I2, zlg, zlset, zlpr, zent, zok, va_rf, List.length_cons, List.length_nil, List.replicate, List.cons_append, List.nil_append, List.append_nil, Option.toList_some, Option.toList_none, Option.toList, Nat.reduceAdd, Nat.reduceSub, Nat.reduceLeDiff, Nat.zero_add, Nat.zero_le, true_and, and_true, Nat.le_refl, ge_iff_le, Nat.reduceEqDiff]
        refine ⟨fun h1 => ?_, fun h1 => ?_⟩
        · have := (nI_ltI (by omega) (by omega)).mp h1
          have e : a = u + 1 := by omega
          subst e
          refine hJ (1000 - 20 * (b + 1)) (by omega) 6 (by simp) _ _ _ (Or.inl ⟨rfl, b + 1, some (.int (nI (u + 1))), rfl, by omega, by omega, ?_, rfl, hs, fun e he => ?_⟩)
          · rw [nI_1, show b + 1 - y = (b - y) + 1 from by omega, Nat.mul_add, Nat.mul_one]
          · rw [hc e he]
            have : ((x ≤ e % 12 ∧ e % 12 ≤ u ∧ y ≤ e / 12 ∧ e / 12 < b) ∨ (x ≤ e % 12 ∧ e % 12 < u + 1 ∧ e / 12 = b)) ↔ (x ≤ e % 12 ∧ e % 12 ≤ u ∧ y ≤ e / 12 ∧ e / 12 < b + 1) := by omega
            simp only [this]
        · have hle : a ≤ u := by
            rcases Nat.lt_or_ge u a with q | q
            · exact absurd ((nI_ltI (by omega) (by omega)).mpr q) h1
            · exact q
          unfold zc_X7_cellAt
          dsimp only
          rw [wcell]
          simp only [zsh_2, zT_push, zT_bin, zT_div, zT_bil, zT_shl, zT_un, zT_i2l, zT_l2i, zT_lcmp, zT_ild, zT_lld, zT_ald, zT_ist, zT_lst, zT_ast, zT_iinc, zT_dup, zT_dup2, zT_pop, zT_if1, zT_if2, zT_ifn, zT_getI, zT_getJ, zT_getR, zT_putI, zT_putZ, zT_putJ, zT_putR, zT_ald0, zT_lald, zT_aald, zT_iast, zT_zast, zT_bast, zT_last, zT_aast, zT_iret, zT_nret, zT_aret, zT_vret, zT_oi, zT_mm, zT_ialX, zT_S1, zT_S2, zT_S3, zT_V0, zT_V1, zT_V2, zT_V3, zT_V4, zT_V5, zT_V6, zT_I0, zT_I1, zT_I2, zlg, zlset, zlpr, zent, zok, va_rf, List.length_cons, List.length_nil, List.replicate, List.cons_append, List.nil_append, List.append_nil, Option.toList_some, Option.toList_none, Option.toList, Nat.reduceAdd, Nat.reduceSub, Nat.reduceLeDiff, Nat.zero_add, Nat.zero_le, true_and, and_true, Nat.le_refl, ge_iff_le, Nat.reduceEqDiff]
          rw [nI_clamp (by omega)]
          refine ⟨vp_in_nI (by omega) (by decide), hJ (1000 - 20 * b - 1 - (a + 1)) (by omega) 16 (by simp) _ _ _ (Or.inr ⟨rfl, b, a + 1, rfl, hb1, hb2, by omega, by omega, ?_, rfl, hs.w (by simp), fun e he => ?_⟩)⟩
          · rw [nI_1, nI_1, show a + 1 - x = a - x + 1 from by omega, Nat.add_assoc]
          · simp only [zwI_L, zwI_I, zwI_J, zwI_R, zwJ_L, zwJ_I, zwJ_J, zwJ_R, zwR_L, zwR_I, zwR_J, zwR_R, zw2_s, zw2_n, ne_eq, not_false_eq_true, reduceCtorEq, not_true_eq_false, Nat.reduceEqDiff, zup_at]
            by_cases e1 : e = b * 12 + a
            · rw [if_pos e1, if_pos (by omega)]
            · rw [if_neg e1, hc e he]
              have : ((x ≤ e % 12 ∧ e % 12 ≤ u ∧ y ≤ e / 12 ∧ e / 12 < b) ∨ (x ≤ e % 12 ∧ e % 12 < a ∧ e / 12 = b)) ↔ ((x ≤ e % 12 ∧ e % 12 ≤ u ∧ y ≤ e / 12 ∧ e / 12 < b) ∨ (x ≤ e % 12 ∧ e % 12 < a + 1 ∧ e / 12 = b)) := by omega
              simp only [this]
    · intro J hJ
      simp only [zb_X1_raise_0, zT_push, zT_bin, zT_div, zT_bil, zT_shl, zT_un, zT_i2l, zT_l2i, zT_lcmp, zT_ild, zT_lld, zT_ald, zT_ist, zT_lst, zT_ast, zT_iinc, zT_dup, zT_dup2, zT_pop, zT_if1, zT_if2, zT_ifn, zT_getI, zT_getJ, zT_getR, zT_putI, zT_putZ, zT_putJ, zT_putR, zT_ald0, zT_lald, zT_aald, zT_iast, zT_zast, zT_bast, zT_last, zT_aast, zT_iret, zT_nret, zT_aret, zT_vret, zT_oi, zT_mm, zT_ialX, zT_S1, zT_S2, zT_S3, zT_V0, zT_V1, zT_V2, zT_V3, zT_V4, zT_V5, zT_V6, zT_I0, zT_I1, zT_I2, zlg, zlset, zlpr, zent, zok, va_rf, List.length_cons, List.length_nil, List.replicate, List.cons_append, List.nil_append, List.append_nil, Option.toList_some, Option.toList_none, Option.toList, Nat.reduceAdd, Nat.reduceSub, Nat.reduceLeDiff, Nat.zero_add, Nat.zero_le, true_and, and_true, Nat.le_refl, ge_iff_le, Nat.reduceEqDiff]
      refine hJ (1000 - 20 * y) 6 (by simp) _ _ _ (Or.inl ⟨rfl, y, none, rfl, Nat.le_refl _, by omega, by rw [Nat.sub_self, Nat.mul_zero]; rfl, rfl, zsm.rf, fun e he => ?_⟩)
      rw [if_neg (by omega)]
  · exact h.elim
end
section
/-! DeltaRuns size -/
theorem zd_X7_size_0 : decode cX7_size 0 = .ok (.iload_n 1, 1) := by decide +kernel
theorem zd_X7_size_1 : decode cX7_size 1 = .ok (.iconst 2, 1) := by decide +kernel
theorem zd_X7_size_2 : decode cX7_size 2 = .ok (.bipush 12, 2) := by decide +kernel
theorem zd_X7_size_4 : decode cX7_size 4 = .ok (.invokestatic 60, 3) := by decide +kernel
theorem zd_X7_size_7 : decode cX7_size 7 = .ok (.ifCond .eq 13, 3) := by decide +kernel
theorem zd_X7_size_10 : decode cX7_size 10 = .ok (.iload_n 2, 1) := by decide +kernel
theorem zd_X7_size_11 : decode cX7_size 11 = .ok (.iconst 2, 1) := by decide +kernel
theorem zd_X7_size_12 : decode cX7_size 12 = .ok (.bipush 10, 2) := by decide +kernel
theorem zd_X7_size_14 : decode cX7_size 14 = .ok (.invokestatic 60, 3) := by decide +kernel
theorem zd_X7_size_17 : decode cX7_size 17 = .ok (.ifCond .ne 9, 3) := by decide +kernel
theorem zd_X7_size_20 : decode cX7_size 20 = .ok (.aload_n 0, 1) := by decide +kernel
theorem zd_X7_size_21 : decode cX7_size 21 = .ok (.iconst (-1), 1) := by decide +kernel
theorem zd_X7_size_22 : decode cX7_size 22 = .ok (.invokevirtual 64, 3) := by decide +kernel
theorem zd_X7_size_25 : decode cX7_size 25 = .ok (.ireturn, 1) := by decide +kernel
theorem zd_X7_size_26 : decode cX7_size 26 = .ok (.aload_n 0, 1) := by decide +kernel
theorem zd_X7_size_27 : decode cX7_size 27 = .ok (.getfield 10, 3) := by decide +kernel
theorem zd_X7_size_30 : decode cX7_size 30 = .ok (.iload_n 1, 1) := by decide +kernel
theorem zd_X7_size_31 : decode cX7_size 31 = .ok (.iload_n 2, 1) := by decide +kernel
theorem zd_X7_size_32 : decode cX7_size 32 = .ok (.invokevirtual 68, 3) := by decide +kernel
theorem zd_X7_size_35 : decode cX7_size 35 = .ok (.aload_n 0, 1) := by decide +kernel
theorem zd_X7_size_36 : decode cX7_size 36 = .ok (.getfield 26, 3) := by decide +kernel
theorem zd_X7_size_39 : decode cX7_size 39 = .ok (.iconst 0, 1) := by decide +kernel
theorem zd_X7_size_40 : decode cX7_size 40 = .ok (.putfield 72, 3) := by decide +kernel
theorem zd_X7_size_43 : decode cX7_size 43 = .ok (.aload_n 0, 1) := by decide +kernel
theorem zd_X7_size_44 : decode cX7_size 44 = .ok (.invokevirtual 75, 3) := by decide +kernel
theorem zd_X7_size_47 : decode cX7_size 47 = .ok (.aload_n 0, 1) := by decide +kernel
theorem zd_X7_size_48 : decode cX7_size 48 = .ok (.iconst 0, 1) := by decide +kernel
theorem zd_X7_size_49 : decode cX7_size 49 = .ok (.invokevirtual 78, 3) := by decide +kernel
theorem zd_X7_size_52 : decode cX7_size 52 = .ok (.ireturn, 1) := by decide +kernel
def zb_X7_size_20 (K : zKt) (J : Nat → zPP) : zPP := zT_ald 0 (zT_push (.int (-1)) (zT_V1 zok 7 9 zc_X7_refuse (zT_iret K)))
theorem zbs_X7_size_20 {X : zCt} (hR : zRX X = { frames := 1, cells := 0, slots := 0, locals := 23 }) (J : Nat → zPP) (hJ : ∀ h ∈ ([] : List Nat), zSd X RX7 "size" cX7_size 3 (some .int) h (J h)) : zSd X RX7 "size" cX7_size 3 (some .int) 20 (zb_X7_size_20 (zKX X) J) := zs_aload_n zd_X7_size_20 rfl (zs_iconst zd_X7_size_21 (by decide) (zs_V (ci := 7) rfl rfl (zm_X7_refuse _ _ _) gw_1_223 gw_1_220 gw_1_222 gw_0_0 gw_1_1 zdn_X7_refuse (zrm hR (by decide) (by decide)) zd_X7_size_22 (zCl_V1 zok_l) (zs_iret rfl zd_X7_size_25)))
def zb_X7_size_0 (K : zKt) (J : Nat → zPP) : zPP := zT_ild 1 (zT_push (.int 2) (zT_push (.int 12) (zT_S3 zok zc_X7_within (zT_if1 (fun x => x = 0) (zb_X7_size_20 K J) (zT_ild 2 (zT_push (.int 2) (zT_push (.int 10) (zT_S3 zok zc_X7_within (zT_if1 (fun x => x = 0) (zb_X7_size_20 K J) (zT_ald 0 (zT_getR 7 0 9 (zT_ild 1 (zT_ild 2 (zT_V2 zok 1 6 zc_X1_layOut (zT_ald 0 (zT_getR 7 2 9 (zT_push (.int 0) (zT_putI 0 4 5 (zT_ald 0 (zT_V0 zok 7 9 zc_X7_forgetRuns (zT_ald 0 (zT_push (.int 0) (zT_V1 zok 7 9 zc_X7_accept (zT_iret K))))))))))))))))))))))))
theorem zbs_X7_size_0 {X : zCt} (hR : zRX X = { frames := 1, cells := 0, slots := 0, locals := 23 }) (J : Nat → zPP) (hJ : ∀ h ∈ ([] : List Nat), zSd X RX7 "size" cX7_size 3 (some .int) h (J h)) : zSd X RX7 "size" cX7_size 3 (some .int) 0 (zb_X7_size_0 (zKX X) J) := zs_iload_n zd_X7_size_0 rfl (zs_iconst zd_X7_size_1 (by decide) (zs_bipush zd_X7_size_2 (by decide) (zs_S (zm_X7_within _ _ _) gw_1_219 gw_1_217 gw_1_218 gw_1_1 zdn_X7_within (zrm hR (by decide) (by decide)) zd_X7_size_4 (zCl_S3 zok_l) (zs_if_eq (tgt := 20) zd_X7_size_7 (by decide) (zbs_X7_size_20 hR J hJ) (zs_iload_n zd_X7_size_10 rfl (zs_iconst zd_X7_size_11 (by decide) (zs_bipush zd_X7_size_12 (by decide) (zs_S (zm_X7_within _ _ _) gw_1_219 gw_1_217 gw_1_218 gw_1_1 zdn_X7_within (zrm hR (by decide) (by decide)) zd_X7_size_14 (zCl_S3 zok_l) (zs_if_ne (tgt := 26) zd_X7_size_17 (by decide) (zs_aload_n zd_X7_size_26 rfl (zs_getR (ci := 7) (j := 0) (T := TX7) rfl inX7 (by decide) gw_1_185 rfl zd_X7_size_27 (zs_iload_n zd_X7_size_30 rfl (zs_iload_n zd_X7_size_31 rfl (zs_V (ci := 1) rfl rfl (zm_X1_layOut _ _ _) gw_1_32 gw_1_224 gw_1_30 gw_1_31 gw_1_2 zdn_X1_layOut (zrm hR (by decide) (by decide)) zd_X7_size_32 (zCl_V2 zok_l) (zs_aload_n zd_X7_size_35 rfl (zs_getR (ci := 7) (j := 2) (T := TX7) rfl inX7 (by decide) gw_1_187 rfl zd_X7_size_36 (zs_iconst zd_X7_size_39 (by decide) (zs_putI (ci := 0) (j := 4) (T := TX0) rfl inX0 tyX0_ok nmX0 (by decide) gw_1_93 rfl rfl rfl zd_X7_size_40 (zs_aload_n zd_X7_size_43 rfl (zs_V (ci := 7) rfl rfl (zm_X7_forgetRuns _ _ _) gw_1_228 gw_1_225 gw_1_227 gw_0_1 gw_1_1 zdn_X7_forgetRuns (zrm hR (by decide) (by decide)) zd_X7_size_44 (zCl_V0 zok_l) (zs_aload_n zd_X7_size_47 rfl (zs_iconst zd_X7_size_48 (by decide) (zs_V (ci := 7) rfl rfl (zm_X7_accept _ _ _) gw_1_232 gw_1_229 gw_1_231 gw_0_2 gw_1_1 zdn_X7_accept (zrm hR (by decide) (by decide)) zd_X7_size_49 (zCl_V1 zok_l) (zs_iret rfl zd_X7_size_52))))))))))))))) (zbs_X7_size_20 hR J hJ))))))))))
theorem zdn_X7_size : yX7_size.cls ≠ "java/lang/invoke/MethodHandle" ∧ yX7_size.cls ≠ "java/lang/invoke/VarHandle" ∧ (parseMethodDescriptor yX7_size.desc).map (fun d => d.parameters.length) = some 2 := by decide +kernel
/-! DeltaRuns land -/
theorem zd_X7_land_0 : decode cX7_land 0 = .ok (.iload 5, 2) := by decide +kernel
theorem zd_X7_land_2 : decode cX7_land 2 = .ok (.iconst 0, 1) := by decide +kernel
theorem zd_X7_land_3 : decode cX7_land 3 = .ok (.sipush 200, 3) := by decide +kernel
theorem zd_X7_land_6 : decode cX7_land 6 = .ok (.invokestatic 60, 3) := by decide +kernel
theorem zd_X7_land_9 : decode cX7_land 9 = .ok (.ifCond .eq 14, 3) := by decide +kernel
theorem zd_X7_land_12 : decode cX7_land 12 = .ok (.iload_n 1, 1) := by decide +kernel
theorem zd_X7_land_13 : decode cX7_land 13 = .ok (.iload_n 3, 1) := by decide +kernel
theorem zd_X7_land_14 : decode cX7_land 14 = .ok (.if_icmp .gt 9, 3) := by decide +kernel
theorem zd_X7_land_17 : decode cX7_land 17 = .ok (.iload_n 2, 1) := by decide +kernel
theorem zd_X7_land_18 : decode cX7_land 18 = .ok (.iload 4, 2) := by decide +kernel
theorem zd_X7_land_20 : decode cX7_land 20 = .ok (.if_icmp .le 9, 3) := by decide +kernel
theorem zd_X7_land_23 : decode cX7_land 23 = .ok (.aload_n 0, 1) := by decide +kernel
theorem zd_X7_land_24 : decode cX7_land 24 = .ok (.iconst (-1), 1) := by decide +kernel
theorem zd_X7_land_25 : decode cX7_land 25 = .ok (.invokevirtual 64, 3) := by decide +kernel
theorem zd_X7_land_28 : decode cX7_land 28 = .ok (.ireturn, 1) := by decide +kernel
theorem zd_X7_land_29 : decode cX7_land 29 = .ok (.aload_n 0, 1) := by decide +kernel
theorem zd_X7_land_30 : decode cX7_land 30 = .ok (.getfield 10, 3) := by decide +kernel
theorem zd_X7_land_33 : decode cX7_land 33 = .ok (.iload_n 1, 1) := by decide +kernel
theorem zd_X7_land_34 : decode cX7_land 34 = .ok (.iload_n 2, 1) := by decide +kernel
theorem zd_X7_land_35 : decode cX7_land 35 = .ok (.invokevirtual 81, 3) := by decide +kernel
theorem zd_X7_land_38 : decode cX7_land 38 = .ok (.ifCond .eq 16, 3) := by decide +kernel
theorem zd_X7_land_41 : decode cX7_land 41 = .ok (.aload_n 0, 1) := by decide +kernel
theorem zd_X7_land_42 : decode cX7_land 42 = .ok (.getfield 10, 3) := by decide +kernel
theorem zd_X7_land_45 : decode cX7_land 45 = .ok (.iload_n 3, 1) := by decide +kernel
theorem zd_X7_land_46 : decode cX7_land 46 = .ok (.iload 4, 2) := by decide +kernel
theorem zd_X7_land_48 : decode cX7_land 48 = .ok (.invokevirtual 81, 3) := by decide +kernel
theorem zd_X7_land_51 : decode cX7_land 51 = .ok (.ifCond .ne 10, 3) := by decide +kernel
theorem zd_X7_land_54 : decode cX7_land 54 = .ok (.aload_n 0, 1) := by decide +kernel
theorem zd_X7_land_55 : decode cX7_land 55 = .ok (.bipush (-2), 2) := by decide +kernel
theorem zd_X7_land_57 : decode cX7_land 57 = .ok (.invokevirtual 64, 3) := by decide +kernel
theorem zd_X7_land_60 : decode cX7_land 60 = .ok (.ireturn, 1) := by decide +kernel
theorem zd_X7_land_61 : decode cX7_land 61 = .ok (.aload_n 0, 1) := by decide +kernel
theorem zd_X7_land_62 : decode cX7_land 62 = .ok (.getfield 10, 3) := by decide +kernel
theorem zd_X7_land_65 : decode cX7_land 65 = .ok (.iload_n 1, 1) := by decide +kernel
theorem zd_X7_land_66 : decode cX7_land 66 = .ok (.iload_n 2, 1) := by decide +kernel
theorem zd_X7_land_67 : decode cX7_land 67 = .ok (.iload_n 3, 1) := by decide +kernel
theorem zd_X7_land_68 : decode cX7_land 68 = .ok (.iload 4, 2) := by decide +kernel
theorem zd_X7_land_70 : decode cX7_land 70 = .ok (.iload 5, 2) := by decide +kernel
theorem zd_X7_land_72 : decode cX7_land 72 = .ok (.invokevirtual 85, 3) := by decide +kernel
theorem zd_X7_land_75 : decode cX7_land 75 = .ok (.istore 6, 2) := by decide +kernel
theorem zd_X7_land_77 : decode cX7_land 77 = .ok (.aload_n 0, 1) := by decide +kernel
theorem zd_X7_land_78 : decode cX7_land 78 = .ok (.invokevirtual 75, 3) := by decide +kernel
theorem zd_X7_land_81 : decode cX7_land 81 = .ok (.aload_n 0, 1) := by decide +kernel
theorem zd_X7_land_82 : decode cX7_land 82 = .ok (.iload 6, 2) := by decide +kernel
theorem zd_X7_land_84 : decode cX7_land 84 = .ok (.invokevirtual 78, 3) := by decide +kernel
theorem zd_X7_land_87 : decode cX7_land 87 = .ok (.ireturn, 1) := by decide +kernel
def zb_X7_land_23 (K : zKt) (J : Nat → zPP) : zPP := zT_ald 0 (zT_push (.int (-1)) (zT_V1 zok 7 9 zc_X7_refuse (zT_iret K)))
theorem zbs_X7_land_23 {X : zCt} (hR : zRX X = { frames := 2, cells := 0, slots := 0, locals := 49 }) (J : Nat → zPP) (hJ : ∀ h ∈ ([] : List Nat), zSd X RX7 "land" cX7_land 7 (some .int) h (J h)) : zSd X RX7 "land" cX7_land 7 (some .int) 23 (zb_X7_land_23 (zKX X) J) := zs_aload_n zd_X7_land_23 rfl (zs_iconst zd_X7_land_24 (by decide) (zs_V (ci := 7) rfl rfl (zm_X7_refuse _ _ _) gw_1_223 gw_1_220 gw_1_222 gw_0_0 gw_1_1 zdn_X7_refuse (zrm hR (by decide) (by decide)) zd_X7_land_25 (zCl_V1 zok_l) (zs_iret rfl zd_X7_land_28)))
def zb_X7_land_54 (K : zKt) (J : Nat → zPP) : zPP := zT_ald 0 (zT_push (.int (-2)) (zT_V1 zok 7 9 zc_X7_refuse (zT_iret K)))
theorem zbs_X7_land_54 {X : zCt} (hR : zRX X = { frames := 2, cells := 0, slots := 0, locals := 49 }) (J : Nat → zPP) (hJ : ∀ h ∈ ([] : List Nat), zSd X RX7 "land" cX7_land 7 (some .int) h (J h)) : zSd X RX7 "land" cX7_land 7 (some .int) 54 (zb_X7_land_54 (zKX X) J) := zs_aload_n zd_X7_land_54 rfl (zs_bipush zd_X7_land_55 (by decide) (zs_V (ci := 7) rfl rfl (zm_X7_refuse _ _ _) gw_1_223 gw_1_220 gw_1_222 gw_0_0 gw_1_1 zdn_X7_refuse (zrm hR (by decide) (by decide)) zd_X7_land_57 (zCl_V1 zok_l) (zs_iret rfl zd_X7_land_60)))
def zb_X7_land_0 (K : zKt) (J : Nat → zPP) : zPP := zT_ild 5 (zT_push (.int 0) (zT_push (.int 200) (zT_S3 zok zc_X7_within (zT_if1 (fun x => x = 0) (zb_X7_land_23 K J) (zT_ild 1 (zT_ild 3 (zT_if2 (fun x y => y < x) (zb_X7_land_23 K J) (zT_ild 2 (zT_ild 4 (zT_if2 (fun x y => x ≤ y) (zT_ald 0 (zT_getR 7 0 9 (zT_ild 1 (zT_ild 2 (zT_V2 zok 1 6 zc_X1_has (zT_if1 (fun x => x = 0) (zb_X7_land_54 K J) (zT_ald 0 (zT_getR 7 0 9 (zT_ild 3 (zT_ild 4 (zT_V2 zok 1 6 zc_X1_has (zT_if1 (fun x => x = 0) (zb_X7_land_54 K J) (zT_ald 0 (zT_getR 7 0 9 (zT_ild 1 (zT_ild 2 (zT_ild 3 (zT_ild 4 (zT_ild 5 (zT_V5 zok 1 6 zc_X1_raise (zT_ist 6 (zT_ald 0 (zT_V0 zok 7 9 zc_X7_forgetRuns (zT_ald 0 (zT_ild 6 (zT_V1 zok 7 9 zc_X7_accept (zT_iret K))))))))))))))))))))))))))) (zb_X7_land_23 K J)))))))))))
theorem zbs_X7_land_0 {X : zCt} (hR : zRX X = { frames := 2, cells := 0, slots := 0, locals := 49 }) (J : Nat → zPP) (hJ : ∀ h ∈ ([] : List Nat), zSd X RX7 "land" cX7_land 7 (some .int) h (J h)) : zSd X RX7 "land" cX7_land 7 (some .int) 0 (zb_X7_land_0 (zKX X) J) := zs_iload zd_X7_land_0 (zs_iconst zd_X7_land_2 (by decide) (zs_sipush zd_X7_land_3 (by decide) (zs_S (zm_X7_within _ _ _) gw_1_219 gw_1_217 gw_1_218 gw_1_1 zdn_X7_within (zrm hR (by decide) (by decide)) zd_X7_land_6 (zCl_S3 zok_l) (zs_if_eq (tgt := 23) zd_X7_land_9 (by decide) (zbs_X7_land_23 hR J hJ) (zs_iload_n zd_X7_land_12 rfl (zs_iload_n zd_X7_land_13 rfl (zs_icmp_gt (tgt := 23) zd_X7_land_14 (by decide) (zbs_X7_land_23 hR J hJ) (zs_iload_n zd_X7_land_17 rfl (zs_iload zd_X7_land_18 (zs_icmp_le (tgt := 29) zd_X7_land_20 (by decide) (zs_aload_n zd_X7_land_29 rfl (zs_getR (ci := 7) (j := 0) (T := TX7) rfl inX7 (by decide) gw_1_185 rfl zd_X7_land_30 (zs_iload_n zd_X7_land_33 rfl (zs_iload_n zd_X7_land_34 rfl (zs_V (ci := 1) rfl rfl (zm_X1_has _ _ _) gw_2_0 gw_1_237 gw_1_238 gw_1_239 gw_1_2 zdn_X1_has (zrm hR (by decide) (by decide)) zd_X7_land_35 (zCl_V2 zok_l) (zs_if_eq (tgt := 54) zd_X7_land_38 (by decide) (zbs_X7_land_54 hR J hJ) (zs_aload_n zd_X7_land_41 rfl (zs_getR (ci := 7) (j := 0) (T := TX7) rfl inX7 (by decide) gw_1_185 rfl zd_X7_land_42 (zs_iload_n zd_X7_land_45 rfl (zs_iload zd_X7_land_46 (zs_V (ci := 1) rfl rfl (zm_X1_has _ _ _) gw_2_0 gw_1_237 gw_1_238 gw_1_239 gw_1_2 zdn_X1_has (zrm hR (by decide) (by decide)) zd_X7_land_48 (zCl_V2 zok_l) (zs_if_ne (tgt := 61) zd_X7_land_51 (by decide) (zs_aload_n zd_X7_land_61 rfl (zs_getR (ci := 7) (j := 0) (T := TX7) rfl inX7 (by decide) gw_1_185 rfl zd_X7_land_62 (zs_iload_n zd_X7_land_65 rfl (zs_iload_n zd_X7_land_66 rfl (zs_iload_n zd_X7_land_67 rfl (zs_iload zd_X7_land_68 (zs_iload zd_X7_land_70 (zs_V (ci := 1) rfl rfl (zm_X1_raise _ _ _) gw_2_4 gw_2_1 gw_2_2 gw_2_3 gw_1_2 zdn_X1_raise (zrm hR (by decide) (by decide)) zd_X7_land_72 (zCl_V5 zok_l) (zs_istore zd_X7_land_75 (by decide) (zs_aload_n zd_X7_land_77 rfl (zs_V (ci := 7) rfl rfl (zm_X7_forgetRuns _ _ _) gw_1_228 gw_1_225 gw_1_227 gw_0_1 gw_1_1 zdn_X7_forgetRuns (zrm hR (by decide) (by decide)) zd_X7_land_78 (zCl_V0 zok_l) (zs_aload_n zd_X7_land_81 rfl (zs_iload zd_X7_land_82 (zs_V (ci := 7) rfl rfl (zm_X7_accept _ _ _) gw_1_232 gw_1_229 gw_1_231 gw_0_2 gw_1_1 zdn_X7_accept (zrm hR (by decide) (by decide)) zd_X7_land_84 (zCl_V1 zok_l) (zs_iret rfl zd_X7_land_87))))))))))))))) (zbs_X7_land_54 hR J hJ))))))))))))) (zbs_X7_land_23 hR J hJ)))))))))))
theorem zdn_X7_land : yX7_land.cls ≠ "java/lang/invoke/MethodHandle" ∧ yX7_land.cls ≠ "java/lang/invoke/VarHandle" ∧ (parseMethodDescriptor yX7_land.desc).map (fun d => d.parameters.length) = some 5 := by decide +kernel
/-! DeltaRuns level -/
theorem zd_X7_level_0 : decode cX7_level 0 = .ok (.iload_n 1, 1) := by decide +kernel
theorem zd_X7_level_1 : decode cX7_level 1 = .ok (.iconst 0, 1) := by decide +kernel
theorem zd_X7_level_2 : decode cX7_level 2 = .ok (.sipush 200, 3) := by decide +kernel
theorem zd_X7_level_5 : decode cX7_level 5 = .ok (.invokestatic 60, 3) := by decide +kernel
theorem zd_X7_level_8 : decode cX7_level 8 = .ok (.ifCond .ne 9, 3) := by decide +kernel
theorem zd_X7_level_11 : decode cX7_level 11 = .ok (.aload_n 0, 1) := by decide +kernel
theorem zd_X7_level_12 : decode cX7_level 12 = .ok (.iconst (-1), 1) := by decide +kernel
theorem zd_X7_level_13 : decode cX7_level 13 = .ok (.invokevirtual 64, 3) := by decide +kernel
theorem zd_X7_level_16 : decode cX7_level 16 = .ok (.ireturn, 1) := by decide +kernel
theorem zd_X7_level_17 : decode cX7_level 17 = .ok (.aload_n 0, 1) := by decide +kernel
theorem zd_X7_level_18 : decode cX7_level 18 = .ok (.getfield 10, 3) := by decide +kernel
theorem zd_X7_level_21 : decode cX7_level 21 = .ok (.iload_n 1, 1) := by decide +kernel
theorem zd_X7_level_22 : decode cX7_level 22 = .ok (.putfield 89, 3) := by decide +kernel
theorem zd_X7_level_25 : decode cX7_level 25 = .ok (.aload_n 0, 1) := by decide +kernel
theorem zd_X7_level_26 : decode cX7_level 26 = .ok (.invokevirtual 75, 3) := by decide +kernel
theorem zd_X7_level_29 : decode cX7_level 29 = .ok (.aload_n 0, 1) := by decide +kernel
theorem zd_X7_level_30 : decode cX7_level 30 = .ok (.iconst 0, 1) := by decide +kernel
theorem zd_X7_level_31 : decode cX7_level 31 = .ok (.invokevirtual 78, 3) := by decide +kernel
theorem zd_X7_level_34 : decode cX7_level 34 = .ok (.ireturn, 1) := by decide +kernel
def zb_X7_level_0 (K : zKt) (J : Nat → zPP) : zPP := zT_ild 1 (zT_push (.int 0) (zT_push (.int 200) (zT_S3 zok zc_X7_within (zT_if1 (fun x => x = 0) (zT_ald 0 (zT_push (.int (-1)) (zT_V1 zok 7 9 zc_X7_refuse (zT_iret K)))) (zT_ald 0 (zT_getR 7 0 9 (zT_ild 1 (zT_putI 1 5 6 (zT_ald 0 (zT_V0 zok 7 9 zc_X7_forgetRuns (zT_ald 0 (zT_push (.int 0) (zT_V1 zok 7 9 zc_X7_accept (zT_iret K))))))))))))))
theorem zbs_X7_level_0 {X : zCt} (hR : zRX X = { frames := 1, cells := 0, slots := 0, locals := 22 }) (J : Nat → zPP) (hJ : ∀ h ∈ ([] : List Nat), zSd X RX7 "level" cX7_level 2 (some .int) h (J h)) : zSd X RX7 "level" cX7_level 2 (some .int) 0 (zb_X7_level_0 (zKX X) J) := zs_iload_n zd_X7_level_0 rfl (zs_iconst zd_X7_level_1 (by decide) (zs_sipush zd_X7_level_2 (by decide) (zs_S (zm_X7_within _ _ _) gw_1_219 gw_1_217 gw_1_218 gw_1_1 zdn_X7_within (zrm hR (by decide) (by decide)) zd_X7_level_5 (zCl_S3 zok_l) (zs_if_ne (tgt := 17) zd_X7_level_8 (by decide) (zs_aload_n zd_X7_level_17 rfl (zs_getR (ci := 7) (j := 0) (T := TX7) rfl inX7 (by decide) gw_1_185 rfl zd_X7_level_18 (zs_iload_n zd_X7_level_21 rfl (zs_putI (ci := 1) (j := 5) (T := TX1) rfl inX1 tyX1_ok nmX1 (by decide) gw_1_46 rfl rfl rfl zd_X7_level_22 (zs_aload_n zd_X7_level_25 rfl (zs_V (ci := 7) rfl rfl (zm_X7_forgetRuns _ _ _) gw_1_228 gw_1_225 gw_1_227 gw_0_1 gw_1_1 zdn_X7_forgetRuns (zrm hR (by decide) (by decide)) zd_X7_level_26 (zCl_V0 zok_l) (zs_aload_n zd_X7_level_29 rfl (zs_iconst zd_X7_level_30 (by decide) (zs_V (ci := 7) rfl rfl (zm_X7_accept _ _ _) gw_1_232 gw_1_229 gw_1_231 gw_0_2 gw_1_1 zdn_X7_accept (zrm hR (by decide) (by decide)) zd_X7_level_31 (zCl_V1 zok_l) (zs_iret rfl zd_X7_level_34)))))))))) (zs_aload_n zd_X7_level_11 rfl (zs_iconst zd_X7_level_12 (by decide) (zs_V (ci := 7) rfl rfl (zm_X7_refuse _ _ _) gw_1_223 gw_1_220 gw_1_222 gw_0_0 gw_1_1 zdn_X7_refuse (zrm hR (by decide) (by decide)) zd_X7_level_13 (zCl_V1 zok_l) (zs_iret rfl zd_X7_level_16))))))))
theorem zdn_X7_level : yX7_level.cls ≠ "java/lang/invoke/MethodHandle" ∧ yX7_level.cls ≠ "java/lang/invoke/VarHandle" ∧ (parseMethodDescriptor yX7_level.desc).map (fun d => d.parameters.length) = some 1 := by decide +kernel
/-! DeltaRuns spring -/
theorem zd_X7_spring_0 : decode cX7_spring 0 = .ok (.iload_n 3, 1) := by decide +kernel
theorem zd_X7_spring_1 : decode cX7_spring 1 = .ok (.iconst 0, 1) := by decide +kernel
theorem zd_X7_spring_2 : decode cX7_spring 2 = .ok (.sipush 1000, 3) := by decide +kernel
theorem zd_X7_spring_5 : decode cX7_spring 5 = .ok (.invokestatic 60, 3) := by decide +kernel
theorem zd_X7_spring_8 : decode cX7_spring 8 = .ok (.ifCond .ne 9, 3) := by decide +kernel
theorem zd_X7_spring_11 : decode cX7_spring 11 = .ok (.aload_n 0, 1) := by decide +kernel
theorem zd_X7_spring_12 : decode cX7_spring 12 = .ok (.iconst (-1), 1) := by decide +kernel
theorem zd_X7_spring_13 : decode cX7_spring 13 = .ok (.invokevirtual 64, 3) := by decide +kernel
theorem zd_X7_spring_16 : decode cX7_spring 16 = .ok (.ireturn, 1) := by decide +kernel
theorem zd_X7_spring_17 : decode cX7_spring 17 = .ok (.aload_n 0, 1) := by decide +kernel
theorem zd_X7_spring_18 : decode cX7_spring 18 = .ok (.getfield 10, 3) := by decide +kernel
theorem zd_X7_spring_21 : decode cX7_spring 21 = .ok (.iload_n 1, 1) := by decide +kernel
theorem zd_X7_spring_22 : decode cX7_spring 22 = .ok (.iload_n 2, 1) := by decide +kernel
theorem zd_X7_spring_23 : decode cX7_spring 23 = .ok (.invokevirtual 81, 3) := by decide +kernel
theorem zd_X7_spring_26 : decode cX7_spring 26 = .ok (.ifCond .ne 10, 3) := by decide +kernel
theorem zd_X7_spring_29 : decode cX7_spring 29 = .ok (.aload_n 0, 1) := by decide +kernel
theorem zd_X7_spring_30 : decode cX7_spring 30 = .ok (.bipush (-2), 2) := by decide +kernel
theorem zd_X7_spring_32 : decode cX7_spring 32 = .ok (.invokevirtual 64, 3) := by decide +kernel
theorem zd_X7_spring_35 : decode cX7_spring 35 = .ok (.ireturn, 1) := by decide +kernel
theorem zd_X7_spring_36 : decode cX7_spring 36 = .ok (.aload_n 0, 1) := by decide +kernel
theorem zd_X7_spring_37 : decode cX7_spring 37 = .ok (.getfield 10, 3) := by decide +kernel
theorem zd_X7_spring_40 : decode cX7_spring 40 = .ok (.iload_n 1, 1) := by decide +kernel
theorem zd_X7_spring_41 : decode cX7_spring 41 = .ok (.iload_n 2, 1) := by decide +kernel
theorem zd_X7_spring_42 : decode cX7_spring 42 = .ok (.invokestatic 92, 3) := by decide +kernel
theorem zd_X7_spring_45 : decode cX7_spring 45 = .ok (.putfield 96, 3) := by decide +kernel
theorem zd_X7_spring_48 : decode cX7_spring 48 = .ok (.aload_n 0, 1) := by decide +kernel
theorem zd_X7_spring_49 : decode cX7_spring 49 = .ok (.getfield 10, 3) := by decide +kernel
theorem zd_X7_spring_52 : decode cX7_spring 52 = .ok (.iload_n 3, 1) := by decide +kernel
theorem zd_X7_spring_53 : decode cX7_spring 53 = .ok (.putfield 99, 3) := by decide +kernel
theorem zd_X7_spring_56 : decode cX7_spring 56 = .ok (.aload_n 0, 1) := by decide +kernel
theorem zd_X7_spring_57 : decode cX7_spring 57 = .ok (.invokevirtual 75, 3) := by decide +kernel
theorem zd_X7_spring_60 : decode cX7_spring 60 = .ok (.aload_n 0, 1) := by decide +kernel
theorem zd_X7_spring_61 : decode cX7_spring 61 = .ok (.iconst 0, 1) := by decide +kernel
theorem zd_X7_spring_62 : decode cX7_spring 62 = .ok (.invokevirtual 78, 3) := by decide +kernel
theorem zd_X7_spring_65 : decode cX7_spring 65 = .ok (.ireturn, 1) := by decide +kernel
def zb_X7_spring_0 (K : zKt) (J : Nat → zPP) : zPP := zT_ild 3 (zT_push (.int 0) (zT_push (.int 1000) (zT_S3 zok zc_X7_within (zT_if1 (fun x => x = 0) (zT_ald 0 (zT_push (.int (-1)) (zT_V1 zok 7 9 zc_X7_refuse (zT_iret K)))) (zT_ald 0 (zT_getR 7 0 9 (zT_ild 1 (zT_ild 2 (zT_V2 zok 1 6 zc_X1_has (zT_if1 (fun x => x = 0) (zT_ald 0 (zT_push (.int (-2)) (zT_V1 zok 7 9 zc_X7_refuse (zT_iret K)))) (zT_ald 0 (zT_getR 7 0 9 (zT_ild 1 (zT_ild 2 (zT_S2 zok zc_X7_cellAt (zT_putI 1 3 6 (zT_ald 0 (zT_getR 7 0 9 (zT_ild 3 (zT_putI 1 4 6 (zT_ald 0 (zT_V0 zok 7 9 zc_X7_forgetRuns (zT_ald 0 (zT_push (.int 0) (zT_V1 zok 7 9 zc_X7_accept (zT_iret K))))))))))))))))))))))))))
theorem zbs_X7_spring_0 {X : zCt} (hR : zRX X = { frames := 1, cells := 0, slots := 0, locals := 22 }) (J : Nat → zPP) (hJ : ∀ h ∈ ([] : List Nat), zSd X RX7 "spring" cX7_spring 4 (some .int) h (J h)) : zSd X RX7 "spring" cX7_spring 4 (some .int) 0 (zb_X7_spring_0 (zKX X) J) := zs_iload_n zd_X7_spring_0 rfl (zs_iconst zd_X7_spring_1 (by decide) (zs_sipush zd_X7_spring_2 (by decide) (zs_S (zm_X7_within _ _ _) gw_1_219 gw_1_217 gw_1_218 gw_1_1 zdn_X7_within (zrm hR (by decide) (by decide)) zd_X7_spring_5 (zCl_S3 zok_l) (zs_if_ne (tgt := 17) zd_X7_spring_8 (by decide) (zs_aload_n zd_X7_spring_17 rfl (zs_getR (ci := 7) (j := 0) (T := TX7) rfl inX7 (by decide) gw_1_185 rfl zd_X7_spring_18 (zs_iload_n zd_X7_spring_21 rfl (zs_iload_n zd_X7_spring_22 rfl (zs_V (ci := 1) rfl rfl (zm_X1_has _ _ _) gw_2_0 gw_1_237 gw_1_238 gw_1_239 gw_1_2 zdn_X1_has (zrm hR (by decide) (by decide)) zd_X7_spring_23 (zCl_V2 zok_l) (zs_if_ne (tgt := 36) zd_X7_spring_26 (by decide) (zs_aload_n zd_X7_spring_36 rfl (zs_getR (ci := 7) (j := 0) (T := TX7) rfl inX7 (by decide) gw_1_185 rfl zd_X7_spring_37 (zs_iload_n zd_X7_spring_40 rfl (zs_iload_n zd_X7_spring_41 rfl (zs_S (zm_X7_cellAt _ _ _) gw_2_7 gw_2_16 gw_2_6 gw_1_1 zdn_X7_cellAt (zrm hR (by decide) (by decide)) zd_X7_spring_42 (zCl_S2 zok_l) (zs_putI (ci := 1) (j := 3) (T := TX1) rfl inX1 tyX1_ok nmX1 (by decide) gw_1_41 rfl rfl rfl zd_X7_spring_45 (zs_aload_n zd_X7_spring_48 rfl (zs_getR (ci := 7) (j := 0) (T := TX7) rfl inX7 (by decide) gw_1_185 rfl zd_X7_spring_49 (zs_iload_n zd_X7_spring_52 rfl (zs_putI (ci := 1) (j := 4) (T := TX1) rfl inX1 tyX1_ok nmX1 (by decide) gw_1_44 rfl rfl rfl zd_X7_spring_53 (zs_aload_n zd_X7_spring_56 rfl (zs_V (ci := 7) rfl rfl (zm_X7_forgetRuns _ _ _) gw_1_228 gw_1_225 gw_1_227 gw_0_1 gw_1_1 zdn_X7_forgetRuns (zrm hR (by decide) (by decide)) zd_X7_spring_57 (zCl_V0 zok_l) (zs_aload_n zd_X7_spring_60 rfl (zs_iconst zd_X7_spring_61 (by decide) (zs_V (ci := 7) rfl rfl (zm_X7_accept _ _ _) gw_1_232 gw_1_229 gw_1_231 gw_0_2 gw_1_1 zdn_X7_accept (zrm hR (by decide) (by decide)) zd_X7_spring_62 (zCl_V1 zok_l) (zs_iret rfl zd_X7_spring_65)))))))))))))))) (zs_aload_n zd_X7_spring_29 rfl (zs_bipush zd_X7_spring_30 (by decide) (zs_V (ci := 7) rfl rfl (zm_X7_refuse _ _ _) gw_1_223 gw_1_220 gw_1_222 gw_0_0 gw_1_1 zdn_X7_refuse (zrm hR (by decide) (by decide)) zd_X7_spring_32 (zCl_V1 zok_l) (zs_iret rfl zd_X7_spring_35)))))))))) (zs_aload_n zd_X7_spring_11 rfl (zs_iconst zd_X7_spring_12 (by decide) (zs_V (ci := 7) rfl rfl (zm_X7_refuse _ _ _) gw_1_223 gw_1_220 gw_1_222 gw_0_0 gw_1_1 zdn_X7_refuse (zrm hR (by decide) (by decide)) zd_X7_spring_13 (zCl_V1 zok_l) (zs_iret rfl zd_X7_spring_16))))))))
theorem zdn_X7_spring : yX7_spring.cls ≠ "java/lang/invoke/MethodHandle" ∧ yX7_spring.cls ≠ "java/lang/invoke/VarHandle" ∧ (parseMethodDescriptor yX7_spring.desc).map (fun d => d.parameters.length) = some 3 := by decide +kernel
/-! THE CALLS, as pure functions of the full state -/
def tn (x : Int32) : Nat := x.toNatClampNeg
theorem tn_nI {x : Int32} {b : Nat} (h0 : 0 ≤ x) (h1 : x ≤ nI b) (hb : b < 2 ^ 31) : x = nI (tn x) ∧ tn x ≤ b := by
  obtain ⟨j, h2, rfl⟩ := nI_of (x := x) (Int32.not_lt.mpr h0)
  unfold tn
  rw [nI_clamp h2]
  exact ⟨rfl, (nI_leI h2 hb).mp h1⟩
theorem tn_lt {x : Int32} {b : Nat} (h0 : 0 ≤ x) (h1 : x < nI b) (hb : b < 2 ^ 31) : x = nI (tn x) ∧ tn x < b := by
  obtain ⟨j, h2, rfl⟩ := nI_of (x := x) (Int32.not_lt.mpr h0)
  unfold tn
  rw [nI_clamp h2]
  exact ⟨rfl, (nI_ltI h2 hb).mp h1⟩
def pcl (σ : wSP) (x y : Int32) : Prop := 0 ≤ x ∧ x < nI (sW σ) ∧ 0 ≤ y ∧ y < nI (sH σ)
def pclD (σ : wSP) (x y : Int32) : Bool := decide (0 ≤ x ∧ x < nI (sW σ) ∧ 0 ≤ y ∧ y < nI (sH σ))
theorem pclD_t {σ : wSP} {x y : Int32} : pclD σ x y = true ↔ pcl σ x y := by simp [pclD, pcl]
def fRef (F : wFS) (st : Int32) : Int32 × wFS := (st, (F.1, F.2.1, F.2.2.1, F.2.2.2.1, st))
def fAcc (F : wFS) (a : Int32) (σ : wSP) : Int32 × wFS := (a, (σ, F.2.1, F.2.2.1, F.2.2.2.1, 0))
def pSize (w h : Int32) (F : wFS) : Int32 × wFS :=
  if (2 ≤ w ∧ w ≤ 12) ∧ 2 ≤ h ∧ h ≤ 10 then (0, ((tn w, tn h, sL F.1, 0, sF F.1, fun _ => 50, sA F.1), [], F.2.2.1, F.2.2.2.1, 0)) else fRef F (-1)
def pLand (x y u v g : Int32) (F : wFS) : Int32 × wFS :=
  if ¬ (0 ≤ g ∧ g ≤ 200) ∨ u < x ∨ v < y then fRef F (-1)
  else if pclD F.1 x y = true ∧ pclD F.1 u v = true then fAcc F (nI ((tn u + 1 - tn x) * (tn v + 1 - tn y))) (sW F.1, sH F.1, sL F.1, sS F.1, sF F.1, fun e => if tn x ≤ e % 12 ∧ e % 12 ≤ tn u ∧ tn y ≤ e / 12 ∧ e / 12 ≤ tn v then tn g else sG F.1 e, sA F.1)
  else fRef F (-2)
def pLevel (n : Int32) (F : wFS) : Int32 × wFS := if 0 ≤ n ∧ n ≤ 200 then fAcc F 0 (sW F.1, sH F.1, tn n, sS F.1, sF F.1, sG F.1, sA F.1) else fRef F (-1)
def pSpring (x y f : Int32) (F : wFS) : Int32 × wFS :=
  if 0 ≤ f ∧ f ≤ 1000 then (if pclD F.1 x y = true then fAcc F 0 (sW F.1, sH F.1, sL F.1, tn y * 12 + tn x, tn f, sG F.1, sA F.1) else fRef F (-2)) else fRef F (-1)
/-! moving the state -/
theorem zXI.mv {M M' : zMm} {σ : wSP} {pk dk p : Nat} {ks : List Nat} (h : zXI M σ pk dk p) (hs : zsm ks M M') (hk : ∀ k ∈ ks, k = 0 ∨ (3 ≤ k ∧ k < 10)) : zXI M' σ pk dk p := by
  obtain ⟨h1, h2, h3, h4, h5, h6, h7, h8, h9, ⟨S, hS1, hS2⟩, h11, h12⟩ := h
  have e : ∀ {k : Nat}, (k = 1 ∨ k = 2 ∨ 10 ≤ k) → M'.2.1 k = M.2.1 k := fun hk' => hs.2.2 _ (fun z => by have := hk _ z; omega)
  refine ⟨h1.to hs.R, h2, by rw [e (by omega)]; exact h3, by rw [e (by omega)]; exact h4, by rw [e (by omega)]; exact h5, by rw [e (by omega)]; exact h6, by rw [e (by omega)]; exact h7, by rw [e (by omega)]; exact h8, h9.to hs (fun k hk' => by have := hk k hk'; omega), ⟨S, ?_, hS2⟩, fun r hr => ?_, ?_⟩
  · unfold zwt
    rw [e (k := 13) (by omega), e (k := 15) (by omega), e (k := 10) (by omega)]
    exact hS1
  · unfold zys
    rw [hs.R, hs.1, hs.J, e (k := zyi r) (by unfold zyi; omega)]
    exact h11 r hr
  · unfold zLL zlv
    rw [hs.R, hs.1]
    exact h12
theorem zX2.mv {M M' : zMm} {σ σ' : wSP} {pk dk p : Nat} {ks : List Nat} (h : zX2 M σ pk dk p) (hs : zsm ks M M') (hk : ∀ k ∈ ks, k < 10) (hok : wsok σ') (hA : sA σ' = sA σ) (g1 : M'.2.1 1 1 = nI (sW σ')) (g2 : M'.2.1 1 2 = nI (sH σ')) (g3 : M'.2.1 1 3 = nI (sS σ')) (g4 : M'.2.1 1 4 = nI (sF σ')) (g5 : M'.2.1 1 5 = nI (sL σ')) (g6 : ∀ e, e < 120 → M'.2.1 2 e = nI (sG σ' e)) : zX2 M' σ' pk dk p := by
  obtain ⟨h1, h2, h3, h4, h5, h6, h7, h8, h9, ⟨S, hS1, hS2⟩, h11, h12⟩ := h
  have e : ∀ {k : Nat}, 10 ≤ k → M'.2.1 k = M.2.1 k := fun hk' => hs.2.2 _ (fun z => by have := hk _ z; omega)
  refine ⟨h1.to hs.R, hok, g1, g2, g3, g4, g5, g6, by rw [hA]; exact h9.to hs (fun k hk' => by have := hk k hk'; omega), ⟨S, ?_, hS2⟩, ?_, ?_⟩
  · unfold zwt
    rw [e (k := 13) (by omega), e (k := 15) (by omega), e (k := 10) (by omega)]
    exact hS1
  · unfold zYT
    rw [hs.R, hs.1]
    exact h11
  · unfold zLL zlv
    rw [hs.R, hs.1]
    exact h12
theorem zsm.at {M M' : zMm} {ks : List Nat} (hs : zsm ks M M') {k : Nat} (hk : k ∉ ks) : M'.2.1 k = M.2.1 k := hs.2.2 k hk
theorem zEn.to {M M' : zMm} {es : List wEn} (h : zEn M es) (e : ∀ k, 5 ≤ k → k < 10 → M'.2.1 k = M.2.1 k) : zEn M' es := by
  unfold zEn
  rw [e 5 (by decide) (by decide), e 6 (by decide) (by decide), e 7 (by decide) (by decide), e 8 (by decide) (by decide), e 9 (by decide) (by decide)]
  exact h
theorem zTp.to {M M' : zMm} {tp : List Nat} (h : zTp M tp) (e : ∀ k, 3 ≤ k → k < 5 → M'.2.1 k = M.2.1 k) : zTp M' tp := by
  unfold zTp
  rw [e 3 (by decide) (by decide), e 4 (by decide) (by decide)]
  exact h
/-- refuse -/
theorem zXF.refuse {M : zMm} {F : wFS} {pk dk p : Nat} (h : zXF M F pk dk p) (v : Int32) : zXF (zwI M 0 8 v) (fRef F v).2 pk dk p := by
  obtain ⟨h1, h2, h3, h4, h5, h6⟩ := h
  have hs : zsm [0] M (zwI M 0 8 v) := zsm.rf.w (by simp)
  refine ⟨h1.mv hs (by simp), h2.to (fun k a b => hs.at (by simp; omega)), h3, h4.to (fun k a b => hs.at (by simp; omega)), ?_, ?_⟩
  · simp only [zwI_L, zwI_I, zwI_J, zwI_R, zwJ_L, zwJ_I, zwJ_J, zwJ_R, zwR_L, zwR_I, zwR_J, zwR_R, zw2_s, zw2_n, ne_eq, not_false_eq_true, reduceCtorEq, not_true_eq_false, Nat.reduceEqDiff]; rw [zup_n (by decide)]; exact h5
  · simp only [zwI_L, zwI_I, zwI_J, zwI_R, zwJ_L, zwJ_I, zwJ_J, zwJ_R, zwR_L, zwR_I, zwR_J, zwR_R, zw2_s, zw2_n, ne_eq, not_false_eq_true, reduceCtorEq, not_true_eq_false, Nat.reduceEqDiff]; rw [zup_s]; rfl
/-- forget and accept -/
theorem zXF.accept {M1 M2 : zMm} {F : wFS} {σ : wSP} {es : List wEn} {pk dk p : Nat} (h1 : zX2 M1 σ pk dk p) (h2 : zEn M1 es) (h3 : ∀ e ∈ es, wil (sW σ) (sH σ) (wec e)) (h4 : zTp M1 F.2.2.1) (h5 : M1.2.1 0 7 = F.2.2.2.1) (hf : zfg0 M1 M2) (hl : ∀ r, r < 36 → M1.2.2.2 20 r = some (zyi r) → M2.2.1 (zyi r) 1 = -1) : zXF (zwI M2 0 8 0) (σ, es, F.2.2.1, F.2.2.2.1, 0) pk dk p := by
  have hx := h1.forget hf hl
  have hs : zsm [0] M2 (zwI M2 0 8 0) := zsm.rf.w (by simp)
  have e : ∀ k, k < 100 → M2.2.1 k = M1.2.1 k := fun k hk => hf.2.2 k (Or.inl hk)
  refine ⟨hx.mv hs (by simp), (h2.to (fun k a b => e k (by omega))).to (fun k a b => hs.at (by simp; omega)), h3, (h4.to (fun k a b => e k (by omega))).to (fun k a b => hs.at (by simp; omega)), ?_, ?_⟩
  · simp only [zwI_L, zwI_I, zwI_J, zwI_R, zwJ_L, zwJ_I, zwJ_J, zwJ_R, zwR_L, zwR_I, zwR_J, zwR_R, zw2_s, zw2_n, ne_eq, not_false_eq_true, reduceCtorEq, not_true_eq_false, Nat.reduceEqDiff]; rw [zup_n (by decide), e 0 (by decide)]; exact h5
  · simp only [zwI_L, zwI_I, zwI_J, zwI_R, zwJ_L, zwJ_I, zwJ_J, zwJ_R, zwR_L, zwR_I, zwR_J, zwR_R, zw2_s, zw2_n, ne_eq, not_false_eq_true, reduceCtorEq, not_true_eq_false, Nat.reduceEqDiff]; rw [zup_s]
def zc_X7_size (a : List Value) (M : zMm) (K : zKt) : Prop := match a with
  | [.ref k, .int w, .int h] => k = 0 ∧ ∃ F pk dk p, zXF M F pk dk p ∧ ∀ M', zXF M' (pSize w h F).2 pk dk p → K (some (.int (pSize w h F).1)) M'
  | _ => False
set_option maxHeartbeats 1000000 in
theorem zm_X7_size (l : Launch) (D : va_G) (Y : Nat → ClassId) : zMt l D Y yX7_size cX7_size 3 (some .int) 1 23 0 0 zc_X7_size := by
  refine zflat (by decide) (fun K J lc lz => zb_X7_size_0 K J) (fun X hR => zbs_X7_size_0 hR zJ0 zJ0_ok) (fun avs M K h => ?_)
  unfold zc_X7_size at h
  split at h
  · next k w h' =>
    obtain ⟨rfl, F, pk, dk, p, hF, h⟩ := h
    have hF' := hF
    obtain ⟨hxi, hEn, hel, hTp, hft, hst⟩ := hF
    have hx2 := hxi.x2
    obtain ⟨a0, a1, a2, a3, a4, a5, a6, a7, -⟩ := id hxi.1
    have bad : ¬ ((2 ≤ w ∧ w ≤ 12) ∧ 2 ≤ h' ∧ h' ≤ 10) → zb_X7_size_20 K zJ0 M [some (.ref 0), some (.int w), some (.int h')] [] := by
      intro hb
      simp only [zb_X7_size_20, zsh_0, zT_push, zT_bin, zT_div, zT_bil, zT_shl, zT_un, zT_i2l, zT_l2i, zT_lcmp, zT_ild, zT_lld, zT_ald, zT_ist, zT_lst, zT_ast, zT_iinc, zT_dup, zT_dup2, zT_pop, zT_if1, zT_if2, zT_ifn, zT_getI, zT_getJ, zT_getR, zT_putI, zT_putZ, zT_putJ, zT_putR, zT_ald0, zT_lald, zT_aald, zT_iast, zT_zast, zT_bast, zT_last, zT_aast, zT_iret, zT_nret, zT_aret, zT_vret, zT_oi, zT_mm, zT_ialX, zT_S1, zT_S2, zT_S3, zT_V0, zT_V1, zT_V2, zT_V3, zT_V4, zT_V5, zT_V6, zT_I0, zT_I1, zT_I2, zlg, zlset, zlpr, zent, zok, va_rf, List.length_cons, List.length_nil, List.replicate, List.cons_append, List.nil_append, List.append_nil, Option.toList_some, Option.toList_none, Option.toList, Nat.reduceAdd, Nat.reduceSub, Nat.reduceLeDiff, Nat.zero_add, Nat.zero_le, true_and, and_true, Nat.le_refl, ge_iff_le, Nat.reduceEqDiff]
      unfold zc_X7_refuse
      dsimp only
      refine ⟨rfl, ?_⟩
      have h2 := h (zwI M 0 8 (-1))
      unfold pSize at h2
      rw [if_neg hb] at h2
      exact h2 (hF'.refuse _)
    refine ⟨by simp [zent], ?_⟩
    simp only [zb_X7_size_0, zT_push, zT_bin, zT_div, zT_bil, zT_shl, zT_un, zT_i2l, zT_l2i, zT_lcmp, zT_ild, zT_lld, zT_ald, zT_ist, zT_lst, zT_ast, zT_iinc, zT_dup, zT_dup2, zT_pop, zT_if1, zT_if2, zT_ifn, zT_getI, zT_getJ, zT_getR, zT_putI, zT_putZ, zT_putJ, zT_putR, zT_ald0, zT_lald, zT_aald, zT_iast, zT_zast, zT_bast, zT_last, zT_aast, zT_iret, zT_nret, zT_aret, zT_vret, zT_oi, zT_mm, zT_ialX, zT_S1, zT_S2, zT_S3, zT_V0, zT_V1, zT_V2, zT_V3, zT_V4, zT_V5, zT_V6, zT_I0, zT_I1, zT_I2, zlg, zlset, zlpr, zent, zok, va_rf, List.length_cons, List.length_nil, List.replicate, List.cons_append, List.nil_append, List.append_nil, Option.toList_some, Option.toList_none, Option.toList, Nat.reduceAdd, Nat.reduceSub, Nat.reduceLeDiff, Nat.zero_add, Nat.zero_le, true_and, and_true, Nat.le_refl, ge_iff_le, Nat.reduceEqDiff]
    unfold zc_X7_within
    dsimp only
    simp only [zbI_0, zT_push, zT_bin, zT_div, zT_bil, zT_shl, zT_un, zT_i2l, zT_l2i, zT_lcmp, zT_ild, zT_lld, zT_ald, zT_ist, zT_lst, zT_ast, zT_iinc, zT_dup, zT_dup2, zT_pop, zT_if1, zT_if2, zT_ifn, zT_getI, zT_getJ, zT_getR, zT_putI, zT_putZ, zT_putJ, zT_putR, zT_ald0, zT_lald, zT_aald, zT_iast, zT_zast, zT_bast, zT_last, zT_aast, zT_iret, zT_nret, zT_aret, zT_vret, zT_oi, zT_mm, zT_ialX, zT_S1, zT_S2, zT_S3, zT_V0, zT_V1, zT_V2, zT_V3, zT_V4, zT_V5, zT_V6, zT_I0, zT_I1, zT_I2, zlg, zlset, zlpr, zent, zok, va_rf, List.length_cons, List.length_nil, List.replicate, List.cons_append, List.nil_append, List.append_nil, Option.toList_some, Option.toList_none, Option.toList, Nat.reduceAdd, Nat.reduceSub, Nat.reduceLeDiff, Nat.zero_add, Nat.zero_le, true_and, and_true, Nat.le_refl, ge_iff_le, Nat.reduceEqDiff]
    refine ⟨fun h1 => bad (fun z => h1 z.1), fun h1 => ⟨fun h2 => bad (fun z => h2 z.2), fun h2 => ?_⟩⟩
    have c1 := Classical.not_not.mp h1
    have c2 := Classical.not_not.mp h2
    obtain ⟨e1, e2⟩ := tn_nI (x := w) (b := 12) (Int32.le_trans (by decide) c1.1) c1.2 (by decide)
    obtain ⟨e3, e4⟩ := tn_nI (x := h') (b := 10) (Int32.le_trans (by decide) c2.1) c2.2 (by decide)
    have c1' : 2 ≤ tn w := by have := c1.1; rw [e1] at this; exact (nI_leI (a := 2) (by decide) (by omega)).mp this
    have c2' : 2 ≤ tn h' := by have := c2.1; rw [e3] at this; exact (nI_leI (a := 2) (by decide) (by omega)).mp this
    simp only [zsh_0, zsh_1, a0, zT_push, zT_bin, zT_div, zT_bil, zT_shl, zT_un, zT_i2l, zT_l2i, zT_lcmp, zT_ild, zT_lld, zT_ald, zT_ist, zT_lst, zT_ast, zT_iinc, zT_dup, zT_dup2, zT_pop, zT_if1, zT_if2, zT_ifn, zT_getI, zT_getJ, zT_getR, zT_putI, zT_putZ, zT_putJ, zT_putR, zT_ald0, zT_lald, zT_aald, zT_iast, zT_zast, zT_bast, zT_last, zT_aast, zT_iret, zT_nret, zT_aret, zT_vret, zT_oi, zT_mm, zT_ialX, zT_S1, zT_S2, zT_S3, zT_V0, zT_V1, zT_V2, zT_V3, zT_V4, zT_V5, zT_V6, zT_I0, zT_I1, zT_I2, zlg, zlset, zlpr, zent, zok, va_rf, List.length_cons, List.length_nil, List.replicate, List.cons_append, List.nil_append, List.append_nil, Option.toList_some, Option.toList_none, Option.toList, Nat.reduceAdd, Nat.reduceSub, Nat.reduceLeDiff, Nat.zero_add, Nat.zero_le, true_and, and_true, Nat.le_refl, ge_iff_le, Nat.reduceEqDiff]
    unfold zc_X1_layOut
    dsimp only
    refine ⟨rfl, a7, fun M1 hs1 g1 g2 g3 g4 g5 g6 => ?_⟩
    have a2' : M1.2.2.2 0 2 = some 5 := by rw [hs1.R]; exact a2
    simp only [zsh_0, zsh_5, a2', zT_push, zT_bin, zT_div, zT_bil, zT_shl, zT_un, zT_i2l, zT_l2i, zT_lcmp, zT_ild, zT_lld, zT_ald, zT_ist, zT_lst, zT_ast, zT_iinc, zT_dup, zT_dup2, zT_pop, zT_if1, zT_if2, zT_ifn, zT_getI, zT_getJ, zT_getR, zT_putI, zT_putZ, zT_putJ, zT_putR, zT_ald0, zT_lald, zT_aald, zT_iast, zT_zast, zT_bast, zT_last, zT_aast, zT_iret, zT_nret, zT_aret, zT_vret, zT_oi, zT_mm, zT_ialX, zT_S1, zT_S2, zT_S3, zT_V0, zT_V1, zT_V2, zT_V3, zT_V4, zT_V5, zT_V6, zT_I0, zT_I1, zT_I2, zlg, zlset, zlpr, zent, zok, va_rf, List.length_cons, List.length_nil, List.replicate, List.cons_append, List.nil_append, List.append_nil, Option.toList_some, Option.toList_none, Option.toList, Nat.reduceAdd, Nat.reduceSub, Nat.reduceLeDiff, Nat.zero_add, Nat.zero_le, true_and, and_true, Nat.le_refl, ge_iff_le, Nat.reduceEqDiff]
    unfold zc_X7_forgetRuns
    dsimp only
    have hs2 : zsm [1, 2, 5] M (zwI M1 5 4 0) := (hs1.up (by simp)).w (by simp)
    have q := hx2
    obtain ⟨-, ok, w1, w2, w3, w4, w5, -⟩ := q
    obtain ⟨k1, k2, k3, k4, k5, k6, k7, k8, k9⟩ := ok
    have hx3 : zX2 (zwI M1 5 4 0) (tn w, tn h', sL F.1, 0, sF F.1, fun _ => 50, sA F.1) pk dk p := by
      refine hx2.mv hs2 (by simp) ⟨c1', e2, c2', e4, k5, by show 0 < 120; decide, ⟨by show 0 % 12 < tn w; omega, by show 0 / 12 < tn h'; omega⟩, k8, fun e => by show 50 ≤ 200; decide⟩ rfl ?_ ?_ ?_ ?_ ?_ (fun e he => ?_)
      · simp only [zwI_L, zwI_I, zwI_J, zwI_R, zwJ_L, zwJ_I, zwJ_J, zwJ_R, zwR_L, zwR_I, zwR_J, zwR_R, zw2_s, zw2_n, ne_eq, not_false_eq_true, reduceCtorEq, not_true_eq_false, Nat.reduceEqDiff]; rw [g1]; exact e1
      · simp only [zwI_L, zwI_I, zwI_J, zwI_R, zwJ_L, zwJ_I, zwJ_J, zwJ_R, zwR_L, zwR_I, zwR_J, zwR_R, zw2_s, zw2_n, ne_eq, not_false_eq_true, reduceCtorEq, not_true_eq_false, Nat.reduceEqDiff]; rw [g2]; exact e3
      · simp only [zwI_L, zwI_I, zwI_J, zwI_R, zwJ_L, zwJ_I, zwJ_J, zwJ_R, zwR_L, zwR_I, zwR_J, zwR_R, zw2_s, zw2_n, ne_eq, not_false_eq_true, reduceCtorEq, not_true_eq_false, Nat.reduceEqDiff]; rw [g3]; rfl
      · simp only [zwI_L, zwI_I, zwI_J, zwI_R, zwJ_L, zwJ_I, zwJ_J, zwJ_R, zwR_L, zwR_I, zwR_J, zwR_R, zw2_s, zw2_n, ne_eq, not_false_eq_true, reduceCtorEq, not_true_eq_false, Nat.reduceEqDiff]; rw [g4]; exact w4
      · simp only [zwI_L, zwI_I, zwI_J, zwI_R, zwJ_L, zwJ_I, zwJ_J, zwJ_R, zwR_L, zwR_I, zwR_J, zwR_R, zw2_s, zw2_n, ne_eq, not_false_eq_true, reduceCtorEq, not_true_eq_false, Nat.reduceEqDiff]; rw [g5]; exact w5
      · simp only [zwI_L, zwI_I, zwI_J, zwI_R, zwJ_L, zwJ_I, zwJ_J, zwJ_R, zwR_L, zwR_I, zwR_J, zwR_R, zw2_s, zw2_n, ne_eq, not_false_eq_true, reduceCtorEq, not_true_eq_false, Nat.reduceEqDiff]; rw [g6 e he]; rfl
    refine ⟨rfl, by show M1.2.2.2 0 4 = some 20; rw [hs1.R]; exact a4, hx3.2.2.2.2.2.2.2.2.2.2.1, fun M3 hf hl => ?_⟩
    simp only [zsh_0, zT_push, zT_bin, zT_div, zT_bil, zT_shl, zT_un, zT_i2l, zT_l2i, zT_lcmp, zT_ild, zT_lld, zT_ald, zT_ist, zT_lst, zT_ast, zT_iinc, zT_dup, zT_dup2, zT_pop, zT_if1, zT_if2, zT_ifn, zT_getI, zT_getJ, zT_getR, zT_putI, zT_putZ, zT_putJ, zT_putR, zT_ald0, zT_lald, zT_aald, zT_iast, zT_zast, zT_bast, zT_last, zT_aast, zT_iret, zT_nret, zT_aret, zT_vret, zT_oi, zT_mm, zT_ialX, zT_S1, zT_S2, zT_S3, zT_V0, zT_V1, zT_V2, zT_V3, zT_V4, zT_V5, zT_V6, zT_I0, zT_I1, zT_I2, zlg, zlset, zlpr, zent, zok, va_rf, List.length_cons, List.length_nil, List.replicate, List.cons_append, List.nil_append, List.append_nil, Option.toList_some, Option.toList_none, Option.toList, Nat.reduceAdd, Nat.reduceSub, Nat.reduceLeDiff, Nat.zero_add, Nat.zero_le, true_and, and_true, Nat.le_refl, ge_iff_le, Nat.reduceEqDiff]
    unfold zc_X7_accept
    dsimp only
    refine ⟨rfl, ?_⟩
    have h2 := h (zwI M3 0 8 0)
    unfold pSize at h2
    rw [if_pos ⟨c1, c2⟩] at h2
    refine h2 (zXF.accept (F := F) hx3 ⟨?_, by decide, fun i e hi => by simp at hi⟩ (fun e he => absurd he List.not_mem_nil) (hTp.to (fun k a b => hs2.at (by simp; omega))) (by rw [hs2.at (by simp)]; exact hft) hf hl)
    simp only [zwI_L, zwI_I, zwI_J, zwI_R, zwJ_L, zwJ_I, zwJ_J, zwJ_R, zwR_L, zwR_I, zwR_J, zwR_R, zw2_s, zw2_n, ne_eq, not_false_eq_true, reduceCtorEq, not_true_eq_false, Nat.reduceEqDiff]
    rw [zup_s]
    rfl
  · exact h.elim
def zc_X7_level (a : List Value) (M : zMm) (K : zKt) : Prop := match a with
  | [.ref k, .int n] => k = 0 ∧ ∃ F pk dk p, zXF M F pk dk p ∧ ∀ M', zXF M' (pLevel n F).2 pk dk p → K (some (.int (pLevel n F).1)) M'
  | _ => False
theorem zm_X7_level (l : Launch) (D : va_G) (Y : Nat → ClassId) : zMt l D Y yX7_level cX7_level 2 (some .int) 1 22 0 0 zc_X7_level := by
  refine zflat (by decide) (fun K J lc lz => zb_X7_level_0 K J) (fun X hR => zbs_X7_level_0 hR zJ0 zJ0_ok) (fun avs M K h => ?_)
  unfold zc_X7_level at h
  split at h
  · next k n =>
    obtain ⟨rfl, F, pk, dk, p, hF, h⟩ := h
    have hF' := hF
    obtain ⟨hxi, hEn, hel, hTp, hft, hst⟩ := hF
    have hx2 := hxi.x2
    obtain ⟨a0, a1, a2, a3, a4, a5, a6, a7, -⟩ := id hxi.1
    refine ⟨by simp [zent], ?_⟩
    simp only [zb_X7_level_0, zT_push, zT_bin, zT_div, zT_bil, zT_shl, zT_un, zT_i2l, zT_l2i, zT_lcmp, zT_ild, zT_lld, zT_ald, zT_ist, zT_lst, zT_ast, zT_iinc, zT_dup, zT_dup2, zT_pop, zT_if1, zT_if2, zT_ifn, zT_getI, zT_getJ, zT_getR, zT_putI, zT_putZ, zT_putJ, zT_putR, zT_ald0, zT_lald, zT_aald, zT_iast, zT_zast, zT_bast, zT_last, zT_aast, zT_iret, zT_nret, zT_aret, zT_vret, zT_oi, zT_mm, zT_ialX, zT_S1, zT_S2, zT_S3, zT_V0, zT_V1, zT_V2, zT_V3, zT_V4, zT_V5, zT_V6, zT_I0, zT_I1, zT_I2, zlg, zlset, zlpr, zent, zok, va_rf, List.length_cons, List.length_nil, List.replicate, List.cons_append, List.nil_append, List.append_nil, Option.toList_some, Option.toList_none, Option.toList, Nat.reduceAdd, Nat.reduceSub, Nat.reduceLeDiff, Nat.zero_add, Nat.zero_le, true_and, and_true, Nat.le_refl, ge_iff_le, Nat.reduceEqDiff]
    unfold zc_X7_within
    dsimp only
    simp only [zbI_0, zsh_0, zsh_1, a0, zT_push, zT_bin, zT_div, zT_bil, zT_shl, zT_un, zT_i2l, zT_l2i, zT_lcmp, zT_ild, zT_lld, zT_ald, zT_ist, zT_lst, zT_ast, zT_iinc, zT_dup, zT_dup2, zT_pop, zT_if1, zT_if2, zT_ifn, zT_getI, zT_getJ, zT_getR, zT_putI, zT_putZ, zT_putJ, zT_putR, zT_ald0, zT_lald, zT_aald, zT_iast, zT_zast, zT_bast, zT_last, zT_aast, zT_iret, zT_nret, zT_aret, zT_vret, zT_oi, zT_mm, zT_ialX, zT_S1, zT_S2, zT_S3, zT_V0, zT_V1, zT_V2, zT_V3, zT_V4, zT_V5, zT_V6, zT_I0, zT_I1, zT_I2, zlg, zlset, zlpr, zent, zok, va_rf, List.length_cons, List.length_nil, List.replicate, List.cons_append, List.nil_append, List.append_nil, Option.toList_some, Option.toList_none, Option.toList, Nat.reduceAdd, Nat.reduceSub, Nat.reduceLeDiff, Nat.zero_add, Nat.zero_le, true_and, and_true, Nat.le_refl, ge_iff_le, Nat.reduceEqDiff]
    refine ⟨fun h1 => ?_, fun h1 => ?_⟩
    · unfold zc_X7_refuse
      dsimp only
      refine ⟨rfl, ?_⟩
      have h2 := h (zwI M 0 8 (-1))
      unfold pLevel at h2
      rw [if_neg h1] at h2
      exact h2 (hF'.refuse _)
    · have c1 := Classical.not_not.mp h1
      obtain ⟨e1, e2⟩ := tn_nI (x := n) (b := 200) c1.1 c1.2 (by decide)
      have q := hx2
      obtain ⟨-, ok, w1, w2, w3, w4, w5, w6, -⟩ := q
      obtain ⟨k1, k2, k3, k4, k5, k6, k7, k8, k9⟩ := ok
      have hs2 : zsm [1] M (zwI M 1 5 n) := zsm.rf.w (by simp)
      have hx3 : zX2 (zwI M 1 5 n) (sW F.1, sH F.1, tn n, sS F.1, sF F.1, sG F.1, sA F.1) pk dk p := by
        refine hx2.mv hs2 (by simp) ⟨k1, k2, k3, k4, e2, k6, k7, k8, k9⟩ rfl ?_ ?_ ?_ ?_ ?_ (fun e he => ?_)
        · simp only [zwI_L, zwI_I, zwI_J, zwI_R, zwJ_L, zwJ_I, zwJ_J, zwJ_R, zwR_L, zwR_I, zwR_J, zwR_R, zw2_s, zw2_n, ne_eq, not_false_eq_true, reduceCtorEq, not_true_eq_false, Nat.reduceEqDiff]; rw [zup_n (by decide)]; exact w1
        · simp only [zwI_L, zwI_I, zwI_J, zwI_R, zwJ_L, zwJ_I, zwJ_J, zwJ_R, zwR_L, zwR_I, zwR_J, zwR_R, zw2_s, zw2_n, ne_eq, not_false_eq_true, reduceCtorEq, not_true_eq_false, Nat.reduceEqDiff]; rw [zup_n (by decide)]; exact w2
        · simp only [zwI_L, zwI_I, zwI_J, zwI_R, zwJ_L, zwJ_I, zwJ_J, zwJ_R, zwR_L, zwR_I, zwR_J, zwR_R, zw2_s, zw2_n, ne_eq, not_false_eq_true, reduceCtorEq, not_true_eq_false, Nat.reduceEqDiff]; rw [zup_n (by decide)]; exact w3
        · simp only [zwI_L, zwI_I, zwI_J, zwI_R, zwJ_L, zwJ_I, zwJ_J, zwJ_R, zwR_L, zwR_I, zwR_J, zwR_R, zw2_s, zw2_n, ne_eq, not_false_eq_true, reduceCtorEq, not_true_eq_false, Nat.reduceEqDiff]; rw [zup_n (by decide)]; exact w4
        · simp only [zwI_L, zwI_I, zwI_J, zwI_R, zwJ_L, zwJ_I, zwJ_J, zwJ_R, zwR_L, zwR_I, zwR_J, zwR_R, zw2_s, zw2_n, ne_eq, not_false_eq_true, reduceCtorEq, not_true_eq_false, Nat.reduceEqDiff]; rw [zup_s]; exact e1
        · simp only [zwI_L, zwI_I, zwI_J, zwI_R, zwJ_L, zwJ_I, zwJ_J, zwJ_R, zwR_L, zwR_I, zwR_J, zwR_R, zw2_s, zw2_n, ne_eq, not_false_eq_true, reduceCtorEq, not_true_eq_false, Nat.reduceEqDiff]; exact w6 e he
      unfold zc_X7_forgetRuns
      dsimp only
      refine ⟨rfl, a4, hx3.2.2.2.2.2.2.2.2.2.2.1, fun M3 hf hl => ?_⟩
      simp only [zsh_0, zT_push, zT_bin, zT_div, zT_bil, zT_shl, zT_un, zT_i2l, zT_l2i, zT_lcmp, zT_ild, zT_lld, zT_ald, zT_ist, zT_lst, zT_ast, zT_iinc, zT_dup, zT_dup2, zT_pop, zT_if1, zT_if2, zT_ifn, zT_getI, zT_getJ, zT_getR, zT_putI, zT_putZ, zT_putJ, zT_putR, zT_ald0, zT_lald, zT_aald, zT_iast, zT_zast, zT_bast, zT_last, zT_aast, zT_iret, zT_nret, zT_aret, zT_vret, zT_oi, zT_mm, zT_ialX, zT_S1, zT_S2, zT_S3, zT_V0, zT_V1, zT_V2, zT_V3, zT_V4, zT_V5, zT_V6, zT_I0, zT_I1, zT_I2, zlg, zlset, zlpr, zent, zok, va_rf, List.length_cons, List.length_nil, List.replicate, List.cons_append, List.nil_append, List.append_nil, Option.toList_some, Option.toList_none, Option.toList, Nat.reduceAdd, Nat.reduceSub, Nat.reduceLeDiff, Nat.zero_add, Nat.zero_le, true_and, and_true, Nat.le_refl, ge_iff_le, Nat.reduceEqDiff]
      unfold zc_X7_accept
      dsimp only
      refine ⟨rfl, ?_⟩
      have h2 := h (zwI M3 0 8 0)
      unfold pLevel at h2
      rw [if_pos c1] at h2
      exact h2 (zXF.accept (F := F) hx3 (hEn.to (fun k a b => hs2.at (by simp; omega))) hel (hTp.to (fun k a b => hs2.at (by simp; omega))) (by rw [hs2.at (by simp)]; exact hft) hf hl)
  · exact h.elim
end
section
/-! DeltaRuns end -/
theorem zd_X7_end_0 : decode cX7_end 0 = .ok (.iload_n 1, 1) := by decide +kernel
theorem zd_X7_end_1 : decode cX7_end 1 = .ok (.iconst 0, 1) := by decide +kernel
theorem zd_X7_end_2 : decode cX7_end 2 = .ok (.aload_n 0, 1) := by decide +kernel
theorem zd_X7_end_3 : decode cX7_end 3 = .ok (.getfield 19, 3) := by decide +kernel
theorem zd_X7_end_6 : decode cX7_end 6 = .ok (.getfield 102, 3) := by decide +kernel
theorem zd_X7_end_9 : decode cX7_end 9 = .ok (.invokestatic 60, 3) := by decide +kernel
theorem zd_X7_end_12 : decode cX7_end 12 = .ok (.ifCond .ne 5, 3) := by decide +kernel
theorem zd_X7_end_15 : decode cX7_end 15 = .ok (.iconst (-1), 1) := by decide +kernel
theorem zd_X7_end_16 : decode cX7_end 16 = .ok (.ireturn, 1) := by decide +kernel
theorem zd_X7_end_17 : decode cX7_end 17 = .ok (.aload_n 0, 1) := by decide +kernel
theorem zd_X7_end_18 : decode cX7_end 18 = .ok (.getfield 19, 3) := by decide +kernel
theorem zd_X7_end_21 : decode cX7_end 21 = .ok (.iload_n 1, 1) := by decide +kernel
theorem zd_X7_end_22 : decode cX7_end 22 = .ok (.putfield 102, 3) := by decide +kernel
theorem zd_X7_end_25 : decode cX7_end 25 = .ok (.iload_n 1, 1) := by decide +kernel
theorem zd_X7_end_26 : decode cX7_end 26 = .ok (.ireturn, 1) := by decide +kernel
def zb_X7_end_0 (K : zKt) (J : Nat → zPP) : zPP := zT_ild 1 (zT_push (.int 0) (zT_ald 0 (zT_getR 7 1 9 (zT_getI 4 1 2 (zT_S3 zok zc_X7_within (zT_if1 (fun x => x = 0) (zT_push (.int (-1)) (zT_iret K)) (zT_ald 0 (zT_getR 7 1 9 (zT_ild 1 (zT_putI 4 1 2 (zT_ild 1 (zT_iret K))))))))))))
theorem zbs_X7_end_0 {X : zCt} (hR : zRX X = { frames := 1, cells := 0, slots := 0, locals := 22 }) (J : Nat → zPP) (hJ : ∀ h ∈ ([] : List Nat), zSd X RX7 "end" cX7_end 2 (some .int) h (J h)) : zSd X RX7 "end" cX7_end 2 (some .int) 0 (zb_X7_end_0 (zKX X) J) := zs_iload_n zd_X7_end_0 rfl (zs_iconst zd_X7_end_1 (by decide) (zs_aload_n zd_X7_end_2 rfl (zs_getR (ci := 7) (j := 1) (T := TX7) rfl inX7 (by decide) gw_1_186 rfl zd_X7_end_3 (zs_getI (ci := 4) (j := 1) (T := TX4) rfl inX4 (by decide) gw_1_70 rfl zd_X7_end_6 (zs_S (zm_X7_within _ _ _) gw_1_219 gw_1_217 gw_1_218 gw_1_1 zdn_X7_within (zrm hR (by decide) (by decide)) zd_X7_end_9 (zCl_S3 zok_l) (zs_if_ne (tgt := 17) zd_X7_end_12 (by decide) (zs_aload_n zd_X7_end_17 rfl (zs_getR (ci := 7) (j := 1) (T := TX7) rfl inX7 (by decide) gw_1_186 rfl zd_X7_end_18 (zs_iload_n zd_X7_end_21 rfl (zs_putI (ci := 4) (j := 1) (T := TX4) rfl inX4 tyX4_ok nmX4 (by decide) gw_1_70 rfl rfl rfl zd_X7_end_22 (zs_iload_n zd_X7_end_25 rfl (zs_iret rfl zd_X7_end_26)))))) (zs_iconst zd_X7_end_15 (by decide) (zs_iret rfl zd_X7_end_16))))))))
theorem zdn_X7_end : yX7_end.cls ≠ "java/lang/invoke/MethodHandle" ∧ yX7_end.cls ≠ "java/lang/invoke/VarHandle" ∧ (parseMethodDescriptor yX7_end.desc).map (fun d => d.parameters.length) = some 1 := by decide +kernel
theorem pcl_n {σ : wSP} {x y : Int32} (hok : wsok σ) (h : pcl σ x y) : x = nI (tn x) ∧ tn x < sW σ ∧ y = nI (tn y) ∧ tn y < sH σ ∧ tn x < 12 ∧ tn y < 10 := by
  obtain ⟨k1, k2, k3, k4, -⟩ := hok
  obtain ⟨h1, h2, h3, h4⟩ := h
  obtain ⟨e1, e2⟩ := tn_lt h1 h2 (by omega)
  obtain ⟨e3, e4⟩ := tn_lt h3 h4 (by omega)
  exact ⟨e1, e2, e3, e4, by omega, by omega⟩
def zc_X7_land (a : List Value) (M : zMm) (K : zKt) : Prop := match a with
  | [.ref k, .int x, .int y, .int u, .int v, .int g] => k = 0 ∧ ∃ F pk dk p, zXF M F pk dk p ∧ ∀ M', zXF M' (pLand x y u v g F).2 pk dk p → K (some (.int (pLand x y u v g F).1)) M'
  | _ => False
set_option maxHeartbeats 1000000 in
theorem zm_X7_land (l : Launch) (D : va_G) (Y : Nat → ClassId) : zMt l D Y yX7_land cX7_land 7 (some .int) 2 49 0 0 zc_X7_land := by
  refine zflat (by decide) (fun K J lc lz => zb_X7_land_0 K J) (fun X hR => zbs_X7_land_0 hR zJ0 zJ0_ok) (fun avs M K h => ?_)
  unfold zc_X7_land at h
  split at h
  · next k x y u v g =>
    obtain ⟨rfl, F, pk, dk, p, hF, h⟩ := h
    have hF' := hF
    obtain ⟨hxi, hEn, hel, hTp, hft, hst⟩ := hF
    have hx2 := hxi.x2
    obtain ⟨a0, a1, a2, a3, a4, a5, a6, a7, -⟩ := id hxi.1
    have q := hx2
    obtain ⟨-, ok, w1, w2, w3, w4, w5, w6, -⟩ := q
    have bad : (¬ (0 ≤ g ∧ g ≤ 200) ∨ u < x ∨ v < y) → zb_X7_land_23 K zJ0 M [some (.ref 0), some (.int x), some (.int y), some (.int u), some (.int v), some (.int g), none] [] := by
      intro hb
      simp only [zb_X7_land_23, zsh_0, zT_push, zT_bin, zT_div, zT_bil, zT_shl, zT_un, zT_i2l, zT_l2i, zT_lcmp, zT_ild, zT_lld, zT_ald, zT_ist, zT_lst, zT_ast, zT_iinc, zT_dup, zT_dup2, zT_pop, zT_if1, zT_if2, zT_ifn, zT_getI, zT_getJ, zT_getR, zT_putI, zT_putZ, zT_putJ, zT_putR, zT_ald0, zT_lald, zT_aald, zT_iast, zT_zast, zT_bast, zT_last, zT_aast, zT_iret, zT_nret, zT_aret, zT_vret, zT_oi, zT_mm, zT_ialX, zT_S1, zT_S2, zT_S3, zT_V0, zT_V1, zT_V2, zT_V3, zT_V4, zT_V5, zT_V6, zT_I0, zT_I1, zT_I2, zlg, zlset, zlpr, zent, zok, va_rf, List.length_cons, List.length_nil, List.replicate, List.cons_append, List.nil_append, List.append_nil, Option.toList_some, Option.toList_none, Option.toList, Nat.reduceAdd, Nat.reduceSub, Nat.reduceLeDiff, Nat.zero_add, Nat.zero_le, true_and, and_true, Nat.le_refl, ge_iff_le, Nat.reduceEqDiff]
      unfold zc_X7_refuse
      dsimp only
      refine ⟨rfl, ?_⟩
      have h2 := h (zwI M 0 8 (-1))
      unfold pLand at h2
      rw [if_pos hb] at h2
      exact h2 (hF'.refuse _)
    have bad2 : ¬ (¬ (0 ≤ g ∧ g ≤ 200) ∨ u < x ∨ v < y) → ¬ (pclD F.1 x y = true ∧ pclD F.1 u v = true) → zb_X7_land_54 K zJ0 M [some (.ref 0), some (.int x), some (.int y), some (.int u), some (.int v), some (.int g), none] [] := by
      intro hb hb2
      simp only [zb_X7_land_54, zsh_0, zT_push, zT_bin, zT_div, zT_bil, zT_shl, zT_un, zT_i2l, zT_l2i, zT_lcmp, zT_ild, zT_lld, zT_ald, zT_ist, zT_lst, zT_ast, zT_iinc, zT_dup, zT_dup2, zT_pop, zT_if1, zT_if2, zT_ifn, zT_getI, zT_getJ, zT_getR, zT_putI, zT_putZ, zT_putJ, zT_putR, zT_ald0, zT_lald, zT_aald, zT_iast, zT_zast, zT_bast, zT_last, zT_aast, zT_iret, zT_nret, zT_aret, zT_vret, zT_oi, zT_mm, zT_ialX, zT_S1, zT_S2, zT_S3, zT_V0, zT_V1, zT_V2, zT_V3, zT_V4, zT_V5, zT_V6, zT_I0, zT_I1, zT_I2, zlg, zlset, zlpr, zent, zok, va_rf, List.length_cons, List.length_nil, List.replicate, List.cons_append, List.nil_append, List.append_nil, Option.toList_some, Option.toList_none, Option.toList, Nat.reduceAdd, Nat.reduceSub, Nat.reduceLeDiff, Nat.zero_add, Nat.zero_le, true_and, and_true, Nat.le_refl, ge_iff_le, Nat.reduceEqDiff]
      unfold zc_X7_refuse
      dsimp only
      refine ⟨rfl, ?_⟩
      have h2 := h (zwI M 0 8 (-2))
      unfold pLand at h2
      rw [if_neg hb, if_neg hb2] at h2
      exact h2 (hF'.refuse _)
    refine ⟨by simp [zent], ?_⟩
    simp only [zb_X7_land_0, zT_push, zT_bin, zT_div, zT_bil, zT_shl, zT_un, zT_i2l, zT_l2i, zT_lcmp, zT_ild, zT_lld, zT_ald, zT_ist, zT_lst, zT_ast, zT_iinc, zT_dup, zT_dup2, zT_pop, zT_if1, zT_if2, zT_ifn, zT_getI, zT_getJ, zT_getR, zT_putI, zT_putZ, zT_putJ, zT_putR, zT_ald0, zT_lald, zT_aald, zT_iast, zT_zast, zT_bast, zT_last, zT_aast, zT_iret, zT_nret, zT_aret, zT_vret, zT_oi, zT_mm, zT_ialX, zT_S1, zT_S2, zT_S3, zT_V0, zT_V1, zT_V2, zT_V3, zT_V4, zT_V5, zT_V6, zT_I0, zT_I1, zT_I2, zlg, zlset, zlpr, zent, zok, va_rf, List.length_cons, List.length_nil, List.replicate, List.cons_append, List.nil_append, List.append_nil, Option.toList_some, Option.toList_none, Option.toList, Nat.reduceAdd, Nat.reduceSub, Nat.reduceLeDiff, Nat.zero_add, Nat.zero_le, true_and, and_true, Nat.le_refl, ge_iff_le, Nat.reduceEqDiff]
    unfold zc_X7_within
    dsimp only
    simp only [zbI_0, zsh_0, zsh_1, a0, zT_push, zT_bin, zT_div, zT_bil, zT_shl, zT_un, zT_i2l, zT_l2i, zT_lcmp, zT_ild, zT_lld, zT_ald, zT_ist, zT_lst, zT_ast, zT_iinc, zT_dup, zT_dup2, zT_pop, zT_if1, zT_if2, zT_ifn, zT_getI, zT_getJ, zT_getR, zT_putI, zT_putZ, zT_putJ, zT_putR, zT_ald0, zT_lald, zT_aald, zT_iast, zT_zast, zT_bast, zT_last, zT_aast, zT_iret, zT_nret, zT_aret, zT_vret, zT_oi, zT_mm, zT_ialX, zT_S1, zT_S2, zT_S3, zT_V0, zT_V1, zT_V2, zT_V3, zT_V4, zT_V5, zT_V6, zT_I0, zT_I1, zT_I2, zlg, zlset, zlpr, zent, zok, va_rf, List.length_cons, List.length_nil, List.replicate, List.cons_append, List.nil_append, List.append_nil, Option.toList_some, Option.toList_none, Option.toList, Nat.reduceAdd, Nat.reduceSub, Nat.reduceLeDiff, Nat.zero_add, Nat.zero_le, true_and, and_true, Nat.le_refl, ge_iff_le, Nat.reduceEqDiff]
    refine ⟨fun h1 => bad (Or.inl h1), fun h1 => ⟨fun h2 => bad (Or.inr (Or.inl h2)), fun h2 => ⟨fun h3 => ?_, fun h3 => bad (Or.inr (Or.inr (Int32.not_le.mp h3)))⟩⟩⟩
    have hn : ¬ (¬ (0 ≤ g ∧ g ≤ 200) ∨ u < x ∨ v < y) := by
      rintro (z | z | z)
      · exact h1 z
      · exact h2 z
      · exact Int32.not_le.mpr z h3
    have c1 := Classical.not_not.mp h1
    unfold zc_X1_has
    dsimp only
    refine ⟨rfl, ?_⟩
    simp only [zbI_0, w1, w2, zsh_0, zsh_1, a0, zT_push, zT_bin, zT_div, zT_bil, zT_shl, zT_un, zT_i2l, zT_l2i, zT_lcmp, zT_ild, zT_lld, zT_ald, zT_ist, zT_lst, zT_ast, zT_iinc, zT_dup, zT_dup2, zT_pop, zT_if1, zT_if2, zT_ifn, zT_getI, zT_getJ, zT_getR, zT_putI, zT_putZ, zT_putJ, zT_putR, zT_ald0, zT_lald, zT_aald, zT_iast, zT_zast, zT_bast, zT_last, zT_aast, zT_iret, zT_nret, zT_aret, zT_vret, zT_oi, zT_mm, zT_ialX, zT_S1, zT_S2, zT_S3, zT_V0, zT_V1, zT_V2, zT_V3, zT_V4, zT_V5, zT_V6, zT_I0, zT_I1, zT_I2, zlg, zlset, zlpr, zent, zok, va_rf, List.length_cons, List.length_nil, List.replicate, List.cons_append, List.nil_append, List.append_nil, Option.toList_some, Option.toList_none, Option.toList, Nat.reduceAdd, Nat.reduceSub, Nat.reduceLeDiff, Nat.zero_add, Nat.zero_le, true_and, and_true, Nat.le_refl, ge_iff_le, Nat.reduceEqDiff]
    refine ⟨fun h4 => bad2 hn (fun z => h4 (pclD_t.mp z.1)), fun h4 => ⟨fun h5 => bad2 hn (fun z => h5 (pclD_t.mp z.2)), fun h5 => ?_⟩⟩
    have c4 : pcl F.1 x y := Classical.not_not.mp h4
    have c5 : pcl F.1 u v := Classical.not_not.mp h5
    obtain ⟨x1, x2, y1, y2, x3, y3⟩ := pcl_n ok c4
    obtain ⟨u1, u2, v1, v2, u3, v3⟩ := pcl_n ok c5
    obtain ⟨g1, g2⟩ := tn_nI (x := g) (b := 200) c1.1 c1.2 (by decide)
    have xu : tn x ≤ tn u := by
      have z := Int32.not_lt.mp h2
      rw [x1, u1] at z
      exact (nI_leI (by omega) (by omega)).mp z
    have yv : tn y ≤ tn v := by
      have z := h3
      rw [y1, v1] at z
      exact (nI_leI (by omega) (by omega)).mp z
    unfold zc_X1_raise
    dsimp only
    refine ⟨rfl, a7, tn x, tn y, tn u, tn v, x1, y1, u1, v1, xu, yv, u3, v3, fun M1 hs1 hc1 => ?_⟩
    simp only [zsh_0, zT_push, zT_bin, zT_div, zT_bil, zT_shl, zT_un, zT_i2l, zT_l2i, zT_lcmp, zT_ild, zT_lld, zT_ald, zT_ist, zT_lst, zT_ast, zT_iinc, zT_dup, zT_dup2, zT_pop, zT_if1, zT_if2, zT_ifn, zT_getI, zT_getJ, zT_getR, zT_putI, zT_putZ, zT_putJ, zT_putR, zT_ald0, zT_lald, zT_aald, zT_iast, zT_zast, zT_bast, zT_last, zT_aast, zT_iret, zT_nret, zT_aret, zT_vret, zT_oi, zT_mm, zT_ialX, zT_S1, zT_S2, zT_S3, zT_V0, zT_V1, zT_V2, zT_V3, zT_V4, zT_V5, zT_V6, zT_I0, zT_I1, zT_I2, zlg, zlset, zlpr, zent, zok, va_rf, List.length_cons, List.length_nil, List.replicate, List.cons_append, List.nil_append, List.append_nil, Option.toList_some, Option.toList_none, Option.toList, Nat.reduceAdd, Nat.reduceSub, Nat.reduceLeDiff, Nat.zero_add, Nat.zero_le, true_and, and_true, Nat.le_refl, ge_iff_le, Nat.reduceEqDiff]
    have hx3 : zX2 M1 (sW F.1, sH F.1, sL F.1, sS F.1, sF F.1, fun e => if tn x ≤ e % 12 ∧ e % 12 ≤ tn u ∧ tn y ≤ e / 12 ∧ e / 12 ≤ tn v then tn g else sG F.1 e, sA F.1) pk dk p := by
      obtain ⟨k1, k2, k3, k4, k5, k6, k7, k8, k9⟩ := ok
      have e1 : M1.2.1 1 = M.2.1 1 := hs1.at (by simp)
      refine hx2.mv hs1 (by simp) ⟨k1, k2, k3, k4, k5, k6, k7, k8, fun e => ?_⟩ rfl (by rw [e1]; exact w1) (by rw [e1]; exact w2) (by rw [e1]; exact w3) (by rw [e1]; exact w4) (by rw [e1]; exact w5) (fun e he => ?_)
      · show (if tn x ≤ e % 12 ∧ e % 12 ≤ tn u ∧ tn y ≤ e / 12 ∧ e / 12 ≤ tn v then tn g else sG F.1 e) ≤ 200
        split
        · exact g2
        · exact k9 e
      · rw [hc1 e he]
        show _ = nI (if tn x ≤ e % 12 ∧ e % 12 ≤ tn u ∧ tn y ≤ e / 12 ∧ e / 12 ≤ tn v then tn g else sG F.1 e)
        split
        · exact g1
        · exact w6 e he
    unfold zc_X7_forgetRuns
    dsimp only
    refine ⟨rfl, by rw [hs1.R]; exact a4, hx3.2.2.2.2.2.2.2.2.2.2.1, fun M3 hf hl => ?_⟩
    simp only [zsh_0, zT_push, zT_bin, zT_div, zT_bil, zT_shl, zT_un, zT_i2l, zT_l2i, zT_lcmp, zT_ild, zT_lld, zT_ald, zT_ist, zT_lst, zT_ast, zT_iinc, zT_dup, zT_dup2, zT_pop, zT_if1, zT_if2, zT_ifn, zT_getI, zT_getJ, zT_getR, zT_putI, zT_putZ, zT_putJ, zT_putR, zT_ald0, zT_lald, zT_aald, zT_iast, zT_zast, zT_bast, zT_last, zT_aast, zT_iret, zT_nret, zT_aret, zT_vret, zT_oi, zT_mm, zT_ialX, zT_S1, zT_S2, zT_S3, zT_V0, zT_V1, zT_V2, zT_V3, zT_V4, zT_V5, zT_V6, zT_I0, zT_I1, zT_I2, zlg, zlset, zlpr, zent, zok, va_rf, List.length_cons, List.length_nil, List.replicate, List.cons_append, List.nil_append, List.append_nil, Option.toList_some, Option.toList_none, Option.toList, Nat.reduceAdd, Nat.reduceSub, Nat.reduceLeDiff, Nat.zero_add, Nat.zero_le, true_and, and_true, Nat.le_refl, ge_iff_le, Nat.reduceEqDiff]
    unfold zc_X7_accept
    dsimp only
    refine ⟨rfl, ?_⟩
    have h2' := h (zwI M3 0 8 0)
    unfold pLand at h2'
    rw [if_neg hn, if_pos ⟨pclD_t.mpr c4, pclD_t.mpr c5⟩] at h2'
    exact h2' (zXF.accept (F := F) hx3 (hEn.to (fun k a b => hs1.at (by simp; omega))) hel (hTp.to (fun k a b => hs1.at (by simp; omega))) (by rw [hs1.at (by simp)]; exact hft) hf hl)
  · exact h.elim
def zc_X7_spring (a : List Value) (M : zMm) (K : zKt) : Prop := match a with
  | [.ref k, .int x, .int y, .int f] => k = 0 ∧ ∃ F pk dk p, zXF M F pk dk p ∧ ∀ M', zXF M' (pSpring x y f F).2 pk dk p → K (some (.int (pSpring x y f F).1)) M'
  | _ => False
set_option maxHeartbeats 1000000 in
theorem zm_X7_spring (l : Launch) (D : va_G) (Y : Nat → ClassId) : zMt l D Y yX7_spring cX7_spring 4 (some .int) 1 22 0 0 zc_X7_spring := by
  refine zflat (by decide) (fun K J lc lz => zb_X7_spring_0 K J) (fun X hR => zbs_X7_spring_0 hR zJ0 zJ0_ok) (fun avs M K h => ?_)
  unfold zc_X7_spring at h
  split at h
  · next k x y f =>
    obtain ⟨rfl, F, pk, dk, p, hF, h⟩ := h
    have hF' := hF
    obtain ⟨hxi, hEn, hel, hTp, hft, hst⟩ := hF
    have hx2 := hxi.x2
    obtain ⟨a0, a1, a2, a3, a4, a5, a6, a7, -⟩ := id hxi.1
    have q := hx2
    obtain ⟨-, ok, w1, w2, w3, w4, w5, w6, -⟩ := q
    refine ⟨by simp [zent], ?_⟩
    simp only [zb_X7_spring_0, zT_push, zT_bin, zT_div, zT_bil, zT_shl, zT_un, zT_i2l, zT_l2i, zT_lcmp, zT_ild, zT_lld, zT_ald, zT_ist, zT_lst, zT_ast, zT_iinc, zT_dup, zT_dup2, zT_pop, zT_if1, zT_if2, zT_ifn, zT_getI, zT_getJ, zT_getR, zT_putI, zT_putZ, zT_putJ, zT_putR, zT_ald0, zT_lald, zT_aald, zT_iast, zT_zast, zT_bast, zT_last, zT_aast, zT_iret, zT_nret, zT_aret, zT_vret, zT_oi, zT_mm, zT_ialX, zT_S1, zT_S2, zT_S3, zT_V0, zT_V1, zT_V2, zT_V3, zT_V4, zT_V5, zT_V6, zT_I0, zT_I1, zT_I2, zlg, zlset, zlpr, zent, zok, va_rf, List.length_cons, List.length_nil, List.replicate, List.cons_append, List.nil_append, List.append_nil, Option.toList_some, Option.toList_none, Option.toList, Nat.reduceAdd, Nat.reduceSub, Nat.reduceLeDiff, Nat.zero_add, Nat.zero_le, true_and, and_true, Nat.le_refl, ge_iff_le, Nat.reduceEqDiff]
    unfold zc_X7_within
    dsimp only
    simp only [zbI_0, zsh_0, zsh_1, a0, zT_push, zT_bin, zT_div, zT_bil, zT_shl, zT_un, zT_i2l, zT_l2i, zT_lcmp, zT_ild, zT_lld, zT_ald, zT_ist, zT_lst, zT_ast, zT_iinc, zT_dup, zT_dup2, zT_pop, zT_if1, zT_if2, zT_ifn, zT_getI, zT_getJ, zT_getR, zT_putI, zT_putZ, zT_putJ, zT_putR, zT_ald0, zT_lald, zT_aald, zT_iast, zT_zast, zT_bast, zT_last, zT_aast, zT_iret, zT_nret, zT_aret, zT_vret, zT_oi, zT_mm, zT_ialX, zT_S1, zT_S2, zT_S3, zT_V0, zT_V1, zT_V2, zT_V3, zT_V4, zT_V5, zT_V6, zT_I0, zT_I1, zT_I2, zlg, zlset, zlpr, zent, zok, va_rf, List.length_cons, List.length_nil, List.replicate, List.cons_append, List.nil_append, List.append_nil, Option.toList_some, Option.toList_none, Option.toList, Nat.reduceAdd, Nat.reduceSub, Nat.reduceLeDiff, Nat.zero_add, Nat.zero_le, true_and, and_true, Nat.le_refl, ge_iff_le, Nat.reduceEqDiff]
    refine ⟨fun h1 => ?_, fun h1 => ?_⟩
    · unfold zc_X7_refuse
      dsimp only
      refine ⟨rfl, ?_⟩
      have h2 := h (zwI M 0 8 (-1))
      unfold pSpring at h2
      rw [if_neg h1] at h2
      exact h2 (hF'.refuse _)
    · have c1 := Classical.not_not.mp h1
      unfold zc_X1_has
      dsimp only
      refine ⟨rfl, ?_⟩
      simp only [zbI_0, w1, w2, zT_push, zT_bin, zT_div, zT_bil, zT_shl, zT_un, zT_i2l, zT_l2i, zT_lcmp, zT_ild, zT_lld, zT_ald, zT_ist, zT_lst, zT_ast, zT_iinc, zT_dup, zT_dup2, zT_pop, zT_if1, zT_if2, zT_ifn, zT_getI, zT_getJ, zT_getR, zT_putI, zT_putZ, zT_putJ, zT_putR, zT_ald0, zT_lald, zT_aald, zT_iast, zT_zast, zT_bast, zT_last, zT_aast, zT_iret, zT_nret, zT_aret, zT_vret, zT_oi, zT_mm, zT_ialX, zT_S1, zT_S2, zT_S3, zT_V0, zT_V1, zT_V2, zT_V3, zT_V4, zT_V5, zT_V6, zT_I0, zT_I1, zT_I2, zlg, zlset, zlpr, zent, zok, va_rf, List.length_cons, List.length_nil, List.replicate, List.cons_append, List.nil_append, List.append_nil, Option.toList_some, Option.toList_none, Option.toList, Nat.reduceAdd, Nat.reduceSub, Nat.reduceLeDiff, Nat.zero_add, Nat.zero_le, true_and, and_true, Nat.le_refl, ge_iff_le, Nat.reduceEqDiff]
      refine ⟨fun h4 => ?_, fun h4 => ?_⟩
      · unfold zc_X7_refuse
        dsimp only
        refine ⟨rfl, ?_⟩
        have h2 := h (zwI M 0 8 (-2))
        unfold pSpring at h2
        rw [if_pos c1, if_neg (fun z => h4 (pclD_t.mp z))] at h2
        exact h2 (hF'.refuse _)
      · have c4 : pcl F.1 x y := Classical.not_not.mp h4
        obtain ⟨x1, x2, y1, y2, x3, y3⟩ := pcl_n ok c4
        obtain ⟨f1, f2⟩ := tn_nI (x := f) (b := 1000) c1.1 c1.2 (by decide)
        unfold zc_X7_cellAt
        dsimp only
        simp only [zsh_0, zsh_1, a0, zwI_R, zT_push, zT_bin, zT_div, zT_bil, zT_shl, zT_un, zT_i2l, zT_l2i, zT_lcmp, zT_ild, zT_lld, zT_ald, zT_ist, zT_lst, zT_ast, zT_iinc, zT_dup, zT_dup2, zT_pop, zT_if1, zT_if2, zT_ifn, zT_getI, zT_getJ, zT_getR, zT_putI, zT_putZ, zT_putJ, zT_putR, zT_ald0, zT_lald, zT_aald, zT_iast, zT_zast, zT_bast, zT_last, zT_aast, zT_iret, zT_nret, zT_aret, zT_vret, zT_oi, zT_mm, zT_ialX, zT_S1, zT_S2, zT_S3, zT_V0, zT_V1, zT_V2, zT_V3, zT_V4, zT_V5, zT_V6, zT_I0, zT_I1, zT_I2, zlg, zlset, zlpr, zent, zok, va_rf, List.length_cons, List.length_nil, List.replicate, List.cons_append, List.nil_append, List.append_nil, Option.toList_some, Option.toList_none, Option.toList, Nat.reduceAdd, Nat.reduceSub, Nat.reduceLeDiff, Nat.zero_add, Nat.zero_le, true_and, and_true, Nat.le_refl, ge_iff_le, Nat.reduceEqDiff]
        have ec : y * 12 + x = nI (tn y * 12 + tn x) := by
          conv => lhs; rw [x1, y1]
          exact wcell
        have hs2 : zsm [1] M (zwI (zwI M 1 3 (y * 12 + x)) 1 4 f) := (zsm.rf.w (by simp)).w (by simp)
        have hx3 : zX2 (zwI (zwI M 1 3 (y * 12 + x)) 1 4 f) (sW F.1, sH F.1, sL F.1, tn y * 12 + tn x, tn f, sG F.1, sA F.1) pk dk p := by
          obtain ⟨k1, k2, k3, k4, k5, k6, k7, k8, k9⟩ := ok
          refine hx2.mv hs2 (by simp) ⟨k1, k2, k3, k4, k5, by show tn y * 12 + tn x < 120; omega, ⟨by show (tn y * 12 + tn x) % 12 < sW F.1; omega, by show (tn y * 12 + tn x) / 12 < sH F.1; omega⟩, f2, k9⟩ rfl ?_ ?_ ?_ ?_ ?_ (fun e he => ?_)
          · simp only [zwI_L, zwI_I, zwI_J, zwI_R, zwJ_L, zwJ_I, zwJ_J, zwJ_R, zwR_L, zwR_I, zwR_J, zwR_R, zw2_s, zw2_n, ne_eq, not_false_eq_true, reduceCtorEq, not_true_eq_false, Nat.reduceEqDiff]; rw [zup_n (by decide), zup_n (by decide)]; exact w1
          · simp only [zwI_L, zwI_I, zwI_J, zwI_R, zwJ_L, zwJ_I, zwJ_J, zwJ_R, zwR_L, zwR_I, zwR_J, zwR_R, zw2_s, zw2_n, ne_eq, not_false_eq_true, reduceCtorEq, not_true_eq_false, Nat.reduceEqDiff]; rw [zup_n (by decide), zup_n (by decide)]; exact w2
          · simp only [zwI_L, zwI_I, zwI_J, zwI_R, zwJ_L, zwJ_I, zwJ_J, zwJ_R, zwR_L, zwR_I, zwR_J, zwR_R, zw2_s, zw2_n, ne_eq, not_false_eq_true, reduceCtorEq, not_true_eq_false, Nat.reduceEqDiff]; rw [zup_n (by decide), zup_s]; exact ec
          · simp only [zwI_L, zwI_I, zwI_J, zwI_R, zwJ_L, zwJ_I, zwJ_J, zwJ_R, zwR_L, zwR_I, zwR_J, zwR_R, zw2_s, zw2_n, ne_eq, not_false_eq_true, reduceCtorEq, not_true_eq_false, Nat.reduceEqDiff]; rw [zup_s]; exact f1
          · simp only [zwI_L, zwI_I, zwI_J, zwI_R, zwJ_L, zwJ_I, zwJ_J, zwJ_R, zwR_L, zwR_I, zwR_J, zwR_R, zw2_s, zw2_n, ne_eq, not_false_eq_true, reduceCtorEq, not_true_eq_false, Nat.reduceEqDiff]; rw [zup_n (by decide), zup_n (by decide)]; exact w5
          · simp only [zwI_L, zwI_I, zwI_J, zwI_R, zwJ_L, zwJ_I, zwJ_J, zwJ_R, zwR_L, zwR_I, zwR_J, zwR_R, zw2_s, zw2_n, ne_eq, not_false_eq_true, reduceCtorEq, not_true_eq_false, Nat.reduceEqDiff]; exact w6 e he
        unfold zc_X7_forgetRuns
        dsimp only
        refine ⟨rfl, a4, hx3.2.2.2.2.2.2.2.2.2.2.1, fun M3 hf hl => ?_⟩
        simp only [zsh_0, zT_push, zT_bin, zT_div, zT_bil, zT_shl, zT_un, zT_i2l, zT_l2i, zT_lcmp, zT_ild, zT_lld, zT_ald, zT_ist, zT_lst, zT_ast, zT_iinc, zT_dup, zT_dup2, zT_pop, zT_if1, zT_if2, zT_ifn, zT_getI, zT_getJ, zT_getR, zT_putI, zT_putZ, zT_putJ, zT_putR, zT_ald0, zT_lald, zT_aald, zT_iast, zT_zast, zT_bast, zT_last, zT_aast, zT_iret, zT_nret, zT_aret, zT_vret, zT_oi, zT_mm, zT_ialX, zT_S1, zT_S2, zT_S3, zT_V0, zT_V1, zT_V2, zT_V3, zT_V4, zT_V5, zT_V6, zT_I0, zT_I1, zT_I2, zlg, zlset, zlpr, zent, zok, va_rf, List.length_cons, List.length_nil, List.replicate, List.cons_append, List.nil_append, List.append_nil, Option.toList_some, Option.toList_none, Option.toList, Nat.reduceAdd, Nat.reduceSub, Nat.reduceLeDiff, Nat.zero_add, Nat.zero_le, true_and, and_true, Nat.le_refl, ge_iff_le, Nat.reduceEqDiff]
        unfold zc_X7_accept
        dsimp only
        refine ⟨rfl, ?_⟩
        have h2 := h (zwI M3 0 8 0)
        unfold pSpring at h2
        rw [if_pos c1, if_pos (pclD_t.mpr c4)] at h2
        exact h2 (zXF.accept (F := F) hx3 (hEn.to (fun k a b => hs2.at (by simp; omega))) hel (hTp.to (fun k a b => hs2.at (by simp; omega))) (by rw [hs2.at (by simp)]; exact hft) hf hl)
  · exact h.elim
/-! end, fault, status -/
def pEnd (n : Int32) (F : wFS) : Int32 × wFS := if 0 ≤ n ∧ n ≤ nI F.2.2.1.length then (n, (F.1, F.2.1, F.2.2.1.take (tn n), F.2.2.2.1, F.2.2.2.2)) else (-1, F)
def zc_X7_end (a : List Value) (M : zMm) (K : zKt) : Prop := match a with
  | [.ref k, .int n] => k = 0 ∧ ∃ F pk dk p, zXF M F pk dk p ∧ ∀ M', zXF M' (pEnd n F).2 pk dk p → K (some (.int (pEnd n F).1)) M'
  | _ => False
theorem zm_X7_end (l : Launch) (D : va_G) (Y : Nat → ClassId) : zMt l D Y yX7_end cX7_end 2 (some .int) 1 22 0 0 zc_X7_end := by
  refine zflat (by decide) (fun K J lc lz => zb_X7_end_0 K J) (fun X hR => zbs_X7_end_0 hR zJ0 zJ0_ok) (fun avs M K h => ?_)
  unfold zc_X7_end at h
  split at h
  · next k n =>
    obtain ⟨rfl, F, pk, dk, p, hF, h⟩ := h
    have hF' := hF
    obtain ⟨hxi, hEn, hel, hTp, hft, hst⟩ := hF
    obtain ⟨a0, a1, -⟩ := id hxi.1
    obtain ⟨t1, t2, t3⟩ := id hTp
    refine ⟨by simp [zent], ?_⟩
    simp only [zb_X7_end_0, zsh_0, zsh_3, a1, zT_push, zT_bin, zT_div, zT_bil, zT_shl, zT_un, zT_i2l, zT_l2i, zT_lcmp, zT_ild, zT_lld, zT_ald, zT_ist, zT_lst, zT_ast, zT_iinc, zT_dup, zT_dup2, zT_pop, zT_if1, zT_if2, zT_ifn, zT_getI, zT_getJ, zT_getR, zT_putI, zT_putZ, zT_putJ, zT_putR, zT_ald0, zT_lald, zT_aald, zT_iast, zT_zast, zT_bast, zT_last, zT_aast, zT_iret, zT_nret, zT_aret, zT_vret, zT_oi, zT_mm, zT_ialX, zT_S1, zT_S2, zT_S3, zT_V0, zT_V1, zT_V2, zT_V3, zT_V4, zT_V5, zT_V6, zT_I0, zT_I1, zT_I2, zlg, zlset, zlpr, zent, zok, va_rf, List.length_cons, List.length_nil, List.replicate, List.cons_append, List.nil_append, List.append_nil, Option.toList_some, Option.toList_none, Option.toList, Nat.reduceAdd, Nat.reduceSub, Nat.reduceLeDiff, Nat.zero_add, Nat.zero_le, true_and, and_true, Nat.le_refl, ge_iff_le, Nat.reduceEqDiff]
    unfold zc_X7_within
    dsimp only
    simp only [zbI_0, zsh_0, zsh_3, a1, t1, zT_push, zT_bin, zT_div, zT_bil, zT_shl, zT_un, zT_i2l, zT_l2i, zT_lcmp, zT_ild, zT_lld, zT_ald, zT_ist, zT_lst, zT_ast, zT_iinc, zT_dup, zT_dup2, zT_pop, zT_if1, zT_if2, zT_ifn, zT_getI, zT_getJ, zT_getR, zT_putI, zT_putZ, zT_putJ, zT_putR, zT_ald0, zT_lald, zT_aald, zT_iast, zT_zast, zT_bast, zT_last, zT_aast, zT_iret, zT_nret, zT_aret, zT_vret, zT_oi, zT_mm, zT_ialX, zT_S1, zT_S2, zT_S3, zT_V0, zT_V1, zT_V2, zT_V3, zT_V4, zT_V5, zT_V6, zT_I0, zT_I1, zT_I2, zlg, zlset, zlpr, zent, zok, va_rf, List.length_cons, List.length_nil, List.replicate, List.cons_append, List.nil_append, List.append_nil, Option.toList_some, Option.toList_none, Option.toList, Nat.reduceAdd, Nat.reduceSub, Nat.reduceLeDiff, Nat.zero_add, Nat.zero_le, true_and, and_true, Nat.le_refl, ge_iff_le, Nat.reduceEqDiff]
    refine ⟨fun h1 => ?_, fun h1 => ?_⟩
    · have h2 := h M
      unfold pEnd at h2
      rw [if_neg h1] at h2
      exact h2 hF'
    · have c1 := Classical.not_not.mp h1
      obtain ⟨e1, e2⟩ := tn_nI c1.1 c1.2 (by omega)
      have h2 := h (zwI M 3 1 n)
      unfold pEnd at h2
      rw [if_pos c1] at h2
      have hs : zsm [3] M (zwI M 3 1 n) := zsm.rf.w (by simp)
      refine h2 ⟨hxi.mv hs (by simp), hEn.to (fun k a b => hs.at (by simp; omega)), hel, ⟨?_, ?_, fun i b hb => ?_⟩, by rw [hs.at (by simp)]; exact hft, by rw [hs.at (by simp)]; exact hst⟩
      · simp only [zwI_L, zwI_I, zwI_J, zwI_R, zwJ_L, zwJ_I, zwJ_J, zwJ_R, zwR_L, zwR_I, zwR_J, zwR_R, zw2_s, zw2_n, ne_eq, not_false_eq_true, reduceCtorEq, not_true_eq_false, Nat.reduceEqDiff, List.length_take]
        rw [zup_s, Nat.min_eq_left e2]
        exact e1
      · show (F.2.2.1.take (tn n)).length ≤ 300
        rw [List.length_take, Nat.min_eq_left e2]
        omega
      · rw [hs.at (by simp)]
        refine t3 i b ?_
        have hb' : (F.2.2.1.take (tn n))[i]? = some b := hb
        rw [List.getElem?_take] at hb'
        split at hb'
        · exact hb'
        · cases hb'
  · exact h.elim
def pFault (F : wFS) : Int32 × wFS := (F.2.2.2.1, F)
def pStatus (F : wFS) : Int32 × wFS := (F.2.2.2.2, F)
def zc_X7_fault (a : List Value) (M : zMm) (K : zKt) : Prop := match a with
  | [.ref k] => k = 0 ∧ ∃ F pk dk p, zXF M F pk dk p ∧ ∀ M', zXF M' (pFault F).2 pk dk p → K (some (.int (pFault F).1)) M'
  | _ => False
theorem zm_X7_fault (l : Launch) (D : va_G) (Y : Nat → ClassId) : zMt l D Y yX7_fault cX7_fault 1 (some .int) 0 0 0 0 zc_X7_fault := by
  refine zflat (by decide) (fun K J lc lz => zb_X7_fault_0 K J) (fun X hR => zbs_X7_fault_0 hR zJ0 zJ0_ok) (fun avs M K h => ?_)
  unfold zc_X7_fault at h
  split at h
  · obtain ⟨rfl, F, pk, dk, p, hF, h⟩ := h
    refine ⟨by simp [zent], ?_⟩
    simp only [zb_X7_fault_0, zsh_0, zT_push, zT_bin, zT_div, zT_bil, zT_shl, zT_un, zT_i2l, zT_l2i, zT_lcmp, zT_ild, zT_lld, zT_ald, zT_ist, zT_lst, zT_ast, zT_iinc, zT_dup, zT_dup2, zT_pop, zT_if1, zT_if2, zT_ifn, zT_getI, zT_getJ, zT_getR, zT_putI, zT_putZ, zT_putJ, zT_putR, zT_ald0, zT_lald, zT_aald, zT_iast, zT_zast, zT_bast, zT_last, zT_aast, zT_iret, zT_nret, zT_aret, zT_vret, zT_oi, zT_mm, zT_ialX, zT_S1, zT_S2, zT_S3, zT_V0, zT_V1, zT_V2, zT_V3, zT_V4, zT_V5, zT_V6, zT_I0, zT_I1, zT_I2, zlg, zlset, zlpr, zent, zok, va_rf, List.length_cons, List.length_nil, List.replicate, List.cons_append, List.nil_append, List.append_nil, Option.toList_some, Option.toList_none, Option.toList, Nat.reduceAdd, Nat.reduceSub, Nat.reduceLeDiff, Nat.zero_add, Nat.zero_le, true_and, and_true, Nat.le_refl, ge_iff_le, Nat.reduceEqDiff]
    rw [hF.2.2.2.2.1]
    exact h M hF
  · exact h.elim
def zc_X7_status (a : List Value) (M : zMm) (K : zKt) : Prop := match a with
  | [.ref k] => k = 0 ∧ ∃ F pk dk p, zXF M F pk dk p ∧ ∀ M', zXF M' (pStatus F).2 pk dk p → K (some (.int (pStatus F).1)) M'
  | _ => False
theorem zm_X7_status (l : Launch) (D : va_G) (Y : Nat → ClassId) : zMt l D Y yX7_status cX7_status 1 (some .int) 0 0 0 0 zc_X7_status := by
  refine zflat (by decide) (fun K J lc lz => zb_X7_status_0 K J) (fun X hR => zbs_X7_status_0 hR zJ0 zJ0_ok) (fun avs M K h => ?_)
  unfold zc_X7_status at h
  split at h
  · obtain ⟨rfl, F, pk, dk, p, hF, h⟩ := h
    refine ⟨by simp [zent], ?_⟩
    simp only [zb_X7_status_0, zsh_0, zT_push, zT_bin, zT_div, zT_bil, zT_shl, zT_un, zT_i2l, zT_l2i, zT_lcmp, zT_ild, zT_lld, zT_ald, zT_ist, zT_lst, zT_ast, zT_iinc, zT_dup, zT_dup2, zT_pop, zT_if1, zT_if2, zT_ifn, zT_getI, zT_getJ, zT_getR, zT_putI, zT_putZ, zT_putJ, zT_putR, zT_ald0, zT_lald, zT_aald, zT_iast, zT_zast, zT_bast, zT_last, zT_aast, zT_iret, zT_nret, zT_aret, zT_vret, zT_oi, zT_mm, zT_ialX, zT_S1, zT_S2, zT_S3, zT_V0, zT_V1, zT_V2, zT_V3, zT_V4, zT_V5, zT_V6, zT_I0, zT_I1, zT_I2, zlg, zlset, zlpr, zent, zok, va_rf, List.length_cons, List.length_nil, List.replicate, List.cons_append, List.nil_append, List.append_nil, Option.toList_some, Option.toList_none, Option.toList, Nat.reduceAdd, Nat.reduceSub, Nat.reduceLeDiff, Nat.zero_add, Nat.zero_le, true_and, and_true, Nat.le_refl, ge_iff_le, Nat.reduceEqDiff]
    rw [hF.2.2.2.2.2]
    exact h M hF
  · exact h.elim
end
section
/-! DeltaRuns height -/
theorem zd_X7_height_0 : decode cX7_height 0 = .ok (.iload_n 1, 1) := by decide +kernel
theorem zd_X7_height_1 : decode cX7_height 1 = .ok (.iconst 0, 1) := by decide +kernel
theorem zd_X7_height_2 : decode cX7_height 2 = .ok (.bipush 35, 2) := by decide +kernel
theorem zd_X7_height_4 : decode cX7_height 4 = .ok (.invokestatic 60, 3) := by decide +kernel
theorem zd_X7_height_7 : decode cX7_height 7 = .ok (.ifCond .eq 26, 3) := by decide +kernel
theorem zd_X7_height_10 : decode cX7_height 10 = .ok (.iload_n 2, 1) := by decide +kernel
theorem zd_X7_height_11 : decode cX7_height 11 = .ok (.iconst 0, 1) := by decide +kernel
theorem zd_X7_height_12 : decode cX7_height 12 = .ok (.bipush 30, 2) := by decide +kernel
theorem zd_X7_height_14 : decode cX7_height 14 = .ok (.invokestatic 60, 3) := by decide +kernel
theorem zd_X7_height_17 : decode cX7_height 17 = .ok (.ifCond .eq 16, 3) := by decide +kernel
theorem zd_X7_height_20 : decode cX7_height 20 = .ok (.aload_n 0, 1) := by decide +kernel
theorem zd_X7_height_21 : decode cX7_height 21 = .ok (.getfield 10, 3) := by decide +kernel
theorem zd_X7_height_24 : decode cX7_height 24 = .ok (.iload_n 3, 1) := by decide +kernel
theorem zd_X7_height_25 : decode cX7_height 25 = .ok (.iload 4, 2) := by decide +kernel
theorem zd_X7_height_27 : decode cX7_height 27 = .ok (.invokevirtual 81, 3) := by decide +kernel
theorem zd_X7_height_30 : decode cX7_height 30 = .ok (.ifCond .ne 5, 3) := by decide +kernel
theorem zd_X7_height_33 : decode cX7_height 33 = .ok (.iconst (-1), 1) := by decide +kernel
theorem zd_X7_height_34 : decode cX7_height 34 = .ok (.ireturn, 1) := by decide +kernel
theorem zd_X7_height_35 : decode cX7_height 35 = .ok (.aload_n 0, 1) := by decide +kernel
theorem zd_X7_height_36 : decode cX7_height 36 = .ok (.iload_n 1, 1) := by decide +kernel
theorem zd_X7_height_37 : decode cX7_height 37 = .ok (.iload_n 2, 1) := by decide +kernel
theorem zd_X7_height_38 : decode cX7_height 38 = .ok (.invokevirtual 119, 3) := by decide +kernel
theorem zd_X7_height_41 : decode cX7_height 41 = .ok (.iload_n 2, 1) := by decide +kernel
theorem zd_X7_height_42 : decode cX7_height 42 = .ok (.iload_n 3, 1) := by decide +kernel
theorem zd_X7_height_43 : decode cX7_height 43 = .ok (.iload 4, 2) := by decide +kernel
theorem zd_X7_height_45 : decode cX7_height 45 = .ok (.invokestatic 92, 3) := by decide +kernel
theorem zd_X7_height_48 : decode cX7_height 48 = .ok (.invokevirtual 123, 3) := by decide +kernel
theorem zd_X7_height_51 : decode cX7_height 51 = .ok (.ireturn, 1) := by decide +kernel
def zb_X7_height_33 (K : zKt) (J : Nat → zPP) (lc lz : Nat) : zPP := zT_push (.int (-1)) (zT_iret K)
theorem zbs_X7_height_33 {X : zCt} (hR : zRX X = { frames := 5, cells := 2, slots := 467, locals := 119 }) (J : Nat → zPP) (hJ : ∀ h ∈ ([] : List Nat), zSd X RX7 "height" cX7_height 5 (some .int) h (J h)) : zSd X RX7 "height" cX7_height 5 (some .int) 33 (zb_X7_height_33 (zKX X) J (zlc X) (zls X)) := zs_iconst zd_X7_height_33 (by decide) (zs_iret rfl zd_X7_height_34)
def zb_X7_height_0 (K : zKt) (J : Nat → zPP) (lc lz : Nat) : zPP := zT_ild 1 (zT_push (.int 0) (zT_push (.int 35) (zT_S3 zok zc_X7_within (zT_if1 (fun x => x = 0) (zb_X7_height_33 K J lc lz) (zT_ild 2 (zT_push (.int 0) (zT_push (.int 30) (zT_S3 zok zc_X7_within (zT_if1 (fun x => x = 0) (zb_X7_height_33 K J lc lz) (zT_ald 0 (zT_getR 7 0 9 (zT_ild 3 (zT_ild 4 (zT_V2 zok 1 6 zc_X1_has (zT_if1 (fun x => x = 0) (zb_X7_height_33 K J lc lz) (zT_ald 0 (zT_ild 1 (zT_ild 2 (zT_V2 (zlm 2 467 lc lz) 7 9 zc_X7_runTo (zT_ild 2 (zT_ild 3 (zT_ild 4 (zT_S2 zok zc_X7_cellAt (zT_V2 zok 6 2 zc_X6_heightOf (zT_iret K)))))))))))))))))))))))))
theorem zbs_X7_height_0 {X : zCt} (hR : zRX X = { frames := 5, cells := 2, slots := 467, locals := 119 }) (J : Nat → zPP) (hJ : ∀ h ∈ ([] : List Nat), zSd X RX7 "height" cX7_height 5 (some .int) h (J h)) : zSd X RX7 "height" cX7_height 5 (some .int) 0 (zb_X7_height_0 (zKX X) J (zlc X) (zls X)) := zs_iload_n zd_X7_height_0 rfl (zs_iconst zd_X7_height_1 (by decide) (zs_bipush zd_X7_height_2 (by decide) (zs_S (zm_X7_within _ _ _) gw_1_219 gw_1_217 gw_1_218 gw_1_1 zdn_X7_within (zrm hR (by decide) (by decide)) zd_X7_height_4 (zCl_S3 zok_l) (zs_if_eq (tgt := 33) zd_X7_height_7 (by decide) (zbs_X7_height_33 hR J hJ) (zs_iload_n zd_X7_height_10 rfl (zs_iconst zd_X7_height_11 (by decide) (zs_bipush zd_X7_height_12 (by decide) (zs_S (zm_X7_within _ _ _) gw_1_219 gw_1_217 gw_1_218 gw_1_1 zdn_X7_within (zrm hR (by decide) (by decide)) zd_X7_height_14 (zCl_S3 zok_l) (zs_if_eq (tgt := 33) zd_X7_height_17 (by decide) (zbs_X7_height_33 hR J hJ) (zs_aload_n zd_X7_height_20 rfl (zs_getR (ci := 7) (j := 0) (T := TX7) rfl inX7 (by decide) gw_1_185 rfl zd_X7_height_21 (zs_iload_n zd_X7_height_24 rfl (zs_iload zd_X7_height_25 (zs_V (ci := 1) rfl rfl (zm_X1_has _ _ _) gw_2_0 gw_1_237 gw_1_238 gw_1_239 gw_1_2 zdn_X1_has (zrm hR (by decide) (by decide)) zd_X7_height_27 (zCl_V2 zok_l) (zs_if_ne (tgt := 35) zd_X7_height_30 (by decide) (zs_aload_n zd_X7_height_35 rfl (zs_iload_n zd_X7_height_36 rfl (zs_iload_n zd_X7_height_37 rfl (zs_V (ci := 7) rfl rfl (zm_X7_runTo _ _ _) gw_2_160 gw_2_157 gw_2_159 gw_0_9 gw_1_1 zdn_X7_runTo (zrm hR (by decide) (by decide)) zd_X7_height_38 (zCl_V2 zlm_l) (zs_iload_n zd_X7_height_41 rfl (zs_iload_n zd_X7_height_42 rfl (zs_iload zd_X7_height_43 (zs_S (zm_X7_cellAt _ _ _) gw_2_7 gw_2_16 gw_2_6 gw_1_1 zdn_X7_cellAt (zrm hR (by decide) (by decide)) zd_X7_height_45 (zCl_S2 zok_l) (zs_V (ci := 6) rfl rfl (zm_X6_heightOf _ _ _) gw_2_190 gw_2_187 gw_2_188 gw_2_189 gw_1_14 zdn_X6_heightOf (zrm hR (by decide) (by decide)) zd_X7_height_48 (zCl_V2 zok_l) (zs_iret rfl zd_X7_height_51)))))))))) (zbs_X7_height_33 hR J hJ))))))))))))))))
theorem zdn_X7_height : yX7_height.cls ≠ "java/lang/invoke/MethodHandle" ∧ yX7_height.cls ≠ "java/lang/invoke/VarHandle" ∧ (parseMethodDescriptor yX7_height.desc).map (fun d => d.parameters.length) = some 4 := by decide +kernel
/-! DeltaRuns flow -/
theorem zd_X7_flow_0 : decode cX7_flow 0 = .ok (.iload_n 1, 1) := by decide +kernel
theorem zd_X7_flow_1 : decode cX7_flow 1 = .ok (.iconst 0, 1) := by decide +kernel
theorem zd_X7_flow_2 : decode cX7_flow 2 = .ok (.bipush 35, 2) := by decide +kernel
theorem zd_X7_flow_4 : decode cX7_flow 4 = .ok (.invokestatic 60, 3) := by decide +kernel
theorem zd_X7_flow_7 : decode cX7_flow 7 = .ok (.ifCond .eq 26, 3) := by decide +kernel
theorem zd_X7_flow_10 : decode cX7_flow 10 = .ok (.iload_n 2, 1) := by decide +kernel
theorem zd_X7_flow_11 : decode cX7_flow 11 = .ok (.iconst 1, 1) := by decide +kernel
theorem zd_X7_flow_12 : decode cX7_flow 12 = .ok (.bipush 30, 2) := by decide +kernel
theorem zd_X7_flow_14 : decode cX7_flow 14 = .ok (.invokestatic 60, 3) := by decide +kernel
theorem zd_X7_flow_17 : decode cX7_flow 17 = .ok (.ifCond .eq 16, 3) := by decide +kernel
theorem zd_X7_flow_20 : decode cX7_flow 20 = .ok (.aload_n 0, 1) := by decide +kernel
theorem zd_X7_flow_21 : decode cX7_flow 21 = .ok (.getfield 10, 3) := by decide +kernel
theorem zd_X7_flow_24 : decode cX7_flow 24 = .ok (.iload_n 3, 1) := by decide +kernel
theorem zd_X7_flow_25 : decode cX7_flow 25 = .ok (.iload 4, 2) := by decide +kernel
theorem zd_X7_flow_27 : decode cX7_flow 27 = .ok (.invokevirtual 81, 3) := by decide +kernel
theorem zd_X7_flow_30 : decode cX7_flow 30 = .ok (.ifCond .ne 5, 3) := by decide +kernel
theorem zd_X7_flow_33 : decode cX7_flow 33 = .ok (.iconst (-1), 1) := by decide +kernel
theorem zd_X7_flow_34 : decode cX7_flow 34 = .ok (.ireturn, 1) := by decide +kernel
theorem zd_X7_flow_35 : decode cX7_flow 35 = .ok (.aload_n 0, 1) := by decide +kernel
theorem zd_X7_flow_36 : decode cX7_flow 36 = .ok (.iload_n 1, 1) := by decide +kernel
theorem zd_X7_flow_37 : decode cX7_flow 37 = .ok (.iload_n 2, 1) := by decide +kernel
theorem zd_X7_flow_38 : decode cX7_flow 38 = .ok (.iconst 1, 1) := by decide +kernel
theorem zd_X7_flow_39 : decode cX7_flow 39 = .ok (.isub, 1) := by decide +kernel
theorem zd_X7_flow_40 : decode cX7_flow 40 = .ok (.invokevirtual 119, 3) := by decide +kernel
theorem zd_X7_flow_43 : decode cX7_flow 43 = .ok (.astore 5, 2) := by decide +kernel
theorem zd_X7_flow_45 : decode cX7_flow 45 = .ok (.aload_n 0, 1) := by decide +kernel
theorem zd_X7_flow_46 : decode cX7_flow 46 = .ok (.aload 5, 2) := by decide +kernel
theorem zd_X7_flow_48 : decode cX7_flow 48 = .ok (.iload_n 2, 1) := by decide +kernel
theorem zd_X7_flow_49 : decode cX7_flow 49 = .ok (.iconst 1, 1) := by decide +kernel
theorem zd_X7_flow_50 : decode cX7_flow 50 = .ok (.isub, 1) := by decide +kernel
theorem zd_X7_flow_51 : decode cX7_flow 51 = .ok (.invokevirtual 126, 3) := by decide +kernel
theorem zd_X7_flow_54 : decode cX7_flow 54 = .ok (.aload_n 0, 1) := by decide +kernel
theorem zd_X7_flow_55 : decode cX7_flow 55 = .ok (.getfield 46, 3) := by decide +kernel
theorem zd_X7_flow_58 : decode cX7_flow 58 = .ok (.iload_n 2, 1) := by decide +kernel
theorem zd_X7_flow_59 : decode cX7_flow 59 = .ok (.aload_n 0, 1) := by decide +kernel
theorem zd_X7_flow_60 : decode cX7_flow 60 = .ok (.getfield 10, 3) := by decide +kernel
theorem zd_X7_flow_63 : decode cX7_flow 63 = .ok (.aload_n 0, 1) := by decide +kernel
theorem zd_X7_flow_64 : decode cX7_flow 64 = .ok (.getfield 33, 3) := by decide +kernel
theorem zd_X7_flow_67 : decode cX7_flow 67 = .ok (.invokevirtual 130, 3) := by decide +kernel
theorem zd_X7_flow_70 : decode cX7_flow 70 = .ok (.aload_n 0, 1) := by decide +kernel
theorem zd_X7_flow_71 : decode cX7_flow 71 = .ok (.getfield 33, 3) := by decide +kernel
theorem zd_X7_flow_74 : decode cX7_flow 74 = .ok (.aload_n 0, 1) := by decide +kernel
theorem zd_X7_flow_75 : decode cX7_flow 75 = .ok (.getfield 10, 3) := by decide +kernel
theorem zd_X7_flow_78 : decode cX7_flow 78 = .ok (.iload_n 1, 1) := by decide +kernel
theorem zd_X7_flow_79 : decode cX7_flow 79 = .ok (.invokestatic 134, 3) := by decide +kernel
theorem zd_X7_flow_82 : decode cX7_flow 82 = .ok (.invokevirtual 137, 3) := by decide +kernel
theorem zd_X7_flow_85 : decode cX7_flow 85 = .ok (.aload_n 0, 1) := by decide +kernel
theorem zd_X7_flow_86 : decode cX7_flow 86 = .ok (.getfield 33, 3) := by decide +kernel
theorem zd_X7_flow_89 : decode cX7_flow 89 = .ok (.getfield 141, 3) := by decide +kernel
theorem zd_X7_flow_92 : decode cX7_flow 92 = .ok (.iload_n 3, 1) := by decide +kernel
theorem zd_X7_flow_93 : decode cX7_flow 93 = .ok (.iload 4, 2) := by decide +kernel
theorem zd_X7_flow_95 : decode cX7_flow 95 = .ok (.invokestatic 92, 3) := by decide +kernel
theorem zd_X7_flow_98 : decode cX7_flow 98 = .ok (.iaload, 1) := by decide +kernel
theorem zd_X7_flow_99 : decode cX7_flow 99 = .ok (.ireturn, 1) := by decide +kernel
def zb_X7_flow_33 (K : zKt) (J : Nat → zPP) (lc lz : Nat) : zPP := zT_push (.int (-1)) (zT_iret K)
theorem zbs_X7_flow_33 {X : zCt} (hR : zRX X = { frames := 5, cells := 2, slots := 467, locals := 119 }) (J : Nat → zPP) (hJ : ∀ h ∈ ([] : List Nat), zSd X RX7 "flow" cX7_flow 6 (some .int) h (J h)) : zSd X RX7 "flow" cX7_flow 6 (some .int) 33 (zb_X7_flow_33 (zKX X) J (zlc X) (zls X)) := zs_iconst zd_X7_flow_33 (by decide) (zs_iret rfl zd_X7_flow_34)
def zb_X7_flow_0 (K : zKt) (J : Nat → zPP) (lc lz : Nat) : zPP := zT_ild 1 (zT_push (.int 0) (zT_push (.int 35) (zT_S3 zok zc_X7_within (zT_if1 (fun x => x = 0) (zb_X7_flow_33 K J lc lz) (zT_ild 2 (zT_push (.int 1) (zT_push (.int 30) (zT_S3 zok zc_X7_within (zT_if1 (fun x => x = 0) (zb_X7_flow_33 K J lc lz) (zT_ald 0 (zT_getR 7 0 9 (zT_ild 3 (zT_ild 4 (zT_V2 zok 1 6 zc_X1_has (zT_if1 (fun x => x = 0) (zb_X7_flow_33 K J lc lz) (zT_ald 0 (zT_ild 1 (zT_ild 2 (zT_push (.int 1) (zT_bin (fun x y => x - y) (zT_V2 (zlm 2 467 lc lz) 7 9 zc_X7_runTo (zT_ast 5 (zT_ald 0 (zT_ald 5 (zT_ild 2 (zT_push (.int 1) (zT_bin (fun x y => x - y) (zT_V2 zok 7 9 zc_X7_takeUp (zT_ald 0 (zT_getR 7 5 9 (zT_ild 2 (zT_ald 0 (zT_getR 7 0 9 (zT_ald 0 (zT_getR 7 3 9 (zT_V3 zok 2 6 zc_X2_workIn (zT_ald 0 (zT_getR 7 3 9 (zT_ald 0 (zT_getR 7 0 9 (zT_ild 1 (zT_S1 zok zc_X7_sortOf (zT_V2 zok 5 11 zc_X5_run (zT_ald 0 (zT_getR 7 3 9 (zT_getR 5 2 11 (zT_ild 3 (zT_ild 4 (zT_S2 zok zc_X7_cellAt (zT_ald0 0 (zT_iret K)))))))))))))))))))))))))))))))))))))))))))))))))))
theorem zbs_X7_flow_0 {X : zCt} (hR : zRX X = { frames := 5, cells := 2, slots := 467, locals := 119 }) (J : Nat → zPP) (hJ : ∀ h ∈ ([] : List Nat), zSd X RX7 "flow" cX7_flow 6 (some .int) h (J h)) : zSd X RX7 "flow" cX7_flow 6 (some .int) 0 (zb_X7_flow_0 (zKX X) J (zlc X) (zls X)) := zs_iload_n zd_X7_flow_0 rfl (zs_iconst zd_X7_flow_1 (by decide) (zs_bipush zd_X7_flow_2 (by decide) (zs_S (zm_X7_within _ _ _) gw_1_219 gw_1_217 gw_1_218 gw_1_1 zdn_X7_within (zrm hR (by decide) (by decide)) zd_X7_flow_4 (zCl_S3 zok_l) (zs_if_eq (tgt := 33) zd_X7_flow_7 (by decide) (zbs_X7_flow_33 hR J hJ) (zs_iload_n zd_X7_flow_10 rfl (zs_iconst zd_X7_flow_11 (by decide) (zs_bipush zd_X7_flow_12 (by decide) (zs_S (zm_X7_within _ _ _) gw_1_219 gw_1_217 gw_1_218 gw_1_1 zdn_X7_within (zrm hR (by decide) (by decide)) zd_X7_flow_14 (zCl_S3 zok_l) (zs_if_eq (tgt := 33) zd_X7_flow_17 (by decide) (zbs_X7_flow_33 hR J hJ) (zs_aload_n zd_X7_flow_20 rfl (zs_getR (ci := 7) (j := 0) (T := TX7) rfl inX7 (by decide) gw_1_185 rfl zd_X7_flow_21 (zs_iload_n zd_X7_flow_24 rfl (zs_iload zd_X7_flow_25 (zs_V (ci := 1) rfl rfl (zm_X1_has _ _ _) gw_2_0 gw_1_237 gw_1_238 gw_1_239 gw_1_2 zdn_X1_has (zrm hR (by decide) (by decide)) zd_X7_flow_27 (zCl_V2 zok_l) (zs_if_ne (tgt := 35) zd_X7_flow_30 (by decide) (zs_aload_n zd_X7_flow_35 rfl (zs_iload_n zd_X7_flow_36 rfl (zs_iload_n zd_X7_flow_37 rfl (zs_iconst zd_X7_flow_38 (by decide) (zs_isub zd_X7_flow_39 (zs_V (ci := 7) rfl rfl (zm_X7_runTo _ _ _) gw_2_160 gw_2_157 gw_2_159 gw_0_9 gw_1_1 zdn_X7_runTo (zrm hR (by decide) (by decide)) zd_X7_flow_40 (zCl_V2 zlm_l) (zs_astore zd_X7_flow_43 (by decide) (zs_aload_n zd_X7_flow_45 rfl (zs_aload zd_X7_flow_46 (zs_iload_n zd_X7_flow_48 rfl (zs_iconst zd_X7_flow_49 (by decide) (zs_isub zd_X7_flow_50 (zs_V (ci := 7) rfl rfl (zm_X7_takeUp _ _ _) gw_2_186 gw_2_183 gw_2_185 gw_0_11 gw_1_1 zdn_X7_takeUp (zrm hR (by decide) (by decide)) zd_X7_flow_51 (zCl_V2 zok_l) (zs_aload_n zd_X7_flow_54 rfl (zs_getR (ci := 7) (j := 5) (T := TX7) rfl inX7 (by decide) gw_1_190 rfl zd_X7_flow_55 (zs_iload_n zd_X7_flow_58 rfl (zs_aload_n zd_X7_flow_59 rfl (zs_getR (ci := 7) (j := 0) (T := TX7) rfl inX7 (by decide) gw_1_185 rfl zd_X7_flow_60 (zs_aload_n zd_X7_flow_63 rfl (zs_getR (ci := 7) (j := 3) (T := TX7) rfl inX7 (by decide) gw_1_188 rfl zd_X7_flow_64 (zs_V (ci := 2) rfl rfl (zm_X2_workIn _ _ _) gw_2_200 gw_2_197 gw_2_198 gw_2_199 gw_1_6 zdn_X2_workIn (zrm hR (by decide) (by decide)) zd_X7_flow_67 (zCl_V3 zok_l) (zs_aload_n zd_X7_flow_70 rfl (zs_getR (ci := 7) (j := 3) (T := TX7) rfl inX7 (by decide) gw_1_188 rfl zd_X7_flow_71 (zs_aload_n zd_X7_flow_74 rfl (zs_getR (ci := 7) (j := 0) (T := TX7) rfl inX7 (by decide) gw_1_185 rfl zd_X7_flow_75 (zs_iload_n zd_X7_flow_78 rfl (zs_S (zm_X7_sortOf _ _ _) gw_2_208 gw_2_206 gw_2_207 gw_1_1 zdn_X7_sortOf (zrm hR (by decide) (by decide)) zd_X7_flow_79 (zCl_S1 zok_l) (zs_V (ci := 5) rfl rfl (zm_X5_run _ _ _) gw_2_212 gw_2_209 gw_2_210 gw_2_211 gw_1_5 zdn_X5_run (zrm hR (by decide) (by decide)) zd_X7_flow_82 (zCl_V2 zok_l) (zs_aload_n zd_X7_flow_85 rfl (zs_getR (ci := 7) (j := 3) (T := TX7) rfl inX7 (by decide) gw_1_188 rfl zd_X7_flow_86 (zs_getR (ci := 5) (j := 2) (T := TX5) rfl inX5 (by decide) gw_1_118 rfl zd_X7_flow_89 (zs_iload_n zd_X7_flow_92 rfl (zs_iload zd_X7_flow_93 (zs_S (zm_X7_cellAt _ _ _) gw_2_7 gw_2_16 gw_2_6 gw_1_1 zdn_X7_cellAt (zrm hR (by decide) (by decide)) zd_X7_flow_95 (zCl_S2 zok_l) (zs_iald zd_X7_flow_98 (zs_iret rfl zd_X7_flow_99)))))))))))))))))))))))))))))))))))) (zbs_X7_flow_33 hR J hJ))))))))))))))))
theorem zdn_X7_flow : yX7_flow.cls ≠ "java/lang/invoke/MethodHandle" ∧ yX7_flow.cls ≠ "java/lang/invoke/VarHandle" ∧ (parseMethodDescriptor yX7_flow.desc).map (fun d => d.parameters.length) = some 4 := by decide +kernel
/-! DeltaRuns against -/
theorem zd_X7_against_0 : decode cX7_against 0 = .ok (.iload_n 1, 1) := by decide +kernel
theorem zd_X7_against_1 : decode cX7_against 1 = .ok (.iconst 0, 1) := by decide +kernel
theorem zd_X7_against_2 : decode cX7_against 2 = .ok (.bipush 35, 2) := by decide +kernel
theorem zd_X7_against_4 : decode cX7_against 4 = .ok (.invokestatic 60, 3) := by decide +kernel
theorem zd_X7_against_7 : decode cX7_against 7 = .ok (.ifCond .eq 10, 3) := by decide +kernel
theorem zd_X7_against_10 : decode cX7_against 10 = .ok (.iload_n 2, 1) := by decide +kernel
theorem zd_X7_against_11 : decode cX7_against 11 = .ok (.invokestatic 151, 3) := by decide +kernel
theorem zd_X7_against_14 : decode cX7_against 14 = .ok (.ifCond .ne 5, 3) := by decide +kernel
theorem zd_X7_against_17 : decode cX7_against 17 = .ok (.iconst (-1), 1) := by decide +kernel
theorem zd_X7_against_18 : decode cX7_against 18 = .ok (.ireturn, 1) := by decide +kernel
theorem zd_X7_against_19 : decode cX7_against 19 = .ok (.aload_n 0, 1) := by decide +kernel
theorem zd_X7_against_20 : decode cX7_against 20 = .ok (.iconst 0, 1) := by decide +kernel
theorem zd_X7_against_21 : decode cX7_against 21 = .ok (.iload_n 1, 1) := by decide +kernel
theorem zd_X7_against_22 : decode cX7_against 22 = .ok (.iload_n 2, 1) := by decide +kernel
theorem zd_X7_against_23 : decode cX7_against 23 = .ok (.invokevirtual 159, 3) := by decide +kernel
theorem zd_X7_against_26 : decode cX7_against 26 = .ok (.ireturn, 1) := by decide +kernel
def zb_X7_against_17 (K : zKt) (J : Nat → zPP) (lc lz : Nat) : zPP := zT_push (.int (-1)) (zT_iret K)
theorem zbs_X7_against_17 {X : zCt} (hR : zRX X = { frames := 6, cells := 4, slots := 934, locals := 144 }) (J : Nat → zPP) (hJ : ∀ h ∈ ([] : List Nat), zSd X RX7 "against" cX7_against 3 (some .int) h (J h)) : zSd X RX7 "against" cX7_against 3 (some .int) 17 (zb_X7_against_17 (zKX X) J (zlc X) (zls X)) := zs_iconst zd_X7_against_17 (by decide) (zs_iret rfl zd_X7_against_18)
def zb_X7_against_0 (K : zKt) (J : Nat → zPP) (lc lz : Nat) : zPP := zT_ild 1 (zT_push (.int 0) (zT_push (.int 35) (zT_S3 zok zc_X7_within (zT_if1 (fun x => x = 0) (zb_X7_against_17 K J lc lz) (zT_ild 2 (zT_S1 zok zc_X7_isDay (zT_if1 (fun x => x = 0) (zb_X7_against_17 K J lc lz) (zT_ald 0 (zT_push (.int 0) (zT_ild 1 (zT_ild 2 (zT_V3 (zlm 4 934 lc lz) 7 9 zc_X7_againstFrom (zT_iret K)))))))))))))
theorem zbs_X7_against_0 {X : zCt} (hR : zRX X = { frames := 6, cells := 4, slots := 934, locals := 144 }) (J : Nat → zPP) (hJ : ∀ h ∈ ([] : List Nat), zSd X RX7 "against" cX7_against 3 (some .int) h (J h)) : zSd X RX7 "against" cX7_against 3 (some .int) 0 (zb_X7_against_0 (zKX X) J (zlc X) (zls X)) := zs_iload_n zd_X7_against_0 rfl (zs_iconst zd_X7_against_1 (by decide) (zs_bipush zd_X7_against_2 (by decide) (zs_S (zm_X7_within _ _ _) gw_1_219 gw_1_217 gw_1_218 gw_1_1 zdn_X7_within (zrm hR (by decide) (by decide)) zd_X7_against_4 (zCl_S3 zok_l) (zs_if_eq (tgt := 17) zd_X7_against_7 (by decide) (zbs_X7_against_17 hR J hJ) (zs_iload_n zd_X7_against_10 rfl (zs_S (zm_X7_isDay _ _ _) gw_3_41 gw_3_39 gw_3_40 gw_1_1 zdn_X7_isDay (zrm hR (by decide) (by decide)) zd_X7_against_11 (zCl_S1 zok_l) (zs_if_ne (tgt := 19) zd_X7_against_14 (by decide) (zs_aload_n zd_X7_against_19 rfl (zs_iconst zd_X7_against_20 (by decide) (zs_iload_n zd_X7_against_21 rfl (zs_iload_n zd_X7_against_22 rfl (zs_V (ci := 7) rfl rfl (zm_X7_againstFrom _ _ _) gw_3_53 gw_3_50 gw_3_52 gw_0_21 gw_1_1 zdn_X7_againstFrom (zrm hR (by decide) (by decide)) zd_X7_against_23 (zCl_V3 zlm_l) (zs_iret rfl zd_X7_against_26)))))) (zbs_X7_against_17 hR J hJ))))))))
theorem zdn_X7_against : yX7_against.cls ≠ "java/lang/invoke/MethodHandle" ∧ yX7_against.cls ≠ "java/lang/invoke/VarHandle" ∧ (parseMethodDescriptor yX7_against.desc).map (fun d => d.parameters.length) = some 2 := by decide +kernel
theorem zXF.run {M M' : zMm} {F : wFS} {pk dk p r : Nat} (h : zXF M F pk dk p) (hn : zrn M M' r) (hx : zXI M' F.1 pk dk p) : zXF M' F pk dk p := by
  obtain ⟨h1, h2, h3, h4, h5, h6⟩ := h
  exact ⟨hx, h2.to (fun k a b => hn.row (by omega)), h3, h4.to (fun k a b => hn.row (by omega)), by rw [hn.row (by omega)]; exact h5, by rw [hn.row (by omega)]; exact h6⟩
theorem zXI.wat {M M' : zMm} {σ : wSP} {pk dk p : Nat} {ks : List Nat} (h : zXI M σ pk dk p) (hs : zsm ks M M') (hk : ∀ k ∈ ks, 10 ≤ k ∧ k < 20) (hw : ∃ S : wST, zwt M' S.1 S.2 ∧ wwf S) : zXI M' σ pk dk p := by
  obtain ⟨h1, h2, h3, h4, h5, h6, h7, h8, h9, -, h11, h12⟩ := h
  have e : ∀ {k : Nat}, (k < 10 ∨ 20 ≤ k) → M'.2.1 k = M.2.1 k := fun hk' => hs.2.2 _ (fun z => by have := hk _ z; omega)
  refine ⟨h1.to hs.R, h2, by rw [e (by omega)]; exact h3, by rw [e (by omega)]; exact h4, by rw [e (by omega)]; exact h5, by rw [e (by omega)]; exact h6, by rw [e (by omega)]; exact h7, by rw [e (by omega)]; exact h8, h9.to hs (fun k hk' => by have := hk k hk'; omega), hw, fun r hr => ?_, ?_⟩
  · unfold zys
    rw [hs.R, hs.1, hs.J, e (k := zyi r) (by unfold zyi; omega)]
    exact h11 r hr
  · unfold zLL zlv
    rw [hs.R, hs.1]
    exact h12
theorem zXF.wat {M M' : zMm} {F : wFS} {pk dk p : Nat} {ks : List Nat} (h : zXF M F pk dk p) (hs : zsm ks M M') (hk : ∀ k ∈ ks, 10 ≤ k ∧ k < 20) (hw : ∃ S : wST, zwt M' S.1 S.2 ∧ wwf S) : zXF M' F pk dk p := by
  obtain ⟨h1, h2, h3, h4, h5, h6⟩ := h
  have e : ∀ {k : Nat}, (k < 10 ∨ 20 ≤ k) → M'.2.1 k = M.2.1 k := fun hk' => hs.2.2 _ (fun z => by have := hk _ z; omega)
  exact ⟨h1.wat hs hk hw, h2.to (fun k a b => e (by omega)), h3, h4.to (fun k a b => e (by omega)), by rw [e (by omega)]; exact h5, by rw [e (by omega)]; exact h6⟩
/-! map -/
def pday (d : Int32) : Prop := 0 ≤ d ∧ d ≤ 1000
def pMap (yr x y g d : Int32) (F : wFS) : Int32 × wFS :=
  if (0 ≤ yr ∧ yr ≤ 30) ∧ (0 ≤ g ∧ g ≤ 200) ∧ 0 ≤ d ∧ d ≤ 1000 then
    (if pclD F.1 x y = true then (if F.2.1.length < 200 then (nI (F.2.1.length + 1), (F.1, F.2.1 ++ [(tn yr, tn y * 12 + tn x, tn g, tn d)], F.2.2.1, F.2.2.2.1, 0)) else fRef F (-5)) else fRef F (-2)) else fRef F (-1)
def zc_X0_add (a : List Value) (M : zMm) (K : zKt) : Prop := match a with
  | [.ref k, .int x1, .int y1, .int u1, .int v1] => k = 5 ∧ (M.2.2.2 5 0 = some 6 ∧ M.2.2.2 5 1 = some 7 ∧ M.2.2.2 5 2 = some 8 ∧ M.2.2.2 5 3 = some 9) ∧ ∃ es e, zEn M es ∧ es.length < 200 ∧ weok e ∧ x1 = nI (wey e) ∧ y1 = nI (wec e) ∧ u1 = nI (weh e) ∧ v1 = nI (wed e) ∧ ∀ M', zsm [5, 6, 7, 8, 9] M M' → zEn M' (es ++ [e]) → K none M'
  | _ => False
theorem zm_X0_add (l : Launch) (D : va_G) (Y : Nat → ClassId) : zMt l D Y yX0_add cX0_add 5 none 0 0 0 0 zc_X0_add := by
  refine zflat (by decide) (fun K J lc lz => zb_X0_add_0 K J) (fun X hR => zbs_X0_add_0 hR zJ0 zJ0_ok) (fun avs M K h => ?_)
  unfold zc_X0_add at h
  split at h
  · obtain ⟨rfl, ⟨a0, a1, a2, a3⟩, es, e, hEn, hlt, hok, rfl, rfl, rfl, rfl, h⟩ := h
    obtain ⟨e1, e2, e3⟩ := hEn
    refine ⟨by simp [zent], ?_⟩
    simp only [zb_X0_add_0, zsh_5, zsh_6, zsh_7, zsh_8, zsh_9, a0, a1, a2, a3, e1, zwI_R, zwI_I, zw2_n (show (5 : Nat) ≠ 6 by decide), zw2_n (show (5 : Nat) ≠ 7 by decide), zw2_n (show (5 : Nat) ≠ 8 by decide), zw2_n (show (5 : Nat) ≠ 9 by decide), zT_push, zT_bin, zT_div, zT_bil, zT_shl, zT_un, zT_i2l, zT_l2i, zT_lcmp, zT_ild, zT_lld, zT_ald, zT_ist, zT_lst, zT_ast, zT_iinc, zT_dup, zT_dup2, zT_pop, zT_if1, zT_if2, zT_ifn, zT_getI, zT_getJ, zT_getR, zT_putI, zT_putZ, zT_putJ, zT_putR, zT_ald0, zT_lald, zT_aald, zT_iast, zT_zast, zT_bast, zT_last, zT_aast, zT_iret, zT_nret, zT_aret, zT_vret, zT_oi, zT_mm, zT_ialX, zT_S1, zT_S2, zT_S3, zT_V0, zT_V1, zT_V2, zT_V3, zT_V4, zT_V5, zT_V6, zT_I0, zT_I1, zT_I2, zlg, zlset, zlpr, zent, zok, va_rf, List.length_cons, List.length_nil, List.replicate, List.cons_append, List.nil_append, List.append_nil, Option.toList_some, Option.toList_none, Option.toList, Nat.reduceAdd, Nat.reduceSub, Nat.reduceLeDiff, Nat.zero_add, Nat.zero_le, true_and, and_true, Nat.le_refl, ge_iff_le, Nat.reduceEqDiff]
    have hin : vp_in (nI es.length) 200 := vp_in_nI hlt (by decide)
    refine ⟨fun h1 => absurd (zn_ge' (b := 200) h1 (by omega) (by decide)) (by omega), fun _ => ⟨hin, hin, hin, hin, ?_⟩⟩
    simp only [zb_X0_add_61, zT_push, zT_bin, zT_div, zT_bil, zT_shl, zT_un, zT_i2l, zT_l2i, zT_lcmp, zT_ild, zT_lld, zT_ald, zT_ist, zT_lst, zT_ast, zT_iinc, zT_dup, zT_dup2, zT_pop, zT_if1, zT_if2, zT_ifn, zT_getI, zT_getJ, zT_getR, zT_putI, zT_putZ, zT_putJ, zT_putR, zT_ald0, zT_lald, zT_aald, zT_iast, zT_zast, zT_bast, zT_last, zT_aast, zT_iret, zT_nret, zT_aret, zT_vret, zT_oi, zT_mm, zT_ialX, zT_S1, zT_S2, zT_S3, zT_V0, zT_V1, zT_V2, zT_V3, zT_V4, zT_V5, zT_V6, zT_I0, zT_I1, zT_I2, zlg, zlset, zlpr, zent, zok, va_rf, List.length_cons, List.length_nil, List.replicate, List.cons_append, List.nil_append, List.append_nil, Option.toList_some, Option.toList_none, Option.toList, Nat.reduceAdd, Nat.reduceSub, Nat.reduceLeDiff, Nat.zero_add, Nat.zero_le, true_and, and_true, Nat.le_refl, ge_iff_le, Nat.reduceEqDiff]
    rw [nI_clamp (by omega)]
    refine h _ (((((zsm.rf.w (by simp)).w (by simp)).w (by simp)).w (by simp)).w (by simp)) ⟨?_, ?_, fun i e' hi => ?_⟩
    · simp only [zwI_L, zwI_I, zwI_J, zwI_R, zwJ_L, zwJ_I, zwJ_J, zwJ_R, zwR_L, zwR_I, zwR_J, zwR_R, zw2_s, zw2_n, ne_eq, not_false_eq_true, reduceCtorEq, not_true_eq_false, Nat.reduceEqDiff, List.length_append, List.length_singleton]
      rw [zup_s, nI_1]
    · rw [List.length_append, List.length_singleton]; omega
    · simp only [zwI_L, zwI_I, zwI_J, zwI_R, zwJ_L, zwJ_I, zwJ_J, zwJ_R, zwR_L, zwR_I, zwR_J, zwR_R, zw2_s, zw2_n, ne_eq, not_false_eq_true, reduceCtorEq, not_true_eq_false, Nat.reduceEqDiff]
      by_cases q : i < es.length
      · rw [List.getElem?_append_left q] at hi
        obtain ⟨f1, f2, f3, f4, f5⟩ := e3 i e' hi
        have ne : i ≠ es.length := by omega
        refine ⟨f1, ?_, ?_, ?_, ?_⟩
        · simp only [zw2_s, zw2_n (show (6 : Nat) ≠ 5 by decide), zw2_n (show (6 : Nat) ≠ 7 by decide), zw2_n (show (6 : Nat) ≠ 8 by decide), zw2_n (show (6 : Nat) ≠ 9 by decide), zup_n ne]; exact f2
        · simp only [zw2_s, zw2_n (show (7 : Nat) ≠ 5 by decide), zw2_n (show (7 : Nat) ≠ 6 by decide), zw2_n (show (7 : Nat) ≠ 8 by decide), zw2_n (show (7 : Nat) ≠ 9 by decide), zup_n ne]; exact f3
        · simp only [zw2_s, zw2_n (show (8 : Nat) ≠ 5 by decide), zw2_n (show (8 : Nat) ≠ 6 by decide), zw2_n (show (8 : Nat) ≠ 7 by decide), zw2_n (show (8 : Nat) ≠ 9 by decide), zup_n ne]; exact f4
        · simp only [zw2_s, zw2_n (show (9 : Nat) ≠ 5 by decide), zw2_n (show (9 : Nat) ≠ 6 by decide), zw2_n (show (9 : Nat) ≠ 7 by decide), zw2_n (show (9 : Nat) ≠ 8 by decide), zup_n ne]; exact f5
      · rw [List.getElem?_append_right (by omega)] at hi
        have q2 : i = es.length := by
          rcases Nat.lt_or_ge (i - es.length) 1 with z | z
          · omega
          · rw [List.getElem?_eq_none (by simpa using z)] at hi; cases hi
        subst q2
        simp at hi
        subst hi
        refine ⟨hok, ?_, ?_, ?_, ?_⟩
        · simp only [zw2_s, zw2_n (show (6 : Nat) ≠ 5 by decide), zw2_n (show (6 : Nat) ≠ 7 by decide), zw2_n (show (6 : Nat) ≠ 8 by decide), zw2_n (show (6 : Nat) ≠ 9 by decide), zup_s]
        · simp only [zw2_s, zw2_n (show (7 : Nat) ≠ 5 by decide), zw2_n (show (7 : Nat) ≠ 6 by decide), zw2_n (show (7 : Nat) ≠ 8 by decide), zw2_n (show (7 : Nat) ≠ 9 by decide), zup_s]
        · simp only [zw2_s, zw2_n (show (8 : Nat) ≠ 5 by decide), zw2_n (show (8 : Nat) ≠ 6 by decide), zw2_n (show (8 : Nat) ≠ 7 by decide), zw2_n (show (8 : Nat) ≠ 9 by decide), zup_s]
        · simp only [zw2_s, zw2_n (show (9 : Nat) ≠ 5 by decide), zw2_n (show (9 : Nat) ≠ 6 by decide), zw2_n (show (9 : Nat) ≠ 7 by decide), zw2_n (show (9 : Nat) ≠ 8 by decide), zup_s]
  · exact h.elim
/-! asking -/
def pHeight (r yr x y : Int32) (F : wFS) : Int32 × wFS :=
  if (0 ≤ r ∧ r ≤ 35) ∧ (0 ≤ yr ∧ yr ≤ 30) ∧ pclD F.1 x y = true then (nI (wHT F.1 (tn r) (tn yr) (tn y * 12 + tn x)), F) else (-1, F)
def pFlow (r yr x y : Int32) (F : wFS) : Int32 × wFS :=
  if (0 ≤ r ∧ r ≤ 35) ∧ (1 ≤ yr ∧ yr ≤ 30) ∧ pclD F.1 x y = true then (nI (wGT F.1 (tn r) (tn yr - 1) (tn y * 12 + tn x)), F) else (-1, F)
def pAgainst (r d : Int32) (F : wFS) : Int32 × wFS :=
  if (0 ≤ r ∧ r ≤ 35) ∧ 0 ≤ d ∧ d ≤ 1000 then (woi (wAG F.1 F.2.1 (tn r) (tn d) 0), F) else (-1, F)
def zc_X7_height (a : List Value) (M : zMm) (K : zKt) : Prop := match a with
  | [.ref k, .int r, .int yr, .int x, .int y] => k = 0 ∧ ∃ F pk dk p, zXF M F pk dk p ∧ ∀ M', zXF M' (pHeight r yr x y F).2 pk dk p → K (some (.int (pHeight r yr x y F).1)) M'
  | _ => False
set_option maxHeartbeats 1000000 in
theorem zm_X7_height (l : Launch) (D : va_G) (Y : Nat → ClassId) : zMt l D Y yX7_height cX7_height 5 (some .int) 5 119 2 467 zc_X7_height := by
  refine zflat (by decide) (fun K J lc lz => zb_X7_height_0 K J lc lz) (fun X hR => zbs_X7_height_0 hR zJ0 zJ0_ok) (fun avs M K h => ?_)
  unfold zc_X7_height at h
  split at h
  · next k r yr x y =>
    obtain ⟨rfl, F, pk, dk, p, hF, h⟩ := h
    have hxi := hF.1
    obtain ⟨a0, -⟩ := id hxi.1
    obtain ⟨-, ok, w1, w2, -⟩ := id hxi
    refine ⟨by simp [zent], ?_⟩
    have bad : ¬ ((0 ≤ r ∧ r ≤ 35) ∧ (0 ≤ yr ∧ yr ≤ 30) ∧ pclD F.1 x y = true) → K (some (.int (-1))) M := by
      intro hb
      have h2 := h M
      unfold pHeight at h2
      rw [if_neg hb] at h2
      exact h2 hF
    simp only [zb_X7_height_0, zb_X7_height_33, zT_push, zT_bin, zT_div, zT_bil, zT_shl, zT_un, zT_i2l, zT_l2i, zT_lcmp, zT_ild, zT_lld, zT_ald, zT_ist, zT_lst, zT_ast, zT_iinc, zT_dup, zT_dup2, zT_pop, zT_if1, zT_if2, zT_ifn, zT_getI, zT_getJ, zT_getR, zT_putI, zT_putZ, zT_putJ, zT_putR, zT_ald0, zT_lald, zT_aald, zT_iast, zT_zast, zT_bast, zT_last, zT_aast, zT_iret, zT_nret, zT_aret, zT_vret, zT_oi, zT_mm, zT_ialX, zT_S1, zT_S2, zT_S3, zT_V0, zT_V1, zT_V2, zT_V3, zT_V4, zT_V5, zT_V6, zT_I0, zT_I1, zT_I2, zlg, zlset, zlpr, zent, zok, va_rf, List.length_cons, List.length_nil, List.replicate, List.cons_append, List.nil_append, List.append_nil, Option.toList_some, Option.toList_none, Option.toList, Nat.reduceAdd, Nat.reduceSub, Nat.reduceLeDiff, Nat.zero_add, Nat.zero_le, true_and, and_true, Nat.le_refl, ge_iff_le, Nat.reduceEqDiff]
    unfold zc_X7_within
    dsimp only
    simp only [zbI_0, zsh_0, zsh_1, a0, zT_push, zT_bin, zT_div, zT_bil, zT_shl, zT_un, zT_i2l, zT_l2i, zT_lcmp, zT_ild, zT_lld, zT_ald, zT_ist, zT_lst, zT_ast, zT_iinc, zT_dup, zT_dup2, zT_pop, zT_if1, zT_if2, zT_ifn, zT_getI, zT_getJ, zT_getR, zT_putI, zT_putZ, zT_putJ, zT_putR, zT_ald0, zT_lald, zT_aald, zT_iast, zT_zast, zT_bast, zT_last, zT_aast, zT_iret, zT_nret, zT_aret, zT_vret, zT_oi, zT_mm, zT_ialX, zT_S1, zT_S2, zT_S3, zT_V0, zT_V1, zT_V2, zT_V3, zT_V4, zT_V5, zT_V6, zT_I0, zT_I1, zT_I2, zlg, zlset, zlpr, zent, zok, va_rf, List.length_cons, List.length_nil, List.replicate, List.cons_append, List.nil_append, List.append_nil, Option.toList_some, Option.toList_none, Option.toList, Nat.reduceAdd, Nat.reduceSub, Nat.reduceLeDiff, Nat.zero_add, Nat.zero_le, true_and, and_true, Nat.le_refl, ge_iff_le, Nat.reduceEqDiff]
    refine ⟨fun h1 => bad (fun z => h1 z.1), fun h1 => ⟨fun h2 => bad (fun z => h2 z.2.1), fun h2 => ?_⟩⟩
    have c1 := Classical.not_not.mp h1
    have c2 := Classical.not_not.mp h2
    unfold zc_X1_has
    dsimp only
    refine ⟨rfl, ?_⟩
    simp only [zbI_0, w1, w2, zT_push, zT_bin, zT_div, zT_bil, zT_shl, zT_un, zT_i2l, zT_l2i, zT_lcmp, zT_ild, zT_lld, zT_ald, zT_ist, zT_lst, zT_ast, zT_iinc, zT_dup, zT_dup2, zT_pop, zT_if1, zT_if2, zT_ifn, zT_getI, zT_getJ, zT_getR, zT_putI, zT_putZ, zT_putJ, zT_putR, zT_ald0, zT_lald, zT_aald, zT_iast, zT_zast, zT_bast, zT_last, zT_aast, zT_iret, zT_nret, zT_aret, zT_vret, zT_oi, zT_mm, zT_ialX, zT_S1, zT_S2, zT_S3, zT_V0, zT_V1, zT_V2, zT_V3, zT_V4, zT_V5, zT_V6, zT_I0, zT_I1, zT_I2, zlg, zlset, zlpr, zent, zok, va_rf, List.length_cons, List.length_nil, List.replicate, List.cons_append, List.nil_append, List.append_nil, Option.toList_some, Option.toList_none, Option.toList, Nat.reduceAdd, Nat.reduceSub, Nat.reduceLeDiff, Nat.zero_add, Nat.zero_le, true_and, and_true, Nat.le_refl, ge_iff_le, Nat.reduceEqDiff]
    refine ⟨fun h3 => bad (fun z => h3 (pclD_t.mp z.2.2)), fun h3 => ?_⟩
    have c3 : pcl F.1 x y := Classical.not_not.mp h3
    obtain ⟨x1, x2, y1, y2, x3, y3⟩ := pcl_n ok c3
    obtain ⟨r1, r2⟩ := tn_nI (x := r) (b := 35) c1.1 c1.2 (by decide)
    obtain ⟨n1, n2⟩ := tn_nI (x := yr) (b := 30) c2.1 c2.2 (by decide)
    obtain ⟨z0, z1⟩ := zyk_sh (yk := zyi (tn r)) ⟨tn r, by omega, rfl⟩
    refine ⟨⟨by omega, by omega⟩, ?_⟩
    unfold zc_X7_runTo
    dsimp only
    refine ⟨rfl, tn r, tn yr, F.1, pk, dk, p, r1, by omega, n1, n2, hxi, fun M2 m hrn2 hxi2 hm1 hm2 q1 q2 hlat hzy => ?_⟩
    simp only [z0, zT_push, zT_bin, zT_div, zT_bil, zT_shl, zT_un, zT_i2l, zT_l2i, zT_lcmp, zT_ild, zT_lld, zT_ald, zT_ist, zT_lst, zT_ast, zT_iinc, zT_dup, zT_dup2, zT_pop, zT_if1, zT_if2, zT_ifn, zT_getI, zT_getJ, zT_getR, zT_putI, zT_putZ, zT_putJ, zT_putR, zT_ald0, zT_lald, zT_aald, zT_iast, zT_zast, zT_bast, zT_last, zT_aast, zT_iret, zT_nret, zT_aret, zT_vret, zT_oi, zT_mm, zT_ialX, zT_S1, zT_S2, zT_S3, zT_V0, zT_V1, zT_V2, zT_V3, zT_V4, zT_V5, zT_V6, zT_I0, zT_I1, zT_I2, zlg, zlset, zlpr, zent, zok, va_rf, List.length_cons, List.length_nil, List.replicate, List.cons_append, List.nil_append, List.append_nil, Option.toList_some, Option.toList_none, Option.toList, Nat.reduceAdd, Nat.reduceSub, Nat.reduceLeDiff, Nat.zero_add, Nat.zero_le, true_and, and_true, Nat.le_refl, ge_iff_le, Nat.reduceEqDiff]
    unfold zc_X7_cellAt
    dsimp only
    have ec : y * 12 + x = nI (tn y * 12 + tn x) := by
      conv => lhs; rw [x1, y1]
      exact wcell
    simp only [z0, ec, zT_push, zT_bin, zT_div, zT_bil, zT_shl, zT_un, zT_i2l, zT_l2i, zT_lcmp, zT_ild, zT_lld, zT_ald, zT_ist, zT_lst, zT_ast, zT_iinc, zT_dup, zT_dup2, zT_pop, zT_if1, zT_if2, zT_ifn, zT_getI, zT_getJ, zT_getR, zT_putI, zT_putZ, zT_putJ, zT_putR, zT_ald0, zT_lald, zT_aald, zT_iast, zT_zast, zT_bast, zT_last, zT_aast, zT_iret, zT_nret, zT_aret, zT_vret, zT_oi, zT_mm, zT_ialX, zT_S1, zT_S2, zT_S3, zT_V0, zT_V1, zT_V2, zT_V3, zT_V4, zT_V5, zT_V6, zT_I0, zT_I1, zT_I2, zlg, zlset, zlpr, zent, zok, va_rf, List.length_cons, List.length_nil, List.replicate, List.cons_append, List.nil_append, List.append_nil, Option.toList_some, Option.toList_none, Option.toList, Nat.reduceAdd, Nat.reduceSub, Nat.reduceLeDiff, Nat.zero_add, Nat.zero_le, true_and, and_true, Nat.le_refl, ge_iff_le, Nat.reduceEqDiff]
    unfold zc_X6_heightOf
    dsimp only
    refine ⟨⟨⟨tn r, by omega, rfl⟩, q2⟩, tn yr, tn y * 12 + tn x, (wHD F.1 (tn r) (tn yr)).1, n1, n2, rfl, by omega, fun e _ => wHD_le ok (tn r) _ e, fun j hj => hzy _ hm1 j hj, ?_⟩
    have h4 := h M2
    unfold pHeight at h4
    rw [if_pos ⟨c1, c2, pclD_t.mpr c3⟩] at h4
    exact h4 (hF.run hrn2 hxi2)
  · exact h.elim
def zc_X7_against (a : List Value) (M : zMm) (K : zKt) : Prop := match a with
  | [.ref k, .int r, .int d] => k = 0 ∧ ∃ F pk dk p, zXF M F pk dk p ∧ ∀ M', zXF M' (pAgainst r d F).2 pk dk p → K (some (.int (pAgainst r d F).1)) M'
  | _ => False
set_option maxHeartbeats 1000000 in
theorem zm_X7_against (l : Launch) (D : va_G) (Y : Nat → ClassId) : zMt l D Y yX7_against cX7_against 3 (some .int) 6 144 4 934 zc_X7_against := by
  refine zflat (by decide) (fun K J lc lz => zb_X7_against_0 K J lc lz) (fun X hR => zbs_X7_against_0 hR zJ0 zJ0_ok) (fun avs M K h => ?_)
  unfold zc_X7_against at h
  split at h
  · next k r d =>
    obtain ⟨rfl, F, pk, dk, p, hF, h⟩ := h
    have hxi := hF.1
    refine ⟨by simp [zent], ?_⟩
    have bad : ¬ ((0 ≤ r ∧ r ≤ 35) ∧ 0 ≤ d ∧ d ≤ 1000) → K (some (.int (-1))) M := by
      intro hb
      have h2 := h M
      unfold pAgainst at h2
      rw [if_neg hb] at h2
      exact h2 hF
    simp only [zb_X7_against_0, zb_X7_against_17, zT_push, zT_bin, zT_div, zT_bil, zT_shl, zT_un, zT_i2l, zT_l2i, zT_lcmp, zT_ild, zT_lld, zT_ald, zT_ist, zT_lst, zT_ast, zT_iinc, zT_dup, zT_dup2, zT_pop, zT_if1, zT_if2, zT_ifn, zT_getI, zT_getJ, zT_getR, zT_putI, zT_putZ, zT_putJ, zT_putR, zT_ald0, zT_lald, zT_aald, zT_iast, zT_zast, zT_bast, zT_last, zT_aast, zT_iret, zT_nret, zT_aret, zT_vret, zT_oi, zT_mm, zT_ialX, zT_S1, zT_S2, zT_S3, zT_V0, zT_V1, zT_V2, zT_V3, zT_V4, zT_V5, zT_V6, zT_I0, zT_I1, zT_I2, zlg, zlset, zlpr, zent, zok, va_rf, List.length_cons, List.length_nil, List.replicate, List.cons_append, List.nil_append, List.append_nil, Option.toList_some, Option.toList_none, Option.toList, Nat.reduceAdd, Nat.reduceSub, Nat.reduceLeDiff, Nat.zero_add, Nat.zero_le, true_and, and_true, Nat.le_refl, ge_iff_le, Nat.reduceEqDiff]
    unfold zc_X7_within zc_X7_isDay
    dsimp only
    simp only [zbI_0, zsh_0, zT_push, zT_bin, zT_div, zT_bil, zT_shl, zT_un, zT_i2l, zT_l2i, zT_lcmp, zT_ild, zT_lld, zT_ald, zT_ist, zT_lst, zT_ast, zT_iinc, zT_dup, zT_dup2, zT_pop, zT_if1, zT_if2, zT_ifn, zT_getI, zT_getJ, zT_getR, zT_putI, zT_putZ, zT_putJ, zT_putR, zT_ald0, zT_lald, zT_aald, zT_iast, zT_zast, zT_bast, zT_last, zT_aast, zT_iret, zT_nret, zT_aret, zT_vret, zT_oi, zT_mm, zT_ialX, zT_S1, zT_S2, zT_S3, zT_V0, zT_V1, zT_V2, zT_V3, zT_V4, zT_V5, zT_V6, zT_I0, zT_I1, zT_I2, zlg, zlset, zlpr, zent, zok, va_rf, List.length_cons, List.length_nil, List.replicate, List.cons_append, List.nil_append, List.append_nil, Option.toList_some, Option.toList_none, Option.toList, Nat.reduceAdd, Nat.reduceSub, Nat.reduceLeDiff, Nat.zero_add, Nat.zero_le, true_and, and_true, Nat.le_refl, ge_iff_le, Nat.reduceEqDiff]
    refine ⟨fun h1 => bad (fun z => h1 z.1), fun h1 => ⟨fun h2 => bad (fun z => h2 z.2), fun h2 => ?_⟩⟩
    have c1 := Classical.not_not.mp h1
    have c2 := Classical.not_not.mp h2
    obtain ⟨r1, r2⟩ := tn_nI (x := r) (b := 35) c1.1 c1.2 (by decide)
    obtain ⟨n1, n2⟩ := tn_nI (x := d) (b := 1000) c2.1 c2.2 (by decide)
    refine ⟨⟨by omega, by omega⟩, ?_⟩
    unfold zc_X7_againstFrom
    dsimp only
    refine ⟨rfl, 0, tn r, tn d, F.1, pk, dk, p, F.2.1, rfl, Nat.zero_le _, r1, by omega, n1, n2, hxi, hF.2.1, fun M2 hrn2 hxi2 => ?_⟩
    have h4 := h M2
    unfold pAgainst at h4
    rw [if_pos ⟨c1, c2⟩] at h4
    exact h4 (hF.run hrn2 hxi2)
  · exact h.elim
def zc_X7_flow (a : List Value) (M : zMm) (K : zKt) : Prop := match a with
  | [.ref k, .int r, .int yr, .int x, .int y] => k = 0 ∧ ∃ F pk dk p, zXF M F pk dk p ∧ ∀ M', zXF M' (pFlow r yr x y F).2 pk dk p → K (some (.int (pFlow r yr x y F).1)) M'
  | _ => False
set_option maxHeartbeats 2000000 in
theorem zm_X7_flow (l : Launch) (D : va_G) (Y : Nat → ClassId) : zMt l D Y yX7_flow cX7_flow 6 (some .int) 5 119 2 467 zc_X7_flow := by
  refine zflat (by decide) (fun K J lc lz => zb_X7_flow_0 K J lc lz) (fun X hR => zbs_X7_flow_0 hR zJ0 zJ0_ok) (fun avs M K h => ?_)
  unfold zc_X7_flow at h
  split at h
  · next k r yr x y =>
    obtain ⟨rfl, F, pk, dk, p, hF, h⟩ := h
    have hxi := hF.1
    obtain ⟨a0, -⟩ := id hxi.1
    obtain ⟨-, ok, w1, w2, -⟩ := id hxi
    obtain ⟨k1, k2, k3, k4, k5, k6, k7, k8, k9⟩ := id ok
    refine ⟨by simp [zent], ?_⟩
    have bad : ¬ ((0 ≤ r ∧ r ≤ 35) ∧ (1 ≤ yr ∧ yr ≤ 30) ∧ pclD F.1 x y = true) → K (some (.int (-1))) M := by
      intro hb
      have h2 := h M
      unfold pFlow at h2
      rw [if_neg hb] at h2
      exact h2 hF
    simp only [zb_X7_flow_0, zb_X7_flow_33, zT_push, zT_bin, zT_div, zT_bil, zT_shl, zT_un, zT_i2l, zT_l2i, zT_lcmp, zT_ild, zT_lld, zT_ald, zT_ist, zT_lst, zT_ast, zT_iinc, zT_dup, zT_dup2, zT_pop, zT_if1, zT_if2, zT_ifn, zT_getI, zT_getJ, zT_getR, zT_putI, zT_putZ, zT_putJ, zT_putR, zT_ald0, zT_lald, zT_aald, zT_iast, zT_zast, zT_bast, zT_last, zT_aast, zT_iret, zT_nret, zT_aret, zT_vret, zT_oi, zT_mm, zT_ialX, zT_S1, zT_S2, zT_S3, zT_V0, zT_V1, zT_V2, zT_V3, zT_V4, zT_V5, zT_V6, zT_I0, zT_I1, zT_I2, zlg, zlset, zlpr, zent, zok, va_rf, List.length_cons, List.length_nil, List.replicate, List.cons_append, List.nil_append, List.append_nil, Option.toList_some, Option.toList_none, Option.toList, Nat.reduceAdd, Nat.reduceSub, Nat.reduceLeDiff, Nat.zero_add, Nat.zero_le, true_and, and_true, Nat.le_refl, ge_iff_le, Nat.reduceEqDiff]
    unfold zc_X7_within
    dsimp only
    simp only [zbI_0, zsh_0, zsh_1, a0, zT_push, zT_bin, zT_div, zT_bil, zT_shl, zT_un, zT_i2l, zT_l2i, zT_lcmp, zT_ild, zT_lld, zT_ald, zT_ist, zT_lst, zT_ast, zT_iinc, zT_dup, zT_dup2, zT_pop, zT_if1, zT_if2, zT_ifn, zT_getI, zT_getJ, zT_getR, zT_putI, zT_putZ, zT_putJ, zT_putR, zT_ald0, zT_lald, zT_aald, zT_iast, zT_zast, zT_bast, zT_last, zT_aast, zT_iret, zT_nret, zT_aret, zT_vret, zT_oi, zT_mm, zT_ialX, zT_S1, zT_S2, zT_S3, zT_V0, zT_V1, zT_V2, zT_V3, zT_V4, zT_V5, zT_V6, zT_I0, zT_I1, zT_I2, zlg, zlset, zlpr, zent, zok, va_rf, List.length_cons, List.length_nil, List.replicate, List.cons_append, List.nil_append, List.append_nil, Option.toList_some, Option.toList_none, Option.toList, Nat.reduceAdd, Nat.reduceSub, Nat.reduceLeDiff, Nat.zero_add, Nat.zero_le, true_and, and_true, Nat.le_refl, ge_iff_le, Nat.reduceEqDiff]
    refine ⟨fun h1 => bad (fun z => h1 z.1), fun h1 => ⟨fun h2 => bad (fun z => h2 z.2.1), fun h2 => ?_⟩⟩
    have c1 := Classical.not_not.mp h1
    have c2 := Classical.not_not.mp h2
    unfold zc_X1_has
    dsimp only
    refine ⟨rfl, ?_⟩
    simp only [zbI_0, w1, w2, zT_push, zT_bin, zT_div, zT_bil, zT_shl, zT_un, zT_i2l, zT_l2i, zT_lcmp, zT_ild, zT_lld, zT_ald, zT_ist, zT_lst, zT_ast, zT_iinc, zT_dup, zT_dup2, zT_pop, zT_if1, zT_if2, zT_ifn, zT_getI, zT_getJ, zT_getR, zT_putI, zT_putZ, zT_putJ, zT_putR, zT_ald0, zT_lald, zT_aald, zT_iast, zT_zast, zT_bast, zT_last, zT_aast, zT_iret, zT_nret, zT_aret, zT_vret, zT_oi, zT_mm, zT_ialX, zT_S1, zT_S2, zT_S3, zT_V0, zT_V1, zT_V2, zT_V3, zT_V4, zT_V5, zT_V6, zT_I0, zT_I1, zT_I2, zlg, zlset, zlpr, zent, zok, va_rf, List.length_cons, List.length_nil, List.replicate, List.cons_append, List.nil_append, List.append_nil, Option.toList_some, Option.toList_none, Option.toList, Nat.reduceAdd, Nat.reduceSub, Nat.reduceLeDiff, Nat.zero_add, Nat.zero_le, true_and, and_true, Nat.le_refl, ge_iff_le, Nat.reduceEqDiff]
    refine ⟨fun h3 => bad (fun z => h3 (pclD_t.mp z.2.2)), fun h3 => ?_⟩
    have c3 : pcl F.1 x y := Classical.not_not.mp h3
    obtain ⟨x1, x2, y1, y2, x3, y3⟩ := pcl_n ok c3
    obtain ⟨r1, r2⟩ := tn_nI (x := r) (b := 35) c1.1 c1.2 (by decide)
    obtain ⟨n1, n2⟩ := tn_nI (x := yr) (b := 30) (Int32.le_trans (by decide) c2.1) c2.2 (by decide)
    have n3 : 1 ≤ tn yr := by have z := c2.1; rw [n1] at z; exact (nI_leI (a := 1) (by decide) (by omega)).mp z
    obtain ⟨m0, hm0⟩ : ∃ m0, tn yr = m0 + 1 := ⟨tn yr - 1, by omega⟩
    have e1 : yr - 1 = nI m0 := by
      conv => lhs; rw [n1, hm0]
      rw [← nI_1]
      exact Int32.add_sub_cancel (nI m0) 1
    obtain ⟨z0, z1⟩ := zyk_sh (yk := zyi (tn r)) ⟨tn r, by omega, rfl⟩
    rw [e1]
    refine ⟨⟨by omega, by omega⟩, ?_⟩
    unfold zc_X7_runTo
    dsimp only
    refine ⟨rfl, tn r, m0, F.1, pk, dk, p, r1, by omega, rfl, by omega, hxi, fun M2 m hrn2 hxi2 hm1 hm2 q1 q2 hlat hzy => ?_⟩
    obtain ⟨hxr2, hok2, v1, v2, v3, v4, v5, hg2, hpl2, ⟨S, hS1, hS2⟩, hYS2, hLL2⟩ := id hxi2
    obtain ⟨b0, b1, b2, b3, b4, b5, b6, b7, b8, b9, b10, b11, b12, hxw2, -⟩ := id hxr2
    obtain ⟨p0, -⟩ := zpl_sh hpl2.1
    simp only [z0, zsh_0, zT_push, zT_bin, zT_div, zT_bil, zT_shl, zT_un, zT_i2l, zT_l2i, zT_lcmp, zT_ild, zT_lld, zT_ald, zT_ist, zT_lst, zT_ast, zT_iinc, zT_dup, zT_dup2, zT_pop, zT_if1, zT_if2, zT_ifn, zT_getI, zT_getJ, zT_getR, zT_putI, zT_putZ, zT_putJ, zT_putR, zT_ald0, zT_lald, zT_aald, zT_iast, zT_zast, zT_bast, zT_last, zT_aast, zT_iret, zT_nret, zT_aret, zT_vret, zT_oi, zT_mm, zT_ialX, zT_S1, zT_S2, zT_S3, zT_V0, zT_V1, zT_V2, zT_V3, zT_V4, zT_V5, zT_V6, zT_I0, zT_I1, zT_I2, zlg, zlset, zlpr, zent, zok, va_rf, List.length_cons, List.length_nil, List.replicate, List.cons_append, List.nil_append, List.append_nil, Option.toList_some, Option.toList_none, Option.toList, Nat.reduceAdd, Nat.reduceSub, Nat.reduceLeDiff, Nat.zero_add, Nat.zero_le, true_and, and_true, Nat.le_refl, ge_iff_le, Nat.reduceEqDiff]
    unfold zc_X7_takeUp
    dsimp only
    refine ⟨rfl, pk, dk, m0, (wHD F.1 (tn r) m0).1, sW F.1, sH F.1, sA F.1, hxr2, ⟨⟨tn r, by omega, rfl⟩, q2⟩, rfl, by omega, fun e _ => wHD_le ok _ _ e, fun i hi => hzy m0 hm1 i hi, ⟨v1, v2, k2, k4⟩, hpl2, fun M3 hs3 hh3 hd3 => ?_⟩
    have hxr3 := hxr2.to hs3.R
    obtain ⟨c0, d1, d2, d3, d4, d5, d6, d7, d8, d9, d10, d11, d12, hxw3, -⟩ := id hxr3
    simp only [zsh_0, c0, d3, d5, p0, zT_push, zT_bin, zT_div, zT_bil, zT_shl, zT_un, zT_i2l, zT_l2i, zT_lcmp, zT_ild, zT_lld, zT_ald, zT_ist, zT_lst, zT_ast, zT_iinc, zT_dup, zT_dup2, zT_pop, zT_if1, zT_if2, zT_ifn, zT_getI, zT_getJ, zT_getR, zT_putI, zT_putZ, zT_putJ, zT_putR, zT_ald0, zT_lald, zT_aald, zT_iast, zT_zast, zT_bast, zT_last, zT_aast, zT_iret, zT_nret, zT_aret, zT_vret, zT_oi, zT_mm, zT_ialX, zT_S1, zT_S2, zT_S3, zT_V0, zT_V1, zT_V2, zT_V3, zT_V4, zT_V5, zT_V6, zT_I0, zT_I1, zT_I2, zlg, zlset, zlpr, zent, zok, va_rf, List.length_cons, List.length_nil, List.replicate, List.cons_append, List.nil_append, List.append_nil, Option.toList_some, Option.toList_none, Option.toList, Nat.reduceAdd, Nat.reduceSub, Nat.reduceLeDiff, Nat.zero_add, Nat.zero_le, true_and, and_true, Nat.le_refl, ge_iff_le, Nat.reduceEqDiff]
    unfold zc_X2_workIn
    dsimp only
    have f1 : M3.2.1 1 = M2.2.1 1 := hs3.at (by simp)
    refine ⟨rfl, rfl, hxw3, tn yr, sW F.1, sH F.1, sA F.1, _, _, n1, n2, ⟨by rw [f1]; exact v1, by rw [f1]; exact v2, k2, k4⟩, hpl2.to hs3 (by simp), hd3, hh3, fun M4 hs4 hd4 hh4 => ?_⟩
    have hxr4 := hxr3.to hs4.R
    obtain ⟨g0, g1, g2, g3, g4, g5, g6, g7, g8, g9, g10, g11, g12, hxw4, -⟩ := id hxr4
    simp only [zsh_0, g0, g3, zT_push, zT_bin, zT_div, zT_bil, zT_shl, zT_un, zT_i2l, zT_l2i, zT_lcmp, zT_ild, zT_lld, zT_ald, zT_ist, zT_lst, zT_ast, zT_iinc, zT_dup, zT_dup2, zT_pop, zT_if1, zT_if2, zT_ifn, zT_getI, zT_getJ, zT_getR, zT_putI, zT_putZ, zT_putJ, zT_putR, zT_ald0, zT_lald, zT_aald, zT_iast, zT_zast, zT_bast, zT_last, zT_aast, zT_iret, zT_nret, zT_aret, zT_vret, zT_oi, zT_mm, zT_ialX, zT_S1, zT_S2, zT_S3, zT_V0, zT_V1, zT_V2, zT_V3, zT_V4, zT_V5, zT_V6, zT_I0, zT_I1, zT_I2, zlg, zlset, zlpr, zent, zok, va_rf, List.length_cons, List.length_nil, List.replicate, List.cons_append, List.nil_append, List.append_nil, Option.toList_some, Option.toList_none, Option.toList, Nat.reduceAdd, Nat.reduceSub, Nat.reduceLeDiff, Nat.zero_add, Nat.zero_le, true_and, and_true, Nat.le_refl, ge_iff_le, Nat.reduceEqDiff]
    unfold zc_X7_sortOf
    dsimp only
    have hsort : r / 12 = nI (tn r / 12) := by
      conv => lhs; rw [r1]
      rw [show (12 : Int32) = nI 12 from rfl, pk_div (by omega) (by omega) (by omega)]
    simp only [zsh_0, zsh_1, zsh_10, g0, g3, hsort, zT_push, zT_bin, zT_div, zT_bil, zT_shl, zT_un, zT_i2l, zT_l2i, zT_lcmp, zT_ild, zT_lld, zT_ald, zT_ist, zT_lst, zT_ast, zT_iinc, zT_dup, zT_dup2, zT_pop, zT_if1, zT_if2, zT_ifn, zT_getI, zT_getJ, zT_getR, zT_putI, zT_putZ, zT_putJ, zT_putR, zT_ald0, zT_lald, zT_aald, zT_iast, zT_zast, zT_bast, zT_last, zT_aast, zT_iret, zT_nret, zT_aret, zT_vret, zT_oi, zT_mm, zT_ialX, zT_S1, zT_S2, zT_S3, zT_V0, zT_V1, zT_V2, zT_V3, zT_V4, zT_V5, zT_V6, zT_I0, zT_I1, zT_I2, zlg, zlset, zlpr, zent, zok, va_rf, List.length_cons, List.length_nil, List.replicate, List.cons_append, List.nil_append, List.append_nil, Option.toList_some, Option.toList_none, Option.toList, Nat.reduceAdd, Nat.reduceSub, Nat.reduceLeDiff, Nat.zero_add, Nat.zero_le, true_and, and_true, Nat.le_refl, ge_iff_le, Nat.reduceEqDiff]
    unfold zc_X5_run
    dsimp only
    have f2 : M4.2.1 1 = M2.2.1 1 := by rw [hs4.at (by simp)]; exact f1
    have hS4 : zwt M4 S.1 S.2 := by
      unfold zwt
      rw [hs4.at (k := 13) (by simp), hs4.at (k := 15) (by simp), hs4.at (k := 10) (by simp), hs3.at (k := 13) (by simp), hs3.at (k := 15) (by simp), hs3.at (k := 10) (by simp)]
      exact hS1
    refine ⟨rfl, rfl, hxw4, sW F.1, sH F.1, _, _, tn r / 12, sS F.1, sF F.1, S, ⟨by rw [f2]; exact v1, by rw [f2]; exact v2, k2, k4, hh4, hd4⟩, rfl, by omega, by rw [f2]; exact v3, k6, k7, by rw [f2]; exact v4, k8, hS4, hS2, fun M5 S5 hs5 hwt5 hwf5 hin5 hbd5 hfl5 hpt5 => ?_⟩
    have hxr5 := hxr4.to hs5.R
    obtain ⟨i0, i1, i2, i3, -, -, -, -, -, -, -, -, -, hxw5, -⟩ := id hxr5
    obtain ⟨-, -, j2, -⟩ := id hxw5
    simp only [zsh_0, zsh_10, zsh_13, i3, j2, zT_push, zT_bin, zT_div, zT_bil, zT_shl, zT_un, zT_i2l, zT_l2i, zT_lcmp, zT_ild, zT_lld, zT_ald, zT_ist, zT_lst, zT_ast, zT_iinc, zT_dup, zT_dup2, zT_pop, zT_if1, zT_if2, zT_ifn, zT_getI, zT_getJ, zT_getR, zT_putI, zT_putZ, zT_putJ, zT_putR, zT_ald0, zT_lald, zT_aald, zT_iast, zT_zast, zT_bast, zT_last, zT_aast, zT_iret, zT_nret, zT_aret, zT_vret, zT_oi, zT_mm, zT_ialX, zT_S1, zT_S2, zT_S3, zT_V0, zT_V1, zT_V2, zT_V3, zT_V4, zT_V5, zT_V6, zT_I0, zT_I1, zT_I2, zlg, zlset, zlpr, zent, zok, va_rf, List.length_cons, List.length_nil, List.replicate, List.cons_append, List.nil_append, List.append_nil, Option.toList_some, Option.toList_none, Option.toList, Nat.reduceAdd, Nat.reduceSub, Nat.reduceLeDiff, Nat.zero_add, Nat.zero_le, true_and, and_true, Nat.le_refl, ge_iff_le, Nat.reduceEqDiff]
    unfold zc_X7_cellAt
    dsimp only
    have ec : y * 12 + x = nI (tn y * 12 + tn x) := by
      conv => lhs; rw [x1, y1]
      exact wcell
    simp only [zsh_13, ec, zT_push, zT_bin, zT_div, zT_bil, zT_shl, zT_un, zT_i2l, zT_l2i, zT_lcmp, zT_ild, zT_lld, zT_ald, zT_ist, zT_lst, zT_ast, zT_iinc, zT_dup, zT_dup2, zT_pop, zT_if1, zT_if2, zT_ifn, zT_getI, zT_getJ, zT_getR, zT_putI, zT_putZ, zT_putJ, zT_putR, zT_ald0, zT_lald, zT_aald, zT_iast, zT_zast, zT_bast, zT_last, zT_aast, zT_iret, zT_nret, zT_aret, zT_vret, zT_oi, zT_mm, zT_ialX, zT_S1, zT_S2, zT_S3, zT_V0, zT_V1, zT_V2, zT_V3, zT_V4, zT_V5, zT_V6, zT_I0, zT_I1, zT_I2, zlg, zlset, zlpr, zent, zok, va_rf, List.length_cons, List.length_nil, List.replicate, List.cons_append, List.nil_append, List.append_nil, Option.toList_some, Option.toList_none, Option.toList, Nat.reduceAdd, Nat.reduceSub, Nat.reduceLeDiff, Nat.zero_add, Nat.zero_le, true_and, and_true, Nat.le_refl, ge_iff_le, Nat.reduceEqDiff]
    rw [nI_clamp (by omega)]
    refine ⟨vp_in_nI (by omega) (by decide), ?_⟩
    have hGeq := wG_run k2 k4 (fun x hx => (hh4 x hx).2) hwf5 hin5 hfl5 (tn y * 12 + tn x) (by omega)
    rw [hwt5.1 _ (by omega), ← hGeq]
    have h4 := h M5
    unfold pFlow at h4
    rw [if_pos ⟨c1, c2, pclD_t.mpr c3⟩] at h4
    have hdk : wdks (sW F.1) (sH F.1) (sA F.1) m0 = (wHD F.1 (tn r) m0).2 := (wHD_2 F.1 (tn r) m0).symm
    rw [hdk, hm0]
    unfold wGT at h4
    rw [hm0] at h4
    have hs24 : zsm ([11, 12] ++ [10, 13, 14, 15, 16, 17, 18, 19]) M2 M5 := ((hs3.up (by simp)).tr (hs4.up (by simp))).tr (hs5.up (by simp))
    exact h4 ((hF.run hrn2 hxi2).wat hs24 (by simp) ⟨S5, hwt5, hwf5⟩)
  · exact h.elim
end
