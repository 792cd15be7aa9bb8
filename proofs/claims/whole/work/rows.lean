section
-- ===== PART A: goes FIRST, ahead of the names: the tables' words, and 'selects' of the private methods out of them =====
/-- a private method of a class that the tables say can be made, by its rows of tables_1 -/
def lw_okq (q : MethodName × Nat) : Prop := (q.1.cls ≠ "java/lang/invoke/MethodHandle" ∧ q.1.cls ≠ "java/lang/invoke/VarHandle") ∧ Cond.instantiable q.1.cls q.2 ∈ tables_1 ∧ Cond.privateMethod q.1 ∈ tables_1 ∧ Cond.instanceMethod q.1 ∈ tables_1
theorem lw_p0 : lw_okq (⟨"GlacierMail$Ice", "reckonHeats", "()V"⟩, 7) := ⟨⟨by decide +kernel, by decide +kernel⟩, List.mem_of_getElem? (i := 174) (by decide +kernel), List.mem_of_getElem? (i := 184) (by decide +kernel), List.mem_of_getElem? (i := 185) (by decide +kernel)⟩
theorem lw_p1 : lw_okq (⟨"GlacierMail$Ice", "reckonSpeeds", "()V"⟩, 7) := ⟨⟨by decide +kernel, by decide +kernel⟩, List.mem_of_getElem? (i := 174) (by decide +kernel), List.mem_of_getElem? (i := 189) (by decide +kernel), List.mem_of_getElem? (i := 190) (by decide +kernel)⟩
theorem lw_p2 : lw_okq (⟨"GlacierMail$Ice", "reckonFloods", "()V"⟩, 7) := ⟨⟨by decide +kernel, by decide +kernel⟩, List.mem_of_getElem? (i := 174) (by decide +kernel), List.mem_of_getElem? (i := 207) (by decide +kernel), List.mem_of_getElem? (i := 208) (by decide +kernel)⟩
theorem lw_p3 : lw_okq (⟨"GlacierMail", "putNumber", "(I)V"⟩, 18) := ⟨⟨by decide +kernel, by decide +kernel⟩, List.mem_of_getElem? (i := 31) (by decide +kernel), List.mem_of_getElem? (i := 431) (by decide +kernel), List.mem_of_getElem? (i := 432) (by decide +kernel)⟩
theorem lw_p4 : lw_okq (⟨"GlacierMail", "reckonEnds", "()V"⟩, 18) := ⟨⟨by decide +kernel, by decide +kernel⟩, List.mem_of_getElem? (i := 31) (by decide +kernel), List.mem_of_getElem? (i := 447) (by decide +kernel), List.mem_of_getElem? (i := 448) (by decide +kernel)⟩
theorem lw_p5 : lw_okq (⟨"GlacierMail$Way", "deepAfter", "()I"⟩, 9) := ⟨⟨by decide +kernel, by decide +kernel⟩, List.mem_of_getElem? (i := 234) (by decide +kernel), List.mem_of_getElem? (i := 487) (by decide +kernel), List.mem_of_getElem? (i := 488) (by decide +kernel)⟩
theorem lw_p6 : lw_okq (⟨"GlacierMail$Ice", "recalledFlow", "(I)I"⟩, 7) := ⟨⟨by decide +kernel, by decide +kernel⟩, List.mem_of_getElem? (i := 174) (by decide +kernel), List.mem_of_getElem? (i := 505) (by decide +kernel), List.mem_of_getElem? (i := 506) (by decide +kernel)⟩
theorem lw_p7 : lw_okq (⟨"GlacierMail$Ice", "setFacts", "(IIII)V"⟩, 7) := ⟨⟨by decide +kernel, by decide +kernel⟩, List.mem_of_getElem? (i := 174) (by decide +kernel), List.mem_of_getElem? (i := 513) (by decide +kernel), List.mem_of_getElem? (i := 514) (by decide +kernel)⟩
theorem lw_p8 : lw_okq (⟨"GlacierMail$Law", "holds", "(II[I)Z"⟩, 2) := ⟨⟨by decide +kernel, by decide +kernel⟩, List.mem_of_getElem? (i := 526) (by decide +kernel), List.mem_of_getElem? (i := 524) (by decide +kernel), List.mem_of_getElem? (i := 525) (by decide +kernel)⟩
theorem lw_p9 : lw_okq (⟨"GlacierMail$Ice", "keepFlow", "(II)V"⟩, 7) := ⟨⟨by decide +kernel, by decide +kernel⟩, List.mem_of_getElem? (i := 174) (by decide +kernel), List.mem_of_getElem? (i := 532) (by decide +kernel), List.mem_of_getElem? (i := 533) (by decide +kernel)⟩
theorem lw_p10 : lw_okq (⟨"GlacierMail$Way", "takeFloods", "()V"⟩, 9) := ⟨⟨by decide +kernel, by decide +kernel⟩, List.mem_of_getElem? (i := 234) (by decide +kernel), List.mem_of_getElem? (i := 537) (by decide +kernel), List.mem_of_getElem? (i := 538) (by decide +kernel)⟩
theorem lw_p11 : lw_okq (⟨"GlacierMail", "outIn", "(IZ)I"⟩, 18) := ⟨⟨by decide +kernel, by decide +kernel⟩, List.mem_of_getElem? (i := 31) (by decide +kernel), List.mem_of_getElem? (i := 555) (by decide +kernel), List.mem_of_getElem? (i := 556) (by decide +kernel)⟩
theorem lw_p12 : lw_okq (⟨"GlacierMail", "allToldApart", "(I)Z"⟩, 18) := ⟨⟨by decide +kernel, by decide +kernel⟩, List.mem_of_getElem? (i := 31) (by decide +kernel), List.mem_of_getElem? (i := 570) (by decide +kernel), List.mem_of_getElem? (i := 571) (by decide +kernel)⟩
theorem lw_p13 : lw_okq (⟨"GlacierMail", "toldApart", "(III)Z"⟩, 18) := ⟨⟨by decide +kernel, by decide +kernel⟩, List.mem_of_getElem? (i := 31) (by decide +kernel), List.mem_of_getElem? (i := 574) (by decide +kernel), List.mem_of_getElem? (i := 575) (by decide +kernel)⟩
theorem lw_p14 : lw_okq (⟨"GlacierMail", "outAheadOf", "(I)I"⟩, 18) := ⟨⟨by decide +kernel, by decide +kernel⟩, List.mem_of_getElem? (i := 31) (by decide +kernel), List.mem_of_getElem? (i := 582) (by decide +kernel), List.mem_of_getElem? (i := 583) (by decide +kernel)⟩
theorem lw_p15 : lw_okq (⟨"GlacierMail$History", "at", "(I)LGlacierMail$State;"⟩, 3) := ⟨⟨by decide +kernel, by decide +kernel⟩, List.mem_of_getElem? (i := 155) (by decide +kernel), List.mem_of_getElem? (i := 594) (by decide +kernel), List.mem_of_getElem? (i := 595) (by decide +kernel)⟩
def lw_privs_1 : List (MethodName × Nat) := [(⟨"GlacierMail$Ice", "reckonHeats", "()V"⟩, 7), (⟨"GlacierMail$Ice", "reckonSpeeds", "()V"⟩, 7), (⟨"GlacierMail$Ice", "reckonFloods", "()V"⟩, 7), (⟨"GlacierMail", "putNumber", "(I)V"⟩, 18), (⟨"GlacierMail", "reckonEnds", "()V"⟩, 18), (⟨"GlacierMail$Way", "deepAfter", "()I"⟩, 9), (⟨"GlacierMail$Ice", "recalledFlow", "(I)I"⟩, 7), (⟨"GlacierMail$Ice", "setFacts", "(IIII)V"⟩, 7), (⟨"GlacierMail$Law", "holds", "(II[I)Z"⟩, 2), (⟨"GlacierMail$Ice", "keepFlow", "(II)V"⟩, 7), (⟨"GlacierMail$Way", "takeFloods", "()V"⟩, 9), (⟨"GlacierMail", "outIn", "(IZ)I"⟩, 18), (⟨"GlacierMail", "allToldApart", "(I)Z"⟩, 18), (⟨"GlacierMail", "toldApart", "(III)Z"⟩, 18), (⟨"GlacierMail", "outAheadOf", "(I)I"⟩, 18), (⟨"GlacierMail$History", "at", "(I)LGlacierMail$State;"⟩, 3)]
theorem lw_r1 : ∀ q ∈ lw_privs_1, lw_okq q := List.forall_mem_cons.mpr ⟨lw_p0, List.forall_mem_cons.mpr ⟨lw_p1, List.forall_mem_cons.mpr ⟨lw_p2, List.forall_mem_cons.mpr ⟨lw_p3, List.forall_mem_cons.mpr ⟨lw_p4, List.forall_mem_cons.mpr ⟨lw_p5, List.forall_mem_cons.mpr ⟨lw_p6, List.forall_mem_cons.mpr ⟨lw_p7, List.forall_mem_cons.mpr ⟨lw_p8, List.forall_mem_cons.mpr ⟨lw_p9, List.forall_mem_cons.mpr ⟨lw_p10, List.forall_mem_cons.mpr ⟨lw_p11, List.forall_mem_cons.mpr ⟨lw_p12, List.forall_mem_cons.mpr ⟨lw_p13, List.forall_mem_cons.mpr ⟨lw_p14, List.forall_mem_cons.mpr ⟨lw_p15, fun _ h => absurd h List.not_mem_nil⟩⟩⟩⟩⟩⟩⟩⟩⟩⟩⟩⟩⟩⟩⟩⟩
theorem lw_p16 : lw_okq (⟨"GlacierMail", "forgetWays", "()V"⟩, 18) := ⟨⟨by decide +kernel, by decide +kernel⟩, List.mem_of_getElem? (i := 31) (by decide +kernel), List.mem_of_getElem? (i := 618) (by decide +kernel), List.mem_of_getElem? (i := 619) (by decide +kernel)⟩
theorem lw_p17 : lw_okq (⟨"GlacierMail", "lawLines", "()I"⟩, 18) := ⟨⟨by decide +kernel, by decide +kernel⟩, List.mem_of_getElem? (i := 31) (by decide +kernel), List.mem_of_getElem? (i := 631) (by decide +kernel), List.mem_of_getElem? (i := 632) (by decide +kernel)⟩
theorem lw_p18 : lw_okq (⟨"GlacierMail", "waiting", "(I)I"⟩, 18) := ⟨⟨by decide +kernel, by decide +kernel⟩, List.mem_of_getElem? (i := 31) (by decide +kernel), List.mem_of_getElem? (i := 635) (by decide +kernel), List.mem_of_getElem? (i := 636) (by decide +kernel)⟩
theorem lw_p19 : lw_okq (⟨"GlacierMail", "waits", "(I)Z"⟩, 18) := ⟨⟨by decide +kernel, by decide +kernel⟩, List.mem_of_getElem? (i := 31) (by decide +kernel), List.mem_of_getElem? (i := 639) (by decide +kernel), List.mem_of_getElem? (i := 640) (by decide +kernel)⟩
theorem lw_p20 : lw_okq (⟨"GlacierMail", "isOutBy", "(II)Z"⟩, 18) := ⟨⟨by decide +kernel, by decide +kernel⟩, List.mem_of_getElem? (i := 31) (by decide +kernel), List.mem_of_getElem? (i := 643) (by decide +kernel), List.mem_of_getElem? (i := 644) (by decide +kernel)⟩
theorem lw_p21 : lw_okq (⟨"GlacierMail", "inIceNow", "()I"⟩, 18) := ⟨⟨by decide +kernel, by decide +kernel⟩, List.mem_of_getElem? (i := 31) (by decide +kernel), List.mem_of_getElem? (i := 647) (by decide +kernel), List.mem_of_getElem? (i := 648) (by decide +kernel)⟩
theorem lw_p22 : lw_okq (⟨"GlacierMail$LawReader", "readKind", "()I"⟩, 5) := ⟨⟨by decide +kernel, by decide +kernel⟩, List.mem_of_getElem? (i := 350) (by decide +kernel), List.mem_of_getElem? (i := 701) (by decide +kernel), List.mem_of_getElem? (i := 702) (by decide +kernel)⟩
theorem lw_p23 : lw_okq (⟨"GlacierMail$LawReader", "readCondition", "(I)Z"⟩, 5) := ⟨⟨by decide +kernel, by decide +kernel⟩, List.mem_of_getElem? (i := 350) (by decide +kernel), List.mem_of_getElem? (i := 776) (by decide +kernel), List.mem_of_getElem? (i := 777) (by decide +kernel)⟩
theorem lw_p24 : lw_okq (⟨"GlacierMail$LawReader", "readAtom", "(I)Z"⟩, 5) := ⟨⟨by decide +kernel, by decide +kernel⟩, List.mem_of_getElem? (i := 350) (by decide +kernel), List.mem_of_getElem? (i := 780) (by decide +kernel), List.mem_of_getElem? (i := 781) (by decide +kernel)⟩
theorem lw_p25 : lw_okq (⟨"GlacierMail$LawReader", "put", "(I)V"⟩, 5) := ⟨⟨by decide +kernel, by decide +kernel⟩, List.mem_of_getElem? (i := 350) (by decide +kernel), List.mem_of_getElem? (i := 789) (by decide +kernel), List.mem_of_getElem? (i := 790) (by decide +kernel)⟩
theorem lw_p26 : lw_okq (⟨"GlacierMail$LawReader", "readSum", "()Z"⟩, 5) := ⟨⟨by decide +kernel, by decide +kernel⟩, List.mem_of_getElem? (i := 350) (by decide +kernel), List.mem_of_getElem? (i := 795) (by decide +kernel), List.mem_of_getElem? (i := 796) (by decide +kernel)⟩
theorem lw_p27 : lw_okq (⟨"GlacierMail$LawReader", "factCode", "()I"⟩, 5) := ⟨⟨by decide +kernel, by decide +kernel⟩, List.mem_of_getElem? (i := 350) (by decide +kernel), List.mem_of_getElem? (i := 799) (by decide +kernel), List.mem_of_getElem? (i := 800) (by decide +kernel)⟩
theorem lw_p28 : lw_okq (⟨"GlacierMail$ValleyReader", "readLanes", "()Z"⟩, 3) := ⟨⟨by decide +kernel, by decide +kernel⟩, List.mem_of_getElem? (i := 293) (by decide +kernel), List.mem_of_getElem? (i := 823) (by decide +kernel), List.mem_of_getElem? (i := 824) (by decide +kernel)⟩
theorem lw_p29 : lw_okq (⟨"GlacierMail$ValleyReader", "readLast", "()Z"⟩, 3) := ⟨⟨by decide +kernel, by decide +kernel⟩, List.mem_of_getElem? (i := 293) (by decide +kernel), List.mem_of_getElem? (i := 836) (by decide +kernel), List.mem_of_getElem? (i := 837) (by decide +kernel)⟩
theorem lw_p30 : lw_okq (⟨"GlacierMail$ValleyReader", "readSection", "()Z"⟩, 3) := ⟨⟨by decide +kernel, by decide +kernel⟩, List.mem_of_getElem? (i := 293) (by decide +kernel), List.mem_of_getElem? (i := 841) (by decide +kernel), List.mem_of_getElem? (i := 842) (by decide +kernel)⟩
theorem lw_p31 : lw_okq (⟨"GlacierMail$ValleyReader", "readSpeeds", "(LGlacierMail$Rows;II)Z"⟩, 3) := ⟨⟨by decide +kernel, by decide +kernel⟩, List.mem_of_getElem? (i := 293) (by decide +kernel), List.mem_of_getElem? (i := 853) (by decide +kernel), List.mem_of_getElem? (i := 854) (by decide +kernel)⟩
def lw_privs_2 : List (MethodName × Nat) := [(⟨"GlacierMail", "forgetWays", "()V"⟩, 18), (⟨"GlacierMail", "lawLines", "()I"⟩, 18), (⟨"GlacierMail", "waiting", "(I)I"⟩, 18), (⟨"GlacierMail", "waits", "(I)Z"⟩, 18), (⟨"GlacierMail", "isOutBy", "(II)Z"⟩, 18), (⟨"GlacierMail", "inIceNow", "()I"⟩, 18), (⟨"GlacierMail$LawReader", "readKind", "()I"⟩, 5), (⟨"GlacierMail$LawReader", "readCondition", "(I)Z"⟩, 5), (⟨"GlacierMail$LawReader", "readAtom", "(I)Z"⟩, 5), (⟨"GlacierMail$LawReader", "put", "(I)V"⟩, 5), (⟨"GlacierMail$LawReader", "readSum", "()Z"⟩, 5), (⟨"GlacierMail$LawReader", "factCode", "()I"⟩, 5), (⟨"GlacierMail$ValleyReader", "readLanes", "()Z"⟩, 3), (⟨"GlacierMail$ValleyReader", "readLast", "()Z"⟩, 3), (⟨"GlacierMail$ValleyReader", "readSection", "()Z"⟩, 3), (⟨"GlacierMail$ValleyReader", "readSpeeds", "(LGlacierMail$Rows;II)Z"⟩, 3)]
theorem lw_r2 : ∀ q ∈ lw_privs_2, lw_okq q := List.forall_mem_cons.mpr ⟨lw_p16, List.forall_mem_cons.mpr ⟨lw_p17, List.forall_mem_cons.mpr ⟨lw_p18, List.forall_mem_cons.mpr ⟨lw_p19, List.forall_mem_cons.mpr ⟨lw_p20, List.forall_mem_cons.mpr ⟨lw_p21, List.forall_mem_cons.mpr ⟨lw_p22, List.forall_mem_cons.mpr ⟨lw_p23, List.forall_mem_cons.mpr ⟨lw_p24, List.forall_mem_cons.mpr ⟨lw_p25, List.forall_mem_cons.mpr ⟨lw_p26, List.forall_mem_cons.mpr ⟨lw_p27, List.forall_mem_cons.mpr ⟨lw_p28, List.forall_mem_cons.mpr ⟨lw_p29, List.forall_mem_cons.mpr ⟨lw_p30, List.forall_mem_cons.mpr ⟨lw_p31, fun _ h => absurd h List.not_mem_nil⟩⟩⟩⟩⟩⟩⟩⟩⟩⟩⟩⟩⟩⟩⟩⟩
theorem lw_p32 : lw_okq (⟨"GlacierMail$ValleyReader", "readSnow", "()Z"⟩, 3) := ⟨⟨by decide +kernel, by decide +kernel⟩, List.mem_of_getElem? (i := 293) (by decide +kernel), List.mem_of_getElem? (i := 858) (by decide +kernel), List.mem_of_getElem? (i := 859) (by decide +kernel)⟩
theorem lw_p33 : lw_okq (⟨"GlacierMail$ValleyReader", "readRow", "()I"⟩, 3) := ⟨⟨by decide +kernel, by decide +kernel⟩, List.mem_of_getElem? (i := 293) (by decide +kernel), List.mem_of_getElem? (i := 862) (by decide +kernel), List.mem_of_getElem? (i := 863) (by decide +kernel)⟩
theorem lw_p34 : lw_okq (⟨"GlacierMail$ValleyReader", "readStripe", "()Z"⟩, 3) := ⟨⟨by decide +kernel, by decide +kernel⟩, List.mem_of_getElem? (i := 293) (by decide +kernel), List.mem_of_getElem? (i := 873) (by decide +kernel), List.mem_of_getElem? (i := 874) (by decide +kernel)⟩
theorem lw_p35 : lw_okq (⟨"GlacierMail$ValleyReader", "readSeed", "()Z"⟩, 3) := ⟨⟨by decide +kernel, by decide +kernel⟩, List.mem_of_getElem? (i := 293) (by decide +kernel), List.mem_of_getElem? (i := 878) (by decide +kernel), List.mem_of_getElem? (i := 879) (by decide +kernel)⟩
theorem lw_p36 : lw_okq (⟨"GlacierMail$ValleyReader", "readFlood", "()Z"⟩, 3) := ⟨⟨by decide +kernel, by decide +kernel⟩, List.mem_of_getElem? (i := 293) (by decide +kernel), List.mem_of_getElem? (i := 883) (by decide +kernel), List.mem_of_getElem? (i := 884) (by decide +kernel)⟩
theorem lw_p37 : lw_okq (⟨"GlacierMail$ValleyReader", "readPerson", "()Z"⟩, 3) := ⟨⟨by decide +kernel, by decide +kernel⟩, List.mem_of_getElem? (i := 293) (by decide +kernel), List.mem_of_getElem? (i := 888) (by decide +kernel), List.mem_of_getElem? (i := 889) (by decide +kernel)⟩
theorem lw_p38 : lw_okq (⟨"GlacierMail$ValleyReader", "readLane", "()I"⟩, 3) := ⟨⟨by decide +kernel, by decide +kernel⟩, List.mem_of_getElem? (i := 293) (by decide +kernel), List.mem_of_getElem? (i := 892) (by decide +kernel), List.mem_of_getElem? (i := 893) (by decide +kernel)⟩
theorem lw_p39 : lw_okq (⟨"GlacierMail$ValleyReader", "readRock", "()Z"⟩, 3) := ⟨⟨by decide +kernel, by decide +kernel⟩, List.mem_of_getElem? (i := 293) (by decide +kernel), List.mem_of_getElem? (i := 899) (by decide +kernel), List.mem_of_getElem? (i := 900) (by decide +kernel)⟩
theorem lw_p40 : lw_okq (⟨"GlacierMail$ValleyReader", "readTable", "()Z"⟩, 3) := ⟨⟨by decide +kernel, by decide +kernel⟩, List.mem_of_getElem? (i := 293) (by decide +kernel), List.mem_of_getElem? (i := 910) (by decide +kernel), List.mem_of_getElem? (i := 911) (by decide +kernel)⟩
theorem lw_p41 : lw_okq (⟨"java/lang/Throwable", "fillInStackTrace", "(I)Ljava/lang/Throwable;"⟩, 6) := ⟨⟨by decide +kernel, by decide +kernel⟩, List.mem_of_getElem? (i := 960) (by decide +kernel), List.mem_of_getElem? (i := 958) (by decide +kernel), List.mem_of_getElem? (i := 959) (by decide +kernel)⟩
theorem lw_p42 : lw_okq (⟨"GlacierMail", "needYear", "(I)V"⟩, 18) := ⟨⟨by decide +kernel, by decide +kernel⟩, List.mem_of_getElem? (i := 31) (by decide +kernel), List.mem_of_getElem? (i := 1055) (by decide +kernel), List.mem_of_getElem? (i := 1056) (by decide +kernel)⟩
theorem lw_p43 : lw_okq (⟨"GlacierMail", "needLane", "(I)V"⟩, 18) := ⟨⟨by decide +kernel, by decide +kernel⟩, List.mem_of_getElem? (i := 31) (by decide +kernel), List.mem_of_getElem? (i := 1069) (by decide +kernel), List.mem_of_getElem? (i := 1070) (by decide +kernel)⟩
theorem lw_p44 : lw_okq (⟨"GlacierMail", "need", "(II)V"⟩, 18) := ⟨⟨by decide +kernel, by decide +kernel⟩, List.mem_of_getElem? (i := 31) (by decide +kernel), List.mem_of_getElem? (i := 1073) (by decide +kernel), List.mem_of_getElem? (i := 1074) (by decide +kernel)⟩
theorem lw_p45 : lw_okq (⟨"GlacierMail", "needRow", "(I)V"⟩, 18) := ⟨⟨by decide +kernel, by decide +kernel⟩, List.mem_of_getElem? (i := 31) (by decide +kernel), List.mem_of_getElem? (i := 1093) (by decide +kernel), List.mem_of_getElem? (i := 1094) (by decide +kernel)⟩
theorem lw_p46 : lw_okq (⟨"GlacierMail", "needPerson", "(I)V"⟩, 18) := ⟨⟨by decide +kernel, by decide +kernel⟩, List.mem_of_getElem? (i := 31) (by decide +kernel), List.mem_of_getElem? (i := 1114) (by decide +kernel), List.mem_of_getElem? (i := 1115) (by decide +kernel)⟩
theorem lw_p47 : lw_okq (⟨"GlacierMail", "lettersWith", "(II)I"⟩, 18) := ⟨⟨by decide +kernel, by decide +kernel⟩, List.mem_of_getElem? (i := 31) (by decide +kernel), List.mem_of_getElem? (i := 1118) (by decide +kernel), List.mem_of_getElem? (i := 1119) (by decide +kernel)⟩
def lw_privs_3 : List (MethodName × Nat) := [(⟨"GlacierMail$ValleyReader", "readSnow", "()Z"⟩, 3), (⟨"GlacierMail$ValleyReader", "readRow", "()I"⟩, 3), (⟨"GlacierMail$ValleyReader", "readStripe", "()Z"⟩, 3), (⟨"GlacierMail$ValleyReader", "readSeed", "()Z"⟩, 3), (⟨"GlacierMail$ValleyReader", "readFlood", "()Z"⟩, 3), (⟨"GlacierMail$ValleyReader", "readPerson", "()Z"⟩, 3), (⟨"GlacierMail$ValleyReader", "readLane", "()I"⟩, 3), (⟨"GlacierMail$ValleyReader", "readRock", "()Z"⟩, 3), (⟨"GlacierMail$ValleyReader", "readTable", "()Z"⟩, 3), (⟨"java/lang/Throwable", "fillInStackTrace", "(I)Ljava/lang/Throwable;"⟩, 6), (⟨"GlacierMail", "needYear", "(I)V"⟩, 18), (⟨"GlacierMail", "needLane", "(I)V"⟩, 18), (⟨"GlacierMail", "need", "(II)V"⟩, 18), (⟨"GlacierMail", "needRow", "(I)V"⟩, 18), (⟨"GlacierMail", "needPerson", "(I)V"⟩, 18), (⟨"GlacierMail", "lettersWith", "(II)I"⟩, 18)]
theorem lw_r3 : ∀ q ∈ lw_privs_3, lw_okq q := List.forall_mem_cons.mpr ⟨lw_p32, List.forall_mem_cons.mpr ⟨lw_p33, List.forall_mem_cons.mpr ⟨lw_p34, List.forall_mem_cons.mpr ⟨lw_p35, List.forall_mem_cons.mpr ⟨lw_p36, List.forall_mem_cons.mpr ⟨lw_p37, List.forall_mem_cons.mpr ⟨lw_p38, List.forall_mem_cons.mpr ⟨lw_p39, List.forall_mem_cons.mpr ⟨lw_p40, List.forall_mem_cons.mpr ⟨lw_p41, List.forall_mem_cons.mpr ⟨lw_p42, List.forall_mem_cons.mpr ⟨lw_p43, List.forall_mem_cons.mpr ⟨lw_p44, List.forall_mem_cons.mpr ⟨lw_p45, List.forall_mem_cons.mpr ⟨lw_p46, List.forall_mem_cons.mpr ⟨lw_p47, fun _ h => absurd h List.not_mem_nil⟩⟩⟩⟩⟩⟩⟩⟩⟩⟩⟩⟩⟩⟩⟩⟩
theorem lw_p48 : lw_okq (⟨"GlacierMail", "needLetter", "(I)V"⟩, 18) := ⟨⟨by decide +kernel, by decide +kernel⟩, List.mem_of_getElem? (i := 31) (by decide +kernel), List.mem_of_getElem? (i := 1145) (by decide +kernel), List.mem_of_getElem? (i := 1146) (by decide +kernel)⟩
theorem lw_p49 : lw_okq (⟨"GlacierMail", "outOf", "(I)I"⟩, 18) := ⟨⟨by decide +kernel, by decide +kernel⟩, List.mem_of_getElem? (i := 31) (by decide +kernel), List.mem_of_getElem? (i := 1149) (by decide +kernel), List.mem_of_getElem? (i := 1150) (by decide +kernel)⟩
theorem lw_p50 : lw_okq (⟨"GlacierMail", "firstBare", "(I)I"⟩, 18) := ⟨⟨by decide +kernel, by decide +kernel⟩, List.mem_of_getElem? (i := 31) (by decide +kernel), List.mem_of_getElem? (i := 1153) (by decide +kernel), List.mem_of_getElem? (i := 1154) (by decide +kernel)⟩
theorem lw_p51 : lw_okq (⟨"GlacierMail", "needUnlike", "(II)V"⟩, 18) := ⟨⟨by decide +kernel, by decide +kernel⟩, List.mem_of_getElem? (i := 31) (by decide +kernel), List.mem_of_getElem? (i := 1186) (by decide +kernel), List.mem_of_getElem? (i := 1187) (by decide +kernel)⟩
theorem lw_p52 : lw_okq (⟨"GlacierMail", "oneYearMore", "()I"⟩, 18) := ⟨⟨by decide +kernel, by decide +kernel⟩, List.mem_of_getElem? (i := 31) (by decide +kernel), List.mem_of_getElem? (i := 1242) (by decide +kernel), List.mem_of_getElem? (i := 1243) (by decide +kernel)⟩
theorem lw_p53 : lw_okq (⟨"GlacierMail", "openerOf", "(I)I"⟩, 18) := ⟨⟨by decide +kernel, by decide +kernel⟩, List.mem_of_getElem? (i := 31) (by decide +kernel), List.mem_of_getElem? (i := 1246) (by decide +kernel), List.mem_of_getElem? (i := 1247) (by decide +kernel)⟩
theorem lw_p54 : lw_okq (⟨"GlacierMail", "sameLane", "(II)Z"⟩, 18) := ⟨⟨by decide +kernel, by decide +kernel⟩, List.mem_of_getElem? (i := 31) (by decide +kernel), List.mem_of_getElem? (i := 1312) (by decide +kernel), List.mem_of_getElem? (i := 1313) (by decide +kernel)⟩
theorem lw_p55 : lw_okq (⟨"GlacierMail", "passesBy", "(II)Z"⟩, 18) := ⟨⟨by decide +kernel, by decide +kernel⟩, List.mem_of_getElem? (i := 31) (by decide +kernel), List.mem_of_getElem? (i := 1316) (by decide +kernel), List.mem_of_getElem? (i := 1317) (by decide +kernel)⟩
theorem lw_p56 : lw_okq (⟨"GlacierMail", "startBoth", "(III)I"⟩, 18) := ⟨⟨by decide +kernel, by decide +kernel⟩, List.mem_of_getElem? (i := 31) (by decide +kernel), List.mem_of_getElem? (i := 1320) (by decide +kernel), List.mem_of_getElem? (i := 1321) (by decide +kernel)⟩
theorem lw_p57 : lw_okq (⟨"GlacierMail", "bothInIce", "()Z"⟩, 18) := ⟨⟨by decide +kernel, by decide +kernel⟩, List.mem_of_getElem? (i := 31) (by decide +kernel), List.mem_of_getElem? (i := 1325) (by decide +kernel), List.mem_of_getElem? (i := 1326) (by decide +kernel)⟩
theorem lw_p58 : lw_okq (⟨"GlacierMail", "stepBoth", "()V"⟩, 18) := ⟨⟨by decide +kernel, by decide +kernel⟩, List.mem_of_getElem? (i := 31) (by decide +kernel), List.mem_of_getElem? (i := 1329) (by decide +kernel), List.mem_of_getElem? (i := 1330) (by decide +kernel)⟩
theorem lw_p59 : lw_okq (⟨"GlacierMail", "needFind", "(II)V"⟩, 18) := ⟨⟨by decide +kernel, by decide +kernel⟩, List.mem_of_getElem? (i := 31) (by decide +kernel), List.mem_of_getElem? (i := 1340) (by decide +kernel), List.mem_of_getElem? (i := 1341) (by decide +kernel)⟩
theorem lw_p60 : lw_okq (⟨"GlacierMail", "latestWriting", "(IIII)I"⟩, 18) := ⟨⟨by decide +kernel, by decide +kernel⟩, List.mem_of_getElem? (i := 31) (by decide +kernel), List.mem_of_getElem? (i := 1345) (by decide +kernel), List.mem_of_getElem? (i := 1346) (by decide +kernel)⟩
theorem lw_p61 : lw_okq (⟨"GlacierMail", "needTable", "(I)V"⟩, 18) := ⟨⟨by decide +kernel, by decide +kernel⟩, List.mem_of_getElem? (i := 31) (by decide +kernel), List.mem_of_getElem? (i := 1363) (by decide +kernel), List.mem_of_getElem? (i := 1364) (by decide +kernel)⟩
theorem lw_p62 : lw_okq (⟨"GlacierMail", "areReadings", "(I)Z"⟩, 18) := ⟨⟨by decide +kernel, by decide +kernel⟩, List.mem_of_getElem? (i := 31) (by decide +kernel), List.mem_of_getElem? (i := 1381) (by decide +kernel), List.mem_of_getElem? (i := 1382) (by decide +kernel)⟩
theorem lw_p63 : lw_okq (⟨"GlacierMail", "fitsReadings", "(II)Z"⟩, 18) := ⟨⟨by decide +kernel, by decide +kernel⟩, List.mem_of_getElem? (i := 31) (by decide +kernel), List.mem_of_getElem? (i := 1386) (by decide +kernel), List.mem_of_getElem? (i := 1387) (by decide +kernel)⟩
def lw_privs_4 : List (MethodName × Nat) := [(⟨"GlacierMail", "needLetter", "(I)V"⟩, 18), (⟨"GlacierMail", "outOf", "(I)I"⟩, 18), (⟨"GlacierMail", "firstBare", "(I)I"⟩, 18), (⟨"GlacierMail", "needUnlike", "(II)V"⟩, 18), (⟨"GlacierMail", "oneYearMore", "()I"⟩, 18), (⟨"GlacierMail", "openerOf", "(I)I"⟩, 18), (⟨"GlacierMail", "sameLane", "(II)Z"⟩, 18), (⟨"GlacierMail", "passesBy", "(II)Z"⟩, 18), (⟨"GlacierMail", "startBoth", "(III)I"⟩, 18), (⟨"GlacierMail", "bothInIce", "()Z"⟩, 18), (⟨"GlacierMail", "stepBoth", "()V"⟩, 18), (⟨"GlacierMail", "needFind", "(II)V"⟩, 18), (⟨"GlacierMail", "latestWriting", "(IIII)I"⟩, 18), (⟨"GlacierMail", "needTable", "(I)V"⟩, 18), (⟨"GlacierMail", "areReadings", "(I)Z"⟩, 18), (⟨"GlacierMail", "fitsReadings", "(II)Z"⟩, 18)]
theorem lw_r4 : ∀ q ∈ lw_privs_4, lw_okq q := List.forall_mem_cons.mpr ⟨lw_p48, List.forall_mem_cons.mpr ⟨lw_p49, List.forall_mem_cons.mpr ⟨lw_p50, List.forall_mem_cons.mpr ⟨lw_p51, List.forall_mem_cons.mpr ⟨lw_p52, List.forall_mem_cons.mpr ⟨lw_p53, List.forall_mem_cons.mpr ⟨lw_p54, List.forall_mem_cons.mpr ⟨lw_p55, List.forall_mem_cons.mpr ⟨lw_p56, List.forall_mem_cons.mpr ⟨lw_p57, List.forall_mem_cons.mpr ⟨lw_p58, List.forall_mem_cons.mpr ⟨lw_p59, List.forall_mem_cons.mpr ⟨lw_p60, List.forall_mem_cons.mpr ⟨lw_p61, List.forall_mem_cons.mpr ⟨lw_p62, List.forall_mem_cons.mpr ⟨lw_p63, fun _ h => absurd h List.not_mem_nil⟩⟩⟩⟩⟩⟩⟩⟩⟩⟩⟩⟩⟩⟩⟩⟩
theorem lw_p64 : lw_okq (⟨"GlacierMail$Answers", "throwAgain", "(IIII)V"⟩, 4) := ⟨⟨by decide +kernel, by decide +kernel⟩, List.mem_of_getElem? (i := 272) (by decide +kernel), List.mem_of_getElem? (i := 1403) (by decide +kernel), List.mem_of_getElem? (i := 1404) (by decide +kernel)⟩
theorem lw_p65 : lw_okq (⟨"GlacierMail$Answers", "throwAhead", "(III)I"⟩, 4) := ⟨⟨by decide +kernel, by decide +kernel⟩, List.mem_of_getElem? (i := 272) (by decide +kernel), List.mem_of_getElem? (i := 1433) (by decide +kernel), List.mem_of_getElem? (i := 1434) (by decide +kernel)⟩
theorem lw_p66 : lw_okq (⟨"GlacierMail", "needThiefYears", "(I)V"⟩, 18) := ⟨⟨by decide +kernel, by decide +kernel⟩, List.mem_of_getElem? (i := 31) (by decide +kernel), List.mem_of_getElem? (i := 1451) (by decide +kernel), List.mem_of_getElem? (i := 1452) (by decide +kernel)⟩
theorem lw_p67 : lw_okq (⟨"GlacierMail", "reckonCame", "(I)V"⟩, 18) := ⟨⟨by decide +kernel, by decide +kernel⟩, List.mem_of_getElem? (i := 31) (by decide +kernel), List.mem_of_getElem? (i := 1455) (by decide +kernel), List.mem_of_getElem? (i := 1456) (by decide +kernel)⟩
theorem lw_p68 : lw_okq (⟨"GlacierMail", "bestNext", "(II)I"⟩, 18) := ⟨⟨by decide +kernel, by decide +kernel⟩, List.mem_of_getElem? (i := 31) (by decide +kernel), List.mem_of_getElem? (i := 1459) (by decide +kernel), List.mem_of_getElem? (i := 1460) (by decide +kernel)⟩
theorem lw_p69 : lw_okq (⟨"GlacierMail", "mostBeside", "(II)I"⟩, 18) := ⟨⟨by decide +kernel, by decide +kernel⟩, List.mem_of_getElem? (i := 31) (by decide +kernel), List.mem_of_getElem? (i := 1470) (by decide +kernel), List.mem_of_getElem? (i := 1471) (by decide +kernel)⟩
theorem lw_p70 : lw_okq (⟨"GlacierMailModel", "warms", "()V"⟩, 39) := ⟨⟨by decide +kernel, by decide +kernel⟩, List.mem_of_getElem? (i := 1528) (by decide +kernel), List.mem_of_getElem? (i := 1534) (by decide +kernel), List.mem_of_getElem? (i := 1535) (by decide +kernel)⟩
theorem lw_p71 : lw_okq (⟨"GlacierMailModel", "readAll", "(Z)I"⟩, 39) := ⟨⟨by decide +kernel, by decide +kernel⟩, List.mem_of_getElem? (i := 1528) (by decide +kernel), List.mem_of_getElem? (i := 1685) (by decide +kernel), List.mem_of_getElem? (i := 1686) (by decide +kernel)⟩
theorem lw_p72 : lw_okq (⟨"GlacierMailModel", "uses", "()V"⟩, 39) := ⟨⟨by decide +kernel, by decide +kernel⟩, List.mem_of_getElem? (i := 1528) (by decide +kernel), List.mem_of_getElem? (i := 1689) (by decide +kernel), List.mem_of_getElem? (i := 1690) (by decide +kernel)⟩
theorem lw_p73 : lw_okq (⟨"GlacierMailModel", "blanks", "()V"⟩, 39) := ⟨⟨by decide +kernel, by decide +kernel⟩, List.mem_of_getElem? (i := 1528) (by decide +kernel), List.mem_of_getElem? (i := 1693) (by decide +kernel), List.mem_of_getElem? (i := 1694) (by decide +kernel)⟩
theorem lw_p74 : lw_okq (⟨"GlacierMailModel", "isAt", "(II)Z"⟩, 39) := ⟨⟨by decide +kernel, by decide +kernel⟩, List.mem_of_getElem? (i := 1528) (by decide +kernel), List.mem_of_getElem? (i := 1697) (by decide +kernel), List.mem_of_getElem? (i := 1698) (by decide +kernel)⟩
theorem lw_p75 : lw_okq (⟨"GlacierMailModel", "readLine", "(ZI)Z"⟩, 39) := ⟨⟨by decide +kernel, by decide +kernel⟩, List.mem_of_getElem? (i := 1528) (by decide +kernel), List.mem_of_getElem? (i := 1701) (by decide +kernel), List.mem_of_getElem? (i := 1702) (by decide +kernel)⟩
theorem lw_p76 : lw_okq (⟨"GlacierMailModel", "letterRow", "()V"⟩, 39) := ⟨⟨by decide +kernel, by decide +kernel⟩, List.mem_of_getElem? (i := 1528) (by decide +kernel), List.mem_of_getElem? (i := 1705) (by decide +kernel), List.mem_of_getElem? (i := 1706) (by decide +kernel)⟩
theorem lw_p77 : lw_okq (⟨"GlacierMailModel", "readValleyLine", "()Z"⟩, 39) := ⟨⟨by decide +kernel, by decide +kernel⟩, List.mem_of_getElem? (i := 1528) (by decide +kernel), List.mem_of_getElem? (i := 1709) (by decide +kernel), List.mem_of_getElem? (i := 1710) (by decide +kernel)⟩
theorem lw_p78 : lw_okq (⟨"GlacierMailModel", "isWord", "(Ljava/lang/String;)Z"⟩, 39) := ⟨⟨by decide +kernel, by decide +kernel⟩, List.mem_of_getElem? (i := 1528) (by decide +kernel), List.mem_of_getElem? (i := 1714) (by decide +kernel), List.mem_of_getElem? (i := 1715) (by decide +kernel)⟩
theorem lw_p79 : lw_okq (⟨"GlacierMailModel", "readLanes", "()Z"⟩, 39) := ⟨⟨by decide +kernel, by decide +kernel⟩, List.mem_of_getElem? (i := 1528) (by decide +kernel), List.mem_of_getElem? (i := 1720) (by decide +kernel), List.mem_of_getElem? (i := 1721) (by decide +kernel)⟩
def lw_privs_5 : List (MethodName × Nat) := [(⟨"GlacierMail$Answers", "throwAgain", "(IIII)V"⟩, 4), (⟨"GlacierMail$Answers", "throwAhead", "(III)I"⟩, 4), (⟨"GlacierMail", "needThiefYears", "(I)V"⟩, 18), (⟨"GlacierMail", "reckonCame", "(I)V"⟩, 18), (⟨"GlacierMail", "bestNext", "(II)I"⟩, 18), (⟨"GlacierMail", "mostBeside", "(II)I"⟩, 18), (⟨"GlacierMailModel", "warms", "()V"⟩, 39), (⟨"GlacierMailModel", "readAll", "(Z)I"⟩, 39), (⟨"GlacierMailModel", "uses", "()V"⟩, 39), (⟨"GlacierMailModel", "blanks", "()V"⟩, 39), (⟨"GlacierMailModel", "isAt", "(II)Z"⟩, 39), (⟨"GlacierMailModel", "readLine", "(ZI)Z"⟩, 39), (⟨"GlacierMailModel", "letterRow", "()V"⟩, 39), (⟨"GlacierMailModel", "readValleyLine", "()Z"⟩, 39), (⟨"GlacierMailModel", "isWord", "(Ljava/lang/String;)Z"⟩, 39), (⟨"GlacierMailModel", "readLanes", "()Z"⟩, 39)]
theorem lw_r5 : ∀ q ∈ lw_privs_5, lw_okq q := List.forall_mem_cons.mpr ⟨lw_p64, List.forall_mem_cons.mpr ⟨lw_p65, List.forall_mem_cons.mpr ⟨lw_p66, List.forall_mem_cons.mpr ⟨lw_p67, List.forall_mem_cons.mpr ⟨lw_p68, List.forall_mem_cons.mpr ⟨lw_p69, List.forall_mem_cons.mpr ⟨lw_p70, List.forall_mem_cons.mpr ⟨lw_p71, List.forall_mem_cons.mpr ⟨lw_p72, List.forall_mem_cons.mpr ⟨lw_p73, List.forall_mem_cons.mpr ⟨lw_p74, List.forall_mem_cons.mpr ⟨lw_p75, List.forall_mem_cons.mpr ⟨lw_p76, List.forall_mem_cons.mpr ⟨lw_p77, List.forall_mem_cons.mpr ⟨lw_p78, List.forall_mem_cons.mpr ⟨lw_p79, fun _ h => absurd h List.not_mem_nil⟩⟩⟩⟩⟩⟩⟩⟩⟩⟩⟩⟩⟩⟩⟩⟩
theorem lw_p80 : lw_okq (⟨"GlacierMailModel", "isEmpty", "()Z"⟩, 39) := ⟨⟨by decide +kernel, by decide +kernel⟩, List.mem_of_getElem? (i := 1528) (by decide +kernel), List.mem_of_getElem? (i := 1724) (by decide +kernel), List.mem_of_getElem? (i := 1725) (by decide +kernel)⟩
theorem lw_p81 : lw_okq (⟨"GlacierMailModel", "people", "()I"⟩, 39) := ⟨⟨by decide +kernel, by decide +kernel⟩, List.mem_of_getElem? (i := 1528) (by decide +kernel), List.mem_of_getElem? (i := 1728) (by decide +kernel), List.mem_of_getElem? (i := 1729) (by decide +kernel)⟩
theorem lw_p82 : lw_okq (⟨"GlacierMailModel", "letters", "()I"⟩, 39) := ⟨⟨by decide +kernel, by decide +kernel⟩, List.mem_of_getElem? (i := 1528) (by decide +kernel), List.mem_of_getElem? (i := 1732) (by decide +kernel), List.mem_of_getElem? (i := 1733) (by decide +kernel)⟩
theorem lw_p83 : lw_okq (⟨"GlacierMailModel", "number", "(II)I"⟩, 39) := ⟨⟨by decide +kernel, by decide +kernel⟩, List.mem_of_getElem? (i := 1528) (by decide +kernel), List.mem_of_getElem? (i := 1736) (by decide +kernel), List.mem_of_getElem? (i := 1737) (by decide +kernel)⟩
theorem lw_p84 : lw_okq (⟨"GlacierMailModel", "figures", "(III)I"⟩, 39) := ⟨⟨by decide +kernel, by decide +kernel⟩, List.mem_of_getElem? (i := 1528) (by decide +kernel), List.mem_of_getElem? (i := 1740) (by decide +kernel), List.mem_of_getElem? (i := 1741) (by decide +kernel)⟩
theorem lw_p85 : lw_okq (⟨"GlacierMailModel", "readLast", "()Z"⟩, 39) := ⟨⟨by decide +kernel, by decide +kernel⟩, List.mem_of_getElem? (i := 1528) (by decide +kernel), List.mem_of_getElem? (i := 1745) (by decide +kernel), List.mem_of_getElem? (i := 1746) (by decide +kernel)⟩
theorem lw_p86 : lw_okq (⟨"GlacierMailModel", "readSection", "()Z"⟩, 39) := ⟨⟨by decide +kernel, by decide +kernel⟩, List.mem_of_getElem? (i := 1528) (by decide +kernel), List.mem_of_getElem? (i := 1750) (by decide +kernel), List.mem_of_getElem? (i := 1751) (by decide +kernel)⟩
theorem lw_p87 : lw_okq (⟨"GlacierMailModel", "lip", "()I"⟩, 39) := ⟨⟨by decide +kernel, by decide +kernel⟩, List.mem_of_getElem? (i := 1528) (by decide +kernel), List.mem_of_getElem? (i := 1754) (by decide +kernel), List.mem_of_getElem? (i := 1755) (by decide +kernel)⟩
theorem lw_p88 : lw_okq (⟨"GlacierMailModel", "readSpeeds", "(I)Z"⟩, 39) := ⟨⟨by decide +kernel, by decide +kernel⟩, List.mem_of_getElem? (i := 1528) (by decide +kernel), List.mem_of_getElem? (i := 1758) (by decide +kernel), List.mem_of_getElem? (i := 1759) (by decide +kernel)⟩
theorem lw_p89 : lw_okq (⟨"GlacierMailModel", "lanes", "()I"⟩, 39) := ⟨⟨by decide +kernel, by decide +kernel⟩, List.mem_of_getElem? (i := 1528) (by decide +kernel), List.mem_of_getElem? (i := 1762) (by decide +kernel), List.mem_of_getElem? (i := 1763) (by decide +kernel)⟩
theorem lw_p90 : lw_okq (⟨"GlacierMailModel", "readSnow", "()Z"⟩, 39) := ⟨⟨by decide +kernel, by decide +kernel⟩, List.mem_of_getElem? (i := 1528) (by decide +kernel), List.mem_of_getElem? (i := 1767) (by decide +kernel), List.mem_of_getElem? (i := 1768) (by decide +kernel)⟩
theorem lw_p91 : lw_okq (⟨"GlacierMailModel", "rowTold", "()I"⟩, 39) := ⟨⟨by decide +kernel, by decide +kernel⟩, List.mem_of_getElem? (i := 1528) (by decide +kernel), List.mem_of_getElem? (i := 1771) (by decide +kernel), List.mem_of_getElem? (i := 1772) (by decide +kernel)⟩
theorem lw_p92 : lw_okq (⟨"GlacierMailModel", "after", "(Ljava/lang/String;II)I"⟩, 39) := ⟨⟨by decide +kernel, by decide +kernel⟩, List.mem_of_getElem? (i := 1528) (by decide +kernel), List.mem_of_getElem? (i := 1776) (by decide +kernel), List.mem_of_getElem? (i := 1777) (by decide +kernel)⟩
theorem lw_p93 : lw_okq (⟨"GlacierMailModel", "readFlood", "()Z"⟩, 39) := ⟨⟨by decide +kernel, by decide +kernel⟩, List.mem_of_getElem? (i := 1528) (by decide +kernel), List.mem_of_getElem? (i := 1781) (by decide +kernel), List.mem_of_getElem? (i := 1782) (by decide +kernel)⟩
theorem lw_p94 : lw_okq (⟨"GlacierMailModel", "now", "()I"⟩, 39) := ⟨⟨by decide +kernel, by decide +kernel⟩, List.mem_of_getElem? (i := 1528) (by decide +kernel), List.mem_of_getElem? (i := 1785) (by decide +kernel), List.mem_of_getElem? (i := 1786) (by decide +kernel)⟩
theorem lw_p95 : lw_okq (⟨"GlacierMailModel", "readPerson", "()Z"⟩, 39) := ⟨⟨by decide +kernel, by decide +kernel⟩, List.mem_of_getElem? (i := 1528) (by decide +kernel), List.mem_of_getElem? (i := 1790) (by decide +kernel), List.mem_of_getElem? (i := 1791) (by decide +kernel)⟩
def lw_privs_6 : List (MethodName × Nat) := [(⟨"GlacierMailModel", "isEmpty", "()Z"⟩, 39), (⟨"GlacierMailModel", "people", "()I"⟩, 39), (⟨"GlacierMailModel", "letters", "()I"⟩, 39), (⟨"GlacierMailModel", "number", "(II)I"⟩, 39), (⟨"GlacierMailModel", "figures", "(III)I"⟩, 39), (⟨"GlacierMailModel", "readLast", "()Z"⟩, 39), (⟨"GlacierMailModel", "readSection", "()Z"⟩, 39), (⟨"GlacierMailModel", "lip", "()I"⟩, 39), (⟨"GlacierMailModel", "readSpeeds", "(I)Z"⟩, 39), (⟨"GlacierMailModel", "lanes", "()I"⟩, 39), (⟨"GlacierMailModel", "readSnow", "()Z"⟩, 39), (⟨"GlacierMailModel", "rowTold", "()I"⟩, 39), (⟨"GlacierMailModel", "after", "(Ljava/lang/String;II)I"⟩, 39), (⟨"GlacierMailModel", "readFlood", "()Z"⟩, 39), (⟨"GlacierMailModel", "now", "()I"⟩, 39), (⟨"GlacierMailModel", "readPerson", "()Z"⟩, 39)]
theorem lw_r6 : ∀ q ∈ lw_privs_6, lw_okq q := List.forall_mem_cons.mpr ⟨lw_p80, List.forall_mem_cons.mpr ⟨lw_p81, List.forall_mem_cons.mpr ⟨lw_p82, List.forall_mem_cons.mpr ⟨lw_p83, List.forall_mem_cons.mpr ⟨lw_p84, List.forall_mem_cons.mpr ⟨lw_p85, List.forall_mem_cons.mpr ⟨lw_p86, List.forall_mem_cons.mpr ⟨lw_p87, List.forall_mem_cons.mpr ⟨lw_p88, List.forall_mem_cons.mpr ⟨lw_p89, List.forall_mem_cons.mpr ⟨lw_p90, List.forall_mem_cons.mpr ⟨lw_p91, List.forall_mem_cons.mpr ⟨lw_p92, List.forall_mem_cons.mpr ⟨lw_p93, List.forall_mem_cons.mpr ⟨lw_p94, List.forall_mem_cons.mpr ⟨lw_p95, fun _ h => absurd h List.not_mem_nil⟩⟩⟩⟩⟩⟩⟩⟩⟩⟩⟩⟩⟩⟩⟩⟩
theorem lw_p96 : lw_okq (⟨"GlacierMailModel", "laneTold", "()I"⟩, 39) := ⟨⟨by decide +kernel, by decide +kernel⟩, List.mem_of_getElem? (i := 1528) (by decide +kernel), List.mem_of_getElem? (i := 1794) (by decide +kernel), List.mem_of_getElem? (i := 1795) (by decide +kernel)⟩
theorem lw_p97 : lw_okq (⟨"GlacierMailModel", "isNext", "(Ljava/lang/String;)Z"⟩, 39) := ⟨⟨by decide +kernel, by decide +kernel⟩, List.mem_of_getElem? (i := 1528) (by decide +kernel), List.mem_of_getElem? (i := 1799) (by decide +kernel), List.mem_of_getElem? (i := 1800) (by decide +kernel)⟩
theorem lw_p98 : lw_okq (⟨"GlacierMailModel", "readRock", "()Z"⟩, 39) := ⟨⟨by decide +kernel, by decide +kernel⟩, List.mem_of_getElem? (i := 1528) (by decide +kernel), List.mem_of_getElem? (i := 1804) (by decide +kernel), List.mem_of_getElem? (i := 1805) (by decide +kernel)⟩
theorem lw_p99 : lw_okq (⟨"GlacierMailModel", "throwsIn", "(IIII)V"⟩, 39) := ⟨⟨by decide +kernel, by decide +kernel⟩, List.mem_of_getElem? (i := 1528) (by decide +kernel), List.mem_of_getElem? (i := 1808) (by decide +kernel), List.mem_of_getElem? (i := 1809) (by decide +kernel)⟩
theorem lw_p100 : lw_okq (⟨"GlacierMailModel", "setsLetter", "(III)V"⟩, 39) := ⟨⟨by decide +kernel, by decide +kernel⟩, List.mem_of_getElem? (i := 1528) (by decide +kernel), List.mem_of_getElem? (i := 1812) (by decide +kernel), List.mem_of_getElem? (i := 1813) (by decide +kernel)⟩
theorem lw_p101 : lw_okq (⟨"GlacierMailModel", "readTable", "()Z"⟩, 39) := ⟨⟨by decide +kernel, by decide +kernel⟩, List.mem_of_getElem? (i := 1528) (by decide +kernel), List.mem_of_getElem? (i := 1817) (by decide +kernel), List.mem_of_getElem? (i := 1818) (by decide +kernel)⟩
theorem lw_p102 : lw_okq (⟨"GlacierMailModel", "readLawLine", "(I)Z"⟩, 39) := ⟨⟨by decide +kernel, by decide +kernel⟩, List.mem_of_getElem? (i := 1528) (by decide +kernel), List.mem_of_getElem? (i := 1823) (by decide +kernel), List.mem_of_getElem? (i := 1824) (by decide +kernel)⟩
theorem lw_p103 : lw_okq (⟨"GlacierMailModel", "readCond", "()Z"⟩, 39) := ⟨⟨by decide +kernel, by decide +kernel⟩, List.mem_of_getElem? (i := 1528) (by decide +kernel), List.mem_of_getElem? (i := 1831) (by decide +kernel), List.mem_of_getElem? (i := 1832) (by decide +kernel)⟩
theorem lw_p104 : lw_okq (⟨"GlacierMailModel", "readAllOf", "()Z"⟩, 39) := ⟨⟨by decide +kernel, by decide +kernel⟩, List.mem_of_getElem? (i := 1528) (by decide +kernel), List.mem_of_getElem? (i := 1835) (by decide +kernel), List.mem_of_getElem? (i := 1836) (by decide +kernel)⟩
theorem lw_p105 : lw_okq (⟨"GlacierMailModel", "readAtom", "()Z"⟩, 39) := ⟨⟨by decide +kernel, by decide +kernel⟩, List.mem_of_getElem? (i := 1528) (by decide +kernel), List.mem_of_getElem? (i := 1839) (by decide +kernel), List.mem_of_getElem? (i := 1840) (by decide +kernel)⟩
theorem lw_p106 : lw_okq (⟨"GlacierMailModel", "sign", "(I)Z"⟩, 39) := ⟨⟨by decide +kernel, by decide +kernel⟩, List.mem_of_getElem? (i := 1528) (by decide +kernel), List.mem_of_getElem? (i := 1843) (by decide +kernel), List.mem_of_getElem? (i := 1844) (by decide +kernel)⟩
theorem lw_p107 : lw_okq (⟨"GlacierMailModel", "emits", "(II)V"⟩, 39) := ⟨⟨by decide +kernel, by decide +kernel⟩, List.mem_of_getElem? (i := 1528) (by decide +kernel), List.mem_of_getElem? (i := 1848) (by decide +kernel), List.mem_of_getElem? (i := 1849) (by decide +kernel)⟩
theorem lw_p108 : lw_okq (⟨"GlacierMailModel", "readSum", "()Z"⟩, 39) := ⟨⟨by decide +kernel, by decide +kernel⟩, List.mem_of_getElem? (i := 1528) (by decide +kernel), List.mem_of_getElem? (i := 1854) (by decide +kernel), List.mem_of_getElem? (i := 1855) (by decide +kernel)⟩
theorem lw_p109 : lw_okq (⟨"GlacierMailModel", "readPart", "()Z"⟩, 39) := ⟨⟨by decide +kernel, by decide +kernel⟩, List.mem_of_getElem? (i := 1528) (by decide +kernel), List.mem_of_getElem? (i := 1858) (by decide +kernel), List.mem_of_getElem? (i := 1859) (by decide +kernel)⟩
theorem lw_p110 : lw_okq (⟨"GlacierMailModel", "throwsIf", "(ZI)Z"⟩, 39) := ⟨⟨by decide +kernel, by decide +kernel⟩, List.mem_of_getElem? (i := 1528) (by decide +kernel), List.mem_of_getElem? (i := 1871) (by decide +kernel), List.mem_of_getElem? (i := 1872) (by decide +kernel)⟩
theorem lw_p111 : lw_okq (⟨"GlacierMailModel", "noLane", "(I)Z"⟩, 39) := ⟨⟨by decide +kernel, by decide +kernel⟩, List.mem_of_getElem? (i := 1528) (by decide +kernel), List.mem_of_getElem? (i := 1893) (by decide +kernel), List.mem_of_getElem? (i := 1894) (by decide +kernel)⟩
def lw_privs_7 : List (MethodName × Nat) := [(⟨"GlacierMailModel", "laneTold", "()I"⟩, 39), (⟨"GlacierMailModel", "isNext", "(Ljava/lang/String;)Z"⟩, 39), (⟨"GlacierMailModel", "readRock", "()Z"⟩, 39), (⟨"GlacierMailModel", "throwsIn", "(IIII)V"⟩, 39), (⟨"GlacierMailModel", "setsLetter", "(III)V"⟩, 39), (⟨"GlacierMailModel", "readTable", "()Z"⟩, 39), (⟨"GlacierMailModel", "readLawLine", "(I)Z"⟩, 39), (⟨"GlacierMailModel", "readCond", "()Z"⟩, 39), (⟨"GlacierMailModel", "readAllOf", "()Z"⟩, 39), (⟨"GlacierMailModel", "readAtom", "()Z"⟩, 39), (⟨"GlacierMailModel", "sign", "(I)Z"⟩, 39), (⟨"GlacierMailModel", "emits", "(II)V"⟩, 39), (⟨"GlacierMailModel", "readSum", "()Z"⟩, 39), (⟨"GlacierMailModel", "readPart", "()Z"⟩, 39), (⟨"GlacierMailModel", "throwsIf", "(ZI)Z"⟩, 39), (⟨"GlacierMailModel", "noLane", "(I)Z"⟩, 39)]
theorem lw_r7 : ∀ q ∈ lw_privs_7, lw_okq q := List.forall_mem_cons.mpr ⟨lw_p96, List.forall_mem_cons.mpr ⟨lw_p97, List.forall_mem_cons.mpr ⟨lw_p98, List.forall_mem_cons.mpr ⟨lw_p99, List.forall_mem_cons.mpr ⟨lw_p100, List.forall_mem_cons.mpr ⟨lw_p101, List.forall_mem_cons.mpr ⟨lw_p102, List.forall_mem_cons.mpr ⟨lw_p103, List.forall_mem_cons.mpr ⟨lw_p104, List.forall_mem_cons.mpr ⟨lw_p105, List.forall_mem_cons.mpr ⟨lw_p106, List.forall_mem_cons.mpr ⟨lw_p107, List.forall_mem_cons.mpr ⟨lw_p108, List.forall_mem_cons.mpr ⟨lw_p109, List.forall_mem_cons.mpr ⟨lw_p110, List.forall_mem_cons.mpr ⟨lw_p111, fun _ h => absurd h List.not_mem_nil⟩⟩⟩⟩⟩⟩⟩⟩⟩⟩⟩⟩⟩⟩⟩⟩
theorem lw_p112 : lw_okq (⟨"GlacierMailModel", "noRow", "(I)Z"⟩, 39) := ⟨⟨by decide +kernel, by decide +kernel⟩, List.mem_of_getElem? (i := 1528) (by decide +kernel), List.mem_of_getElem? (i := 1897) (by decide +kernel), List.mem_of_getElem? (i := 1898) (by decide +kernel)⟩
theorem lw_p113 : lw_okq (⟨"GlacierMailModel", "speedAt", "(II)I"⟩, 39) := ⟨⟨by decide +kernel, by decide +kernel⟩, List.mem_of_getElem? (i := 1528) (by decide +kernel), List.mem_of_getElem? (i := 1901) (by decide +kernel), List.mem_of_getElem? (i := 1902) (by decide +kernel)⟩
theorem lw_p114 : lw_okq (⟨"GlacierMailModel", "flowAt", "(III)I"⟩, 39) := ⟨⟨by decide +kernel, by decide +kernel⟩, List.mem_of_getElem? (i := 1528) (by decide +kernel), List.mem_of_getElem? (i := 1909) (by decide +kernel), List.mem_of_getElem? (i := 1910) (by decide +kernel)⟩
theorem lw_p115 : lw_okq (⟨"GlacierMailModel", "turnsTo", "(I)V"⟩, 39) := ⟨⟨by decide +kernel, by decide +kernel⟩, List.mem_of_getElem? (i := 1528) (by decide +kernel), List.mem_of_getElem? (i := 1913) (by decide +kernel), List.mem_of_getElem? (i := 1914) (by decide +kernel)⟩
theorem lw_p116 : lw_okq (⟨"GlacierMailModel", "sumOf", "(I)I"⟩, 39) := ⟨⟨by decide +kernel, by decide +kernel⟩, List.mem_of_getElem? (i := 1528) (by decide +kernel), List.mem_of_getElem? (i := 1917) (by decide +kernel), List.mem_of_getElem? (i := 1918) (by decide +kernel)⟩
theorem lw_p117 : lw_okq (⟨"GlacierMailModel", "holdsLine", "(I)Z"⟩, 39) := ⟨⟨by decide +kernel, by decide +kernel⟩, List.mem_of_getElem? (i := 1528) (by decide +kernel), List.mem_of_getElem? (i := 1921) (by decide +kernel), List.mem_of_getElem? (i := 1922) (by decide +kernel)⟩
theorem lw_p118 : lw_okq (⟨"GlacierMailModel", "factOf", "(II)I"⟩, 39) := ⟨⟨by decide +kernel, by decide +kernel⟩, List.mem_of_getElem? (i := 1528) (by decide +kernel), List.mem_of_getElem? (i := 1925) (by decide +kernel), List.mem_of_getElem? (i := 1926) (by decide +kernel)⟩
theorem lw_p119 : lw_okq (⟨"GlacierMailModel", "noPerson", "(I)Z"⟩, 39) := ⟨⟨by decide +kernel, by decide +kernel⟩, List.mem_of_getElem? (i := 1528) (by decide +kernel), List.mem_of_getElem? (i := 1935) (by decide +kernel), List.mem_of_getElem? (i := 1936) (by decide +kernel)⟩
theorem lw_p120 : lw_okq (⟨"GlacierMailModel", "of", "(II)I"⟩, 39) := ⟨⟨by decide +kernel, by decide +kernel⟩, List.mem_of_getElem? (i := 1528) (by decide +kernel), List.mem_of_getElem? (i := 1939) (by decide +kernel), List.mem_of_getElem? (i := 1940) (by decide +kernel)⟩
theorem lw_p121 : lw_okq (⟨"GlacierMailModel", "countOf", "(II)I"⟩, 39) := ⟨⟨by decide +kernel, by decide +kernel⟩, List.mem_of_getElem? (i := 1528) (by decide +kernel), List.mem_of_getElem? (i := 1943) (by decide +kernel), List.mem_of_getElem? (i := 1944) (by decide +kernel)⟩
theorem lw_p122 : lw_okq (⟨"GlacierMailModel", "ofLetter", "(II)I"⟩, 39) := ⟨⟨by decide +kernel, by decide +kernel⟩, List.mem_of_getElem? (i := 1528) (by decide +kernel), List.mem_of_getElem? (i := 1947) (by decide +kernel), List.mem_of_getElem? (i := 1948) (by decide +kernel)⟩
theorem lw_p123 : lw_okq (⟨"GlacierMailModel", "isWaiting", "(I)Z"⟩, 39) := ⟨⟨by decide +kernel, by decide +kernel⟩, List.mem_of_getElem? (i := 1528) (by decide +kernel), List.mem_of_getElem? (i := 1951) (by decide +kernel), List.mem_of_getElem? (i := 1952) (by decide +kernel)⟩
theorem lw_p124 : lw_okq (⟨"GlacierMailModel", "isRock", "(I)Z"⟩, 39) := ⟨⟨by decide +kernel, by decide +kernel⟩, List.mem_of_getElem? (i := 1528) (by decide +kernel), List.mem_of_getElem? (i := 1955) (by decide +kernel), List.mem_of_getElem? (i := 1956) (by decide +kernel)⟩
theorem lw_p125 : lw_okq (⟨"GlacierMailModel", "outOf", "(I)I"⟩, 39) := ⟨⟨by decide +kernel, by decide +kernel⟩, List.mem_of_getElem? (i := 1528) (by decide +kernel), List.mem_of_getElem? (i := 1959) (by decide +kernel), List.mem_of_getElem? (i := 1960) (by decide +kernel)⟩
theorem lw_p126 : lw_okq (⟨"GlacierMailModel", "runsLetter", "(II)V"⟩, 39) := ⟨⟨by decide +kernel, by decide +kernel⟩, List.mem_of_getElem? (i := 1528) (by decide +kernel), List.mem_of_getElem? (i := 1963) (by decide +kernel), List.mem_of_getElem? (i := 1964) (by decide +kernel)⟩
theorem lw_p127 : lw_okq (⟨"GlacierMailModel", "runs", "(IIIZI)V"⟩, 39) := ⟨⟨by decide +kernel, by decide +kernel⟩, List.mem_of_getElem? (i := 1528) (by decide +kernel), List.mem_of_getElem? (i := 1967) (by decide +kernel), List.mem_of_getElem? (i := 1968) (by decide +kernel)⟩
def lw_privs_8 : List (MethodName × Nat) := [(⟨"GlacierMailModel", "noRow", "(I)Z"⟩, 39), (⟨"GlacierMailModel", "speedAt", "(II)I"⟩, 39), (⟨"GlacierMailModel", "flowAt", "(III)I"⟩, 39), (⟨"GlacierMailModel", "turnsTo", "(I)V"⟩, 39), (⟨"GlacierMailModel", "sumOf", "(I)I"⟩, 39), (⟨"GlacierMailModel", "holdsLine", "(I)Z"⟩, 39), (⟨"GlacierMailModel", "factOf", "(II)I"⟩, 39), (⟨"GlacierMailModel", "noPerson", "(I)Z"⟩, 39), (⟨"GlacierMailModel", "of", "(II)I"⟩, 39), (⟨"GlacierMailModel", "countOf", "(II)I"⟩, 39), (⟨"GlacierMailModel", "ofLetter", "(II)I"⟩, 39), (⟨"GlacierMailModel", "isWaiting", "(I)Z"⟩, 39), (⟨"GlacierMailModel", "isRock", "(I)Z"⟩, 39), (⟨"GlacierMailModel", "outOf", "(I)I"⟩, 39), (⟨"GlacierMailModel", "runsLetter", "(II)V"⟩, 39), (⟨"GlacierMailModel", "runs", "(IIIZI)V"⟩, 39)]
theorem lw_r8 : ∀ q ∈ lw_privs_8, lw_okq q := List.forall_mem_cons.mpr ⟨lw_p112, List.forall_mem_cons.mpr ⟨lw_p113, List.forall_mem_cons.mpr ⟨lw_p114, List.forall_mem_cons.mpr ⟨lw_p115, List.forall_mem_cons.mpr ⟨lw_p116, List.forall_mem_cons.mpr ⟨lw_p117, List.forall_mem_cons.mpr ⟨lw_p118, List.forall_mem_cons.mpr ⟨lw_p119, List.forall_mem_cons.mpr ⟨lw_p120, List.forall_mem_cons.mpr ⟨lw_p121, List.forall_mem_cons.mpr ⟨lw_p122, List.forall_mem_cons.mpr ⟨lw_p123, List.forall_mem_cons.mpr ⟨lw_p124, List.forall_mem_cons.mpr ⟨lw_p125, List.forall_mem_cons.mpr ⟨lw_p126, List.forall_mem_cons.mpr ⟨lw_p127, fun _ h => absurd h List.not_mem_nil⟩⟩⟩⟩⟩⟩⟩⟩⟩⟩⟩⟩⟩⟩⟩⟩
theorem lw_p128 : lw_okq (⟨"GlacierMailModel", "floods", "(III)I"⟩, 39) := ⟨⟨by decide +kernel, by decide +kernel⟩, List.mem_of_getElem? (i := 1528) (by decide +kernel), List.mem_of_getElem? (i := 1971) (by decide +kernel), List.mem_of_getElem? (i := 1972) (by decide +kernel)⟩
theorem lw_p129 : lw_okq (⟨"GlacierMailModel", "noLetter", "(I)Z"⟩, 39) := ⟨⟨by decide +kernel, by decide +kernel⟩, List.mem_of_getElem? (i := 1528) (by decide +kernel), List.mem_of_getElem? (i := 1979) (by decide +kernel), List.mem_of_getElem? (i := 1980) (by decide +kernel)⟩
theorem lw_p130 : lw_okq (⟨"GlacierMailModel", "bareFrom", "(I)I"⟩, 39) := ⟨⟨by decide +kernel, by decide +kernel⟩, List.mem_of_getElem? (i := 1528) (by decide +kernel), List.mem_of_getElem? (i := 1983) (by decide +kernel), List.mem_of_getElem? (i := 1984) (by decide +kernel)⟩
theorem lw_p131 : lw_okq (⟨"GlacierMailModel", "isBare", "(II)Z"⟩, 39) := ⟨⟨by decide +kernel, by decide +kernel⟩, List.mem_of_getElem? (i := 1528) (by decide +kernel), List.mem_of_getElem? (i := 1987) (by decide +kernel), List.mem_of_getElem? (i := 1988) (by decide +kernel)⟩
theorem lw_p132 : lw_okq (⟨"GlacierMailModel", "isInIce", "(I)Z"⟩, 39) := ⟨⟨by decide +kernel, by decide +kernel⟩, List.mem_of_getElem? (i := 1528) (by decide +kernel), List.mem_of_getElem? (i := 1991) (by decide +kernel), List.mem_of_getElem? (i := 1992) (by decide +kernel)⟩
theorem lw_p133 : lw_okq (⟨"GlacierMailModel", "remembers", "()V"⟩, 39) := ⟨⟨by decide +kernel, by decide +kernel⟩, List.mem_of_getElem? (i := 1528) (by decide +kernel), List.mem_of_getElem? (i := 2007) (by decide +kernel), List.mem_of_getElem? (i := 2008) (by decide +kernel)⟩
theorem lw_p134 : lw_okq (⟨"GlacierMailModel", "opens", "(II)V"⟩, 39) := ⟨⟨by decide +kernel, by decide +kernel⟩, List.mem_of_getElem? (i := 1528) (by decide +kernel), List.mem_of_getElem? (i := 2019) (by decide +kernel), List.mem_of_getElem? (i := 2020) (by decide +kernel)⟩
theorem lw_p135 : lw_okq (⟨"GlacierMailModel", "year", "()I"⟩, 39) := ⟨⟨by decide +kernel, by decide +kernel⟩, List.mem_of_getElem? (i := 1528) (by decide +kernel), List.mem_of_getElem? (i := 2027) (by decide +kernel), List.mem_of_getElem? (i := 2028) (by decide +kernel)⟩
theorem lw_p136 : lw_okq (⟨"GlacierMailModel", "opener", "(I)I"⟩, 39) := ⟨⟨by decide +kernel, by decide +kernel⟩, List.mem_of_getElem? (i := 1528) (by decide +kernel), List.mem_of_getElem? (i := 2031) (by decide +kernel), List.mem_of_getElem? (i := 2032) (by decide +kernel)⟩
theorem lw_p137 : lw_okq (⟨"GlacierMailModel", "mayOpen", "(II)Z"⟩, 39) := ⟨⟨by decide +kernel, by decide +kernel⟩, List.mem_of_getElem? (i := 1528) (by decide +kernel), List.mem_of_getElem? (i := 2035) (by decide +kernel), List.mem_of_getElem? (i := 2036) (by decide +kernel)⟩
theorem lw_p138 : lw_okq (⟨"GlacierMailModel", "outFrom", "(III)I"⟩, 39) := ⟨⟨by decide +kernel, by decide +kernel⟩, List.mem_of_getElem? (i := 1528) (by decide +kernel), List.mem_of_getElem? (i := 2043) (by decide +kernel), List.mem_of_getElem? (i := 2044) (by decide +kernel)⟩
theorem lw_p139 : lw_okq (⟨"GlacierMailModel", "outsAll", "()V"⟩, 39) := ⟨⟨by decide +kernel, by decide +kernel⟩, List.mem_of_getElem? (i := 1528) (by decide +kernel), List.mem_of_getElem? (i := 2071) (by decide +kernel), List.mem_of_getElem? (i := 2072) (by decide +kernel)⟩
theorem lw_p140 : lw_okq (⟨"GlacierMailModel", "outsIn", "(IIZ)I"⟩, 39) := ⟨⟨by decide +kernel, by decide +kernel⟩, List.mem_of_getElem? (i := 1528) (by decide +kernel), List.mem_of_getElem? (i := 2075) (by decide +kernel), List.mem_of_getElem? (i := 2076) (by decide +kernel)⟩
theorem lw_p141 : lw_okq (⟨"GlacierMailModel", "keepsRows", "()V"⟩, 39) := ⟨⟨by decide +kernel, by decide +kernel⟩, List.mem_of_getElem? (i := 1528) (by decide +kernel), List.mem_of_getElem? (i := 2083) (by decide +kernel), List.mem_of_getElem? (i := 2084) (by decide +kernel)⟩
theorem lw_p142 : lw_okq (⟨"GlacierMailModel", "isPassing", "(I)Z"⟩, 39) := ⟨⟨by decide +kernel, by decide +kernel⟩, List.mem_of_getElem? (i := 1528) (by decide +kernel), List.mem_of_getElem? (i := 2087) (by decide +kernel), List.mem_of_getElem? (i := 2088) (by decide +kernel)⟩
theorem lw_p143 : lw_okq (⟨"GlacierMailModel", "isOtherInIce", "(I)Z"⟩, 39) := ⟨⟨by decide +kernel, by decide +kernel⟩, List.mem_of_getElem? (i := 1528) (by decide +kernel), List.mem_of_getElem? (i := 2091) (by decide +kernel), List.mem_of_getElem? (i := 2092) (by decide +kernel)⟩
def lw_privs_9 : List (MethodName × Nat) := [(⟨"GlacierMailModel", "floods", "(III)I"⟩, 39), (⟨"GlacierMailModel", "noLetter", "(I)Z"⟩, 39), (⟨"GlacierMailModel", "bareFrom", "(I)I"⟩, 39), (⟨"GlacierMailModel", "isBare", "(II)Z"⟩, 39), (⟨"GlacierMailModel", "isInIce", "(I)Z"⟩, 39), (⟨"GlacierMailModel", "remembers", "()V"⟩, 39), (⟨"GlacierMailModel", "opens", "(II)V"⟩, 39), (⟨"GlacierMailModel", "year", "()I"⟩, 39), (⟨"GlacierMailModel", "opener", "(I)I"⟩, 39), (⟨"GlacierMailModel", "mayOpen", "(II)Z"⟩, 39), (⟨"GlacierMailModel", "outFrom", "(III)I"⟩, 39), (⟨"GlacierMailModel", "outsAll", "()V"⟩, 39), (⟨"GlacierMailModel", "outsIn", "(IIZ)I"⟩, 39), (⟨"GlacierMailModel", "keepsRows", "()V"⟩, 39), (⟨"GlacierMailModel", "isPassing", "(I)Z"⟩, 39), (⟨"GlacierMailModel", "isOtherInIce", "(I)Z"⟩, 39)]
theorem lw_r9 : ∀ q ∈ lw_privs_9, lw_okq q := List.forall_mem_cons.mpr ⟨lw_p128, List.forall_mem_cons.mpr ⟨lw_p129, List.forall_mem_cons.mpr ⟨lw_p130, List.forall_mem_cons.mpr ⟨lw_p131, List.forall_mem_cons.mpr ⟨lw_p132, List.forall_mem_cons.mpr ⟨lw_p133, List.forall_mem_cons.mpr ⟨lw_p134, List.forall_mem_cons.mpr ⟨lw_p135, List.forall_mem_cons.mpr ⟨lw_p136, List.forall_mem_cons.mpr ⟨lw_p137, List.forall_mem_cons.mpr ⟨lw_p138, List.forall_mem_cons.mpr ⟨lw_p139, List.forall_mem_cons.mpr ⟨lw_p140, List.forall_mem_cons.mpr ⟨lw_p141, List.forall_mem_cons.mpr ⟨lw_p142, List.forall_mem_cons.mpr ⟨lw_p143, fun _ h => absurd h List.not_mem_nil⟩⟩⟩⟩⟩⟩⟩⟩⟩⟩⟩⟩⟩⟩⟩⟩
theorem lw_p144 : lw_okq (⟨"GlacierMailModel", "wroteIn", "(IIII)I"⟩, 39) := ⟨⟨by decide +kernel, by decide +kernel⟩, List.mem_of_getElem? (i := 1528) (by decide +kernel), List.mem_of_getElem? (i := 2099) (by decide +kernel), List.mem_of_getElem? (i := 2100) (by decide +kernel)⟩
theorem lw_p145 : lw_okq (⟨"GlacierMailModel", "noTable", "(I)Z"⟩, 39) := ⟨⟨by decide +kernel, by decide +kernel⟩, List.mem_of_getElem? (i := 1528) (by decide +kernel), List.mem_of_getElem? (i := 2111) (by decide +kernel), List.mem_of_getElem? (i := 2112) (by decide +kernel)⟩
theorem lw_p146 : lw_okq (⟨"GlacierMailModel", "ofTable", "(II)I"⟩, 39) := ⟨⟨by decide +kernel, by decide +kernel⟩, List.mem_of_getElem? (i := 1528) (by decide +kernel), List.mem_of_getElem? (i := 2115) (by decide +kernel), List.mem_of_getElem? (i := 2116) (by decide +kernel)⟩
theorem lw_p147 : lw_okq (⟨"GlacierMailModel", "areApart", "(III)Z"⟩, 39) := ⟨⟨by decide +kernel, by decide +kernel⟩, List.mem_of_getElem? (i := 1528) (by decide +kernel), List.mem_of_getElem? (i := 2123) (by decide +kernel), List.mem_of_getElem? (i := 2124) (by decide +kernel)⟩
theorem lw_p148 : lw_okq (⟨"GlacierMailModel", "answers", "(I)V"⟩, 39) := ⟨⟨by decide +kernel, by decide +kernel⟩, List.mem_of_getElem? (i := 1528) (by decide +kernel), List.mem_of_getElem? (i := 2143) (by decide +kernel), List.mem_of_getElem? (i := 2144) (by decide +kernel)⟩
theorem lw_p149 : lw_okq (⟨"GlacierMailModel", "isWatching", "(II)Z"⟩, 39) := ⟨⟨by decide +kernel, by decide +kernel⟩, List.mem_of_getElem? (i := 1528) (by decide +kernel), List.mem_of_getElem? (i := 2150) (by decide +kernel), List.mem_of_getElem? (i := 2151) (by decide +kernel)⟩
theorem lw_p150 : lw_okq (⟨"GlacierMailModel", "hasIn", "(I)I"⟩, 39) := ⟨⟨by decide +kernel, by decide +kernel⟩, List.mem_of_getElem? (i := 1528) (by decide +kernel), List.mem_of_getElem? (i := 2154) (by decide +kernel), List.mem_of_getElem? (i := 2155) (by decide +kernel)⟩
theorem lw_p151 : lw_okq (⟨"GlacierMailModel", "thrower", "(III)I"⟩, 39) := ⟨⟨by decide +kernel, by decide +kernel⟩, List.mem_of_getElem? (i := 1528) (by decide +kernel), List.mem_of_getElem? (i := 2162) (by decide +kernel), List.mem_of_getElem? (i := 2163) (by decide +kernel)⟩
theorem lw_p152 : lw_okq (⟨"GlacierMailModel", "steals", "(I)V"⟩, 39) := ⟨⟨by decide +kernel, by decide +kernel⟩, List.mem_of_getElem? (i := 1528) (by decide +kernel), List.mem_of_getElem? (i := 2174) (by decide +kernel), List.mem_of_getElem? (i := 2175) (by decide +kernel)⟩
def lw_privs_10 : List (MethodName × Nat) := [(⟨"GlacierMailModel", "wroteIn", "(IIII)I"⟩, 39), (⟨"GlacierMailModel", "noTable", "(I)Z"⟩, 39), (⟨"GlacierMailModel", "ofTable", "(II)I"⟩, 39), (⟨"GlacierMailModel", "areApart", "(III)Z"⟩, 39), (⟨"GlacierMailModel", "answers", "(I)V"⟩, 39), (⟨"GlacierMailModel", "isWatching", "(II)Z"⟩, 39), (⟨"GlacierMailModel", "hasIn", "(I)I"⟩, 39), (⟨"GlacierMailModel", "thrower", "(III)I"⟩, 39), (⟨"GlacierMailModel", "steals", "(I)V"⟩, 39)]
theorem lw_r10 : ∀ q ∈ lw_privs_10, lw_okq q := List.forall_mem_cons.mpr ⟨lw_p144, List.forall_mem_cons.mpr ⟨lw_p145, List.forall_mem_cons.mpr ⟨lw_p146, List.forall_mem_cons.mpr ⟨lw_p147, List.forall_mem_cons.mpr ⟨lw_p148, List.forall_mem_cons.mpr ⟨lw_p149, List.forall_mem_cons.mpr ⟨lw_p150, List.forall_mem_cons.mpr ⟨lw_p151, List.forall_mem_cons.mpr ⟨lw_p152, fun _ h => absurd h List.not_mem_nil⟩⟩⟩⟩⟩⟩⟩⟩⟩
def lw_privs : List (MethodName × Nat) := lw_privs_1 ++ (lw_privs_2 ++ (lw_privs_3 ++ (lw_privs_4 ++ (lw_privs_5 ++ (lw_privs_6 ++ (lw_privs_7 ++ (lw_privs_8 ++ (lw_privs_9 ++ (lw_privs_10)))))))))
def lw_tbl : List Cond := k2_sels lw_privs ++ tables_1
theorem lw_privs_ok : ∀ q ∈ lw_privs, lw_okq q := by
  show ∀ q ∈ lw_privs_1 ++ (lw_privs_2 ++ (lw_privs_3 ++ (lw_privs_4 ++ (lw_privs_5 ++ (lw_privs_6 ++ (lw_privs_7 ++ (lw_privs_8 ++ (lw_privs_9 ++ (lw_privs_10))))))))), lw_okq q
  exact List.forall_mem_append.mpr ⟨lw_r1, List.forall_mem_append.mpr ⟨lw_r2, List.forall_mem_append.mpr ⟨lw_r3, List.forall_mem_append.mpr ⟨lw_r4, List.forall_mem_append.mpr ⟨lw_r5, List.forall_mem_append.mpr ⟨lw_r6, List.forall_mem_append.mpr ⟨lw_r7, List.forall_mem_append.mpr ⟨lw_r8, List.forall_mem_append.mpr ⟨lw_r9, lw_r10⟩⟩⟩⟩⟩⟩⟩⟩⟩
end
section
/-! TABLES of this claim, laid by wip/am/gen_tables.py out of the task folder: class names, classes of which objects are made, methods, fields, calls. -/
def gm_rnl : List String := ["GlacierMail", "GlacierMail$State", "GlacierMail$Rows", "GlacierMail$History", "GlacierMail$Ice", "java/util/Arrays", "java/lang/Math", "GlacierMail$Way", "GlacierMail$Answers", "GlacierMail$ValleyReader", "GlacierMail$TextReader", "GlacierMail$Words", "GlacierMail$LawReader", "GlacierMail$Law", "java/lang/Integer", "GlacierMailLaw", "java/lang/String", "java/lang/StringLatin1", "jdk/internal/util/Preconditions", "java/lang/StringUTF16", "GlacierMailModel"]
def gm_rn (i : Nat) : String := (gm_rnl[i]?).getD ""
def gm_T0 : u_T := fun k => match k with
  | 0 => ("GlacierMail", "tape", "[B", true)
  | 1 => ("GlacierMail", "tapeLength", "I", false)
  | 2 => ("GlacierMail", "wrongByte", "I", false)
  | 3 => ("GlacierMail", "told", "LGlacierMail$State;", true)
  | 4 => ("GlacierMail", "draft", "LGlacierMail$State;", true)
  | 5 => ("GlacierMail", "image", "LGlacierMail$State;", true)
  | 6 => ("GlacierMail", "imageKept", "Z", false)
  | 7 => ("GlacierMail", "history", "LGlacierMail$History;", true)
  | 8 => ("GlacierMail", "ice", "LGlacierMail$Ice;", true)
  | 9 => ("GlacierMail", "way", "LGlacierMail$Way;", true)
  | 10 => ("GlacierMail", "otherWay", "LGlacierMail$Way;", true)
  | 11 => ("GlacierMail", "answers", "LGlacierMail$Answers;", true)
  | 12 => ("GlacierMail", "valleyReader", "LGlacierMail$ValleyReader;", true)
  | 13 => ("GlacierMail", "lawReader", "LGlacierMail$LawReader;", true)
  | 14 => ("GlacierMail", "ends", "LGlacierMail$Rows;", true)
  | 15 => ("GlacierMail", "endsKnown", "Z", false)
  | 16 => ("GlacierMail", "came", "LGlacierMail$Rows;", true)
  | _ => ("GlacierMail", "taken", "LGlacierMail$Rows;", true)
def gm_ty0 : Nat → FieldType := fun k => match k with
  | 0 => (.array .byte)
  | 1 => .int
  | 2 => .int
  | 3 => (.object "GlacierMail$State")
  | 4 => (.object "GlacierMail$State")
  | 5 => (.object "GlacierMail$State")
  | 6 => .boolean
  | 7 => (.object "GlacierMail$History")
  | 8 => (.object "GlacierMail$Ice")
  | 9 => (.object "GlacierMail$Way")
  | 10 => (.object "GlacierMail$Way")
  | 11 => (.object "GlacierMail$Answers")
  | 12 => (.object "GlacierMail$ValleyReader")
  | 13 => (.object "GlacierMail$LawReader")
  | 14 => (.object "GlacierMail$Rows")
  | 15 => .boolean
  | 16 => (.object "GlacierMail$Rows")
  | _ => (.object "GlacierMail$Rows")
theorem gm_nm0 : ∀ a, a < 18 → ∀ b, b < 18 → a ≠ b → (gm_T0 a).2.1 ≠ (gm_T0 b).2.1 := by decide +kernel
theorem gm_tk0 : ∀ k, k < 18 → parseFieldDescriptor (gm_T0 k).2.2.1 = some (gm_ty0 k) := by decide +kernel
def gm_T1 : u_T := fun k => match k with
  | 0 => ("GlacierMail$State", "lanes", "I", false)
  | 1 => ("GlacierMail$State", "last", "I", false)
  | 2 => ("GlacierMail$State", "snow", "I", false)
  | 3 => ("GlacierMail$State", "fall", "I", false)
  | 4 => ("GlacierMail$State", "stripe", "I", false)
  | 5 => ("GlacierMail$State", "seed", "I", false)
  | 6 => ("GlacierMail$State", "now", "I", false)
  | 7 => ("GlacierMail$State", "texts", "I", false)
  | 8 => ("GlacierMail$State", "law", "LGlacierMail$Law;", false)
  | 9 => ("GlacierMail$State", "sections", "LGlacierMail$Rows;", true)
  | 10 => ("GlacierMail$State", "floods", "LGlacierMail$Rows;", true)
  | 11 => ("GlacierMail$State", "people", "LGlacierMail$Rows;", true)
  | 12 => ("GlacierMail$State", "letters", "LGlacierMail$Rows;", true)
  | 13 => ("GlacierMail$State", "tables", "LGlacierMail$Rows;", true)
  | _ => ("GlacierMail$State", "openings", "LGlacierMail$Rows;", true)
def gm_ty1 : Nat → FieldType := fun k => match k with
  | 0 => .int
  | 1 => .int
  | 2 => .int
  | 3 => .int
  | 4 => .int
  | 5 => .int
  | 6 => .int
  | 7 => .int
  | 8 => (.object "GlacierMail$Law")
  | 9 => (.object "GlacierMail$Rows")
  | 10 => (.object "GlacierMail$Rows")
  | 11 => (.object "GlacierMail$Rows")
  | 12 => (.object "GlacierMail$Rows")
  | 13 => (.object "GlacierMail$Rows")
  | _ => (.object "GlacierMail$Rows")
theorem gm_nm1 : ∀ a, a < 15 → ∀ b, b < 15 → a ≠ b → (gm_T1 a).2.1 ≠ (gm_T1 b).2.1 := by decide +kernel
theorem gm_tk1 : ∀ k, k < 15 → parseFieldDescriptor (gm_T1 k).2.2.1 = some (gm_ty1 k) := by decide +kernel
def gm_T2 : u_T := fun k => match k with
  | 0 => ("GlacierMail$Rows", "most", "I", true)
  | 1 => ("GlacierMail$Rows", "width", "I", true)
  | 2 => ("GlacierMail$Rows", "cells", "[I", true)
  | _ => ("GlacierMail$Rows", "size", "I", false)
def gm_ty2 : Nat → FieldType := fun k => match k with
  | 0 => .int
  | 1 => .int
  | 2 => (.array .int)
  | _ => .int
theorem gm_nm2 : ∀ a, a < 4 → ∀ b, b < 4 → a ≠ b → (gm_T2 a).2.1 ≠ (gm_T2 b).2.1 := by decide +kernel
theorem gm_tk2 : ∀ k, k < 4 → parseFieldDescriptor (gm_T2 k).2.2.1 = some (gm_ty2 k) := by decide +kernel
def gm_T3 : u_T := fun k => match k with
  | 0 => ("GlacierMail$History", "ahead", "[LGlacierMail$State;", true)
  | 1 => ("GlacierMail$History", "next", "I", false)
  | _ => ("GlacierMail$History", "size", "I", false)
def gm_ty3 : Nat → FieldType := fun k => match k with
  | 0 => (.array (.object "GlacierMail$State"))
  | 1 => .int
  | _ => .int
theorem gm_nm3 : ∀ a, a < 3 → ∀ b, b < 3 → a ≠ b → (gm_T3 a).2.1 ≠ (gm_T3 b).2.1 := by decide +kernel
theorem gm_tk3 : ∀ k, k < 3 → parseFieldDescriptor (gm_T3 k).2.2.1 = some (gm_ty3 k) := by decide +kernel
def gm_T4 : u_T := fun k => match k with
  | 0 => ("GlacierMail$Ice", "told", "LGlacierMail$State;", true)
  | 1 => ("GlacierMail$Ice", "heats", "[I", true)
  | 2 => ("GlacierMail$Ice", "speeds", "[I", true)
  | 3 => ("GlacierMail$Ice", "floods", "[I", true)
  | 4 => ("GlacierMail$Ice", "facts", "[I", true)
  | 5 => ("GlacierMail$Ice", "flows", "[J", true)
  | _ => ("GlacierMail$Ice", "flowsForgotten", "Z", false)
def gm_ty4 : Nat → FieldType := fun k => match k with
  | 0 => (.object "GlacierMail$State")
  | 1 => (.array .int)
  | 2 => (.array .int)
  | 3 => (.array .int)
  | 4 => (.array .int)
  | 5 => (.array .long)
  | _ => .boolean
theorem gm_nm4 : ∀ a, a < 7 → ∀ b, b < 7 → a ≠ b → (gm_T4 a).2.1 ≠ (gm_T4 b).2.1 := by decide +kernel
theorem gm_tk4 : ∀ k, k < 7 → parseFieldDescriptor (gm_T4 k).2.2.1 = some (gm_ty4 k) := by decide +kernel
def gm_T5 : u_T := fun k => match k with
  | 0 => ("GlacierMail$Way", "told", "LGlacierMail$State;", true)
  | 1 => ("GlacierMail$Way", "ice", "LGlacierMail$Ice;", true)
  | 2 => ("GlacierMail$Way", "lane", "I", false)
  | 3 => ("GlacierMail$Way", "rock", "Z", false)
  | 4 => ("GlacierMail$Way", "leftOut", "I", false)
  | 5 => ("GlacierMail$Way", "row", "I", false)
  | 6 => ("GlacierMail$Way", "deep", "I", false)
  | 7 => ("GlacierMail$Way", "year", "I", false)
  | _ => ("GlacierMail$Way", "moved", "I", false)
def gm_ty5 : Nat → FieldType := fun k => match k with
  | 0 => (.object "GlacierMail$State")
  | 1 => (.object "GlacierMail$Ice")
  | 2 => .int
  | 3 => .boolean
  | 4 => .int
  | 5 => .int
  | 6 => .int
  | 7 => .int
  | _ => .int
theorem gm_nm5 : ∀ a, a < 9 → ∀ b, b < 9 → a ≠ b → (gm_T5 a).2.1 ≠ (gm_T5 b).2.1 := by decide +kernel
theorem gm_tk5 : ∀ k, k < 9 → parseFieldDescriptor (gm_T5 k).2.2.1 = some (gm_ty5 k) := by decide +kernel
def gm_T6 : u_T := fun k => match k with
  | 0 => ("GlacierMail$Answers", "told", "LGlacierMail$State;", true)
  | 1 => ("GlacierMail$Answers", "way", "LGlacierMail$Way;", true)
  | 2 => ("GlacierMail$Answers", "had", "LGlacierMail$Rows;", true)
  | _ => ("GlacierMail$Answers", "outs", "LGlacierMail$Rows;", true)
def gm_ty6 : Nat → FieldType := fun k => match k with
  | 0 => (.object "GlacierMail$State")
  | 1 => (.object "GlacierMail$Way")
  | 2 => (.object "GlacierMail$Rows")
  | _ => (.object "GlacierMail$Rows")
theorem gm_nm6 : ∀ a, a < 4 → ∀ b, b < 4 → a ≠ b → (gm_T6 a).2.1 ≠ (gm_T6 b).2.1 := by decide +kernel
theorem gm_tk6 : ∀ k, k < 4 → parseFieldDescriptor (gm_T6 k).2.2.1 = some (gm_ty6 k) := by decide +kernel
def gm_T7 : u_T := fun k => match k with
  | 0 => ("GlacierMail$TextReader", "words", "LGlacierMail$Words;", true)
  | 1 => ("GlacierMail$TextReader", "mostLines", "I", true)
  | _ => ("GlacierMail$ValleyReader", "draft", "LGlacierMail$State;", true)
def gm_ty7 : Nat → FieldType := fun k => match k with
  | 0 => (.object "GlacierMail$Words")
  | 1 => .int
  | _ => (.object "GlacierMail$State")
theorem gm_nm7 : ∀ a, a < 3 → ∀ b, b < 3 → a ≠ b → (gm_T7 a).2.1 ≠ (gm_T7 b).2.1 := by decide +kernel
theorem gm_tk7 : ∀ k, k < 3 → parseFieldDescriptor (gm_T7 k).2.2.1 = some (gm_ty7 k) := by decide +kernel
def gm_T8 : u_T := fun k => match k with
  | 0 => ("GlacierMail$Words", "text", "[B", true)
  | 1 => ("GlacierMail$Words", "mostDigits", "I", true)
  | 2 => ("GlacierMail$Words", "length", "I", false)
  | 3 => ("GlacierMail$Words", "place", "I", false)
  | 4 => ("GlacierMail$Words", "begin", "I", false)
  | 5 => ("GlacierMail$Words", "wrong", "I", false)
  | 6 => ("GlacierMail$Words", "kind", "I", false)
  | _ => ("GlacierMail$Words", "value", "I", false)
def gm_ty8 : Nat → FieldType := fun k => match k with
  | 0 => (.array .byte)
  | 1 => .int
  | 2 => .int
  | 3 => .int
  | 4 => .int
  | 5 => .int
  | 6 => .int
  | _ => .int
theorem gm_nm8 : ∀ a, a < 8 → ∀ b, b < 8 → a ≠ b → (gm_T8 a).2.1 ≠ (gm_T8 b).2.1 := by decide +kernel
theorem gm_tk8 : ∀ k, k < 8 → parseFieldDescriptor (gm_T8 k).2.2.1 = some (gm_ty8 k) := by decide +kernel
def gm_T9 : u_T := fun k => match k with
  | 0 => ("GlacierMail$TextReader", "words", "LGlacierMail$Words;", true)
  | 1 => ("GlacierMail$TextReader", "mostLines", "I", true)
  | 2 => ("GlacierMail$LawReader", "lines", "LGlacierMail$Rows;", true)
  | 3 => ("GlacierMail$LawReader", "codes", "[I", true)
  | _ => ("GlacierMail$LawReader", "used", "I", false)
def gm_ty9 : Nat → FieldType := fun k => match k with
  | 0 => (.object "GlacierMail$Words")
  | 1 => .int
  | 2 => (.object "GlacierMail$Rows")
  | 3 => (.array .int)
  | _ => .int
theorem gm_nm9 : ∀ a, a < 5 → ∀ b, b < 5 → a ≠ b → (gm_T9 a).2.1 ≠ (gm_T9 b).2.1 := by decide +kernel
theorem gm_tk9 : ∀ k, k < 5 → parseFieldDescriptor (gm_T9 k).2.2.1 = some (gm_ty9 k) := by decide +kernel
def gm_T10 : u_T := fun k => match k with
  | 0 => ("GlacierMail$Law", "lines", "LGlacierMail$Rows;", true)
  | _ => ("GlacierMail$Law", "codes", "[I", true)
def gm_ty10 : Nat → FieldType := fun k => match k with
  | 0 => (.object "GlacierMail$Rows")
  | _ => (.array .int)
theorem gm_nm10 : ∀ a, a < 2 → ∀ b, b < 2 → a ≠ b → (gm_T10 a).2.1 ≠ (gm_T10 b).2.1 := by decide +kernel
theorem gm_tk10 : ∀ k, k < 2 → parseFieldDescriptor (gm_T10 k).2.2.1 = some (gm_ty10 k) := by decide +kernel
def gm_T11 : u_T := fun k => match k with
  | 0 => ("GlacierMailModel", "thrown", "I", false)
  | 1 => ("GlacierMailModel", "world", "[I", true)
  | 2 => ("GlacierMailModel", "image", "[I", true)
  | 3 => ("GlacierMailModel", "before", "[I", true)
  | 4 => ("GlacierMailModel", "acts", "[I", true)
  | 5 => ("GlacierMailModel", "hasImage", "Z", false)
  | 6 => ("GlacierMailModel", "remembered", "I", false)
  | 7 => ("GlacierMailModel", "tape", "[B", true)
  | 8 => ("GlacierMailModel", "taped", "I", false)
  | 9 => ("GlacierMailModel", "point", "I", false)
  | 10 => ("GlacierMailModel", "end", "I", false)
  | 11 => ("GlacierMailModel", "begin", "I", false)
  | 12 => ("GlacierMailModel", "deep", "I", false)
  | 13 => ("GlacierMailModel", "faultAt", "I", false)
  | 14 => ("GlacierMailModel", "five", "[I", true)
  | 15 => ("GlacierMailModel", "steps", "I", false)
  | 16 => ("GlacierMailModel", "value", "[I", true)
  | 17 => ("GlacierMailModel", "itsLane", "I", false)
  | 18 => ("GlacierMailModel", "itsRow", "I", false)
  | 19 => ("GlacierMailModel", "itsYear", "I", false)
  | 20 => ("GlacierMailModel", "itsSpeed", "I", false)
  | 21 => ("GlacierMailModel", "itsPerson", "I", false)
  | 22 => ("GlacierMailModel", "itsAge", "I", false)
  | 23 => ("GlacierMailModel", "itsDepth", "I", false)
  | 24 => ("GlacierMailModel", "heats", "[I", true)
  | 25 => ("GlacierMailModel", "flows", "[B", true)
  | 26 => ("GlacierMailModel", "flowing", "I", false)
  | 27 => ("GlacierMailModel", "rows", "[I", true)
  | 28 => ("GlacierMailModel", "depths", "[I", true)
  | 29 => ("GlacierMailModel", "out", "I", false)
  | 30 => ("GlacierMailModel", "moved", "I", false)
  | 31 => ("GlacierMailModel", "outs", "[I", true)
  | 32 => ("GlacierMailModel", "otherRows", "[I", true)
  | 33 => ("GlacierMailModel", "throwing", "[I", true)
  | 34 => ("GlacierMailModel", "having", "[I", true)
  | 35 => ("GlacierMailModel", "outYear", "[I", true)
  | 36 => ("GlacierMailModel", "backYear", "I", false)
  | 37 => ("GlacierMailModel", "loot", "[I", true)
  | _ => ("GlacierMailModel", "more", "[I", true)
def gm_ty11 : Nat → FieldType := fun k => match k with
  | 0 => .int
  | 1 => (.array .int)
  | 2 => (.array .int)
  | 3 => (.array .int)
  | 4 => (.array .int)
  | 5 => .boolean
  | 6 => .int
  | 7 => (.array .byte)
  | 8 => .int
  | 9 => .int
  | 10 => .int
  | 11 => .int
  | 12 => .int
  | 13 => .int
  | 14 => (.array .int)
  | 15 => .int
  | 16 => (.array .int)
  | 17 => .int
  | 18 => .int
  | 19 => .int
  | 20 => .int
  | 21 => .int
  | 22 => .int
  | 23 => .int
  | 24 => (.array .int)
  | 25 => (.array .byte)
  | 26 => .int
  | 27 => (.array .int)
  | 28 => (.array .int)
  | 29 => .int
  | 30 => .int
  | 31 => (.array .int)
  | 32 => (.array .int)
  | 33 => (.array .int)
  | 34 => (.array .int)
  | 35 => (.array .int)
  | 36 => .int
  | 37 => (.array .int)
  | _ => (.array .int)
theorem gm_nm11 : ∀ a, a < 39 → ∀ b, b < 39 → a ≠ b → (gm_T11 a).2.1 ≠ (gm_T11 b).2.1 := by decide +kernel
theorem gm_tk11 : ∀ k, k < 39 → parseFieldDescriptor (gm_T11 k).2.2.1 = some (gm_ty11 k) := by decide +kernel
abbrev gm_cs : List vw_C := [("GlacierMail", gm_T0, 18), ("GlacierMail$State", gm_T1, 15), ("GlacierMail$Rows", gm_T2, 4), ("GlacierMail$History", gm_T3, 3), ("GlacierMail$Ice", gm_T4, 7), ("GlacierMail$Way", gm_T5, 9), ("GlacierMail$Answers", gm_T6, 4), ("GlacierMail$ValleyReader", gm_T7, 3), ("GlacierMail$Words", gm_T8, 8), ("GlacierMail$LawReader", gm_T9, 5), ("GlacierMail$Law", gm_T10, 2), ("GlacierMailModel", gm_T11, 39)]
/-- by class number: how many fields; is the field a reference; its type; may it be written once alone -/
def gm_nf (c : Nat) : Nat := ([18, 15, 4, 3, 7, 9, 4, 3, 8, 5, 2, 39][c]?).getD 0
def gm_isr (c j : Nat) : Bool := ((([[true, false, false, true, true, true, false, true, true, true, true, true, true, true, true, false, true, true], [false, false, false, false, false, false, false, false, true, true, true, true, true, true, true], [false, false, true, false], [true, false, false], [true, true, true, true, true, true, false], [true, true, false, false, false, false, false, false, false], [true, true, true, true], [true, false, true], [true, false, false, false, false, false, false, false], [true, false, true, true, false], [true, true], [false, true, true, true, true, false, false, true, false, false, false, false, false, false, true, false, true, false, false, false, false, false, false, false, true, true, false, true, true, false, false, true, true, true, true, true, false, true, true]] : List (List Bool))[c]?).getD [])[j]?.getD false
def gm_fin (c j : Nat) : Bool := ((([[true, false, false, true, true, true, false, true, true, true, true, true, true, true, true, false, true, true], [false, false, false, false, false, false, false, false, false, true, true, true, true, true, true], [true, true, true, false], [true, false, false], [true, true, true, true, true, true, false], [true, true, false, false, false, false, false, false, false], [true, true, true, true], [true, true, true], [true, true, false, false, false, false, false, false], [true, true, true, true, false], [true, true], [false, true, true, true, true, false, false, true, false, false, false, false, false, false, true, false, true, false, false, false, false, false, false, false, true, true, false, true, true, false, false, true, true, true, true, true, false, true, true]] : List (List Bool))[c]?).getD [])[j]?.getD false
def gm_tyl : List (Nat → FieldType) := [gm_ty0, gm_ty1, gm_ty2, gm_ty3, gm_ty4, gm_ty5, gm_ty6, gm_ty7, gm_ty8, gm_ty9, gm_ty10, gm_ty11]
def gm_mnl : List MethodName := [⟨"GlacierMail", "<init>", "()V"⟩, ⟨"GlacierMail$State", "<init>", "()V"⟩, ⟨"GlacierMail$Rows", "<init>", "(II)V"⟩, ⟨"GlacierMail$History", "<init>", "()V"⟩, ⟨"GlacierMail$Ice", "<init>", "(LGlacierMail$State;)V"⟩, ⟨"GlacierMail$Ice", "renew", "()V"⟩, ⟨"GlacierMail$Ice", "reckonHeats", "()V"⟩, ⟨"GlacierMail$Ice", "reckonSpeeds", "()V"⟩, ⟨"java/util/Arrays", "fill", "([II)V"⟩, ⟨"GlacierMail$Rows", "size", "()I"⟩, ⟨"GlacierMail$Rows", "get", "(II)I"⟩, ⟨"java/lang/Math", "max", "(II)I"⟩, ⟨"GlacierMail$Ice", "reckonFloods", "()V"⟩, ⟨"GlacierMail$Way", "<init>", "(LGlacierMail$State;LGlacierMail$Ice;)V"⟩, ⟨"GlacierMail$Answers", "<init>", "(LGlacierMail$State;LGlacierMail$Way;)V"⟩, ⟨"GlacierMail$ValleyReader", "<init>", "([BLGlacierMail$State;)V"⟩, ⟨"GlacierMail$TextReader", "<init>", "([BII)V"⟩, ⟨"GlacierMail$Words", "<init>", "([BI)V"⟩, ⟨"GlacierMail$LawReader", "<init>", "([B)V"⟩, ⟨"GlacierMail", "feed", "(IIIII)I"⟩, ⟨"GlacierMail", "putNumber", "(I)V"⟩, ⟨"GlacierMail", "end", "(I)Z"⟩, ⟨"GlacierMail", "fault", "()I"⟩, ⟨"GlacierMail", "lost", "()I"⟩, ⟨"GlacierMail", "reckonEnds", "()V"⟩, ⟨"GlacierMail$Rows", "reset", "(I)V"⟩, ⟨"java/lang/Math", "min", "(II)I"⟩, ⟨"GlacierMail$Way", "startLetter", "(I)V"⟩, ⟨"GlacierMail$State", "isRock", "(I)Z"⟩, ⟨"GlacierMail$Way", "start", "(IIIZ)V"⟩, ⟨"GlacierMail$Way", "runOut", "(I)I"⟩, ⟨"GlacierMail$Way", "isOut", "()Z"⟩, ⟨"GlacierMail$Way", "step", "()V"⟩, ⟨"GlacierMail$Way", "deepAfter", "()I"⟩, ⟨"GlacierMail$Ice", "heatIn", "(I)I"⟩, ⟨"GlacierMail$Ice", "flowAt", "(III)I"⟩, ⟨"GlacierMail$Ice", "speedAt", "(II)I"⟩, ⟨"GlacierMail$Ice", "recalledFlow", "(I)I"⟩, ⟨"java/util/Arrays", "fill", "([JJ)V"⟩, ⟨"GlacierMail$Ice", "setFacts", "(IIII)V"⟩, ⟨"GlacierMail$Law", "faster", "([I)I"⟩, ⟨"GlacierMail$Law", "holds", "(II[I)Z"⟩, ⟨"GlacierMail$Ice", "keepFlow", "(II)V"⟩, ⟨"GlacierMail$Way", "takeFloods", "()V"⟩, ⟨"GlacierMail$Ice", "floodsIn", "(I)I"⟩, ⟨"GlacierMail$Rows", "put", "(III)V"⟩, ⟨"GlacierMail", "market", "(Z)I"⟩, ⟨"GlacierMail", "outIn", "(IZ)I"⟩, ⟨"GlacierMail", "poles", "()I"⟩, ⟨"java/lang/Integer", "bitCount", "(I)I"⟩, ⟨"GlacierMail", "allToldApart", "(I)Z"⟩, ⟨"GlacierMail", "toldApart", "(III)Z"⟩, ⟨"GlacierMail", "order", "(I)I"⟩, ⟨"GlacierMail", "outAheadOf", "(I)I"⟩, ⟨"GlacierMail", "undo", "()Z"⟩, ⟨"GlacierMail$History", "takeBack", "(LGlacierMail$State;)Z"⟩, ⟨"GlacierMail$History", "at", "(I)LGlacierMail$State;"⟩, ⟨"GlacierMail$State", "copyFrom", "(LGlacierMail$State;)V"⟩, ⟨"GlacierMail$Rows", "copyFrom", "(LGlacierMail$Rows;)V"⟩, ⟨"GlacierMail", "image", "()V"⟩, ⟨"GlacierMail", "back", "()Z"⟩, ⟨"GlacierMail", "forgetWays", "()V"⟩, ⟨"GlacierMail$History", "forget", "()V"⟩, ⟨"GlacierMail", "count", "(I)I"⟩, ⟨"GlacierMail", "lawLines", "()I"⟩, ⟨"GlacierMail", "waiting", "(I)I"⟩, ⟨"GlacierMail", "waits", "(I)Z"⟩, ⟨"GlacierMail", "isOutBy", "(II)Z"⟩, ⟨"GlacierMail", "inIceNow", "()I"⟩, ⟨"GlacierMail$History", "size", "()I"⟩, ⟨"GlacierMailLaw", "valley", "(LGlacierMail;[J)I"⟩, ⟨"GlacierMail", "valley", "()I"⟩, ⟨"GlacierMail$TextReader", "readText", "(I)I"⟩, ⟨"GlacierMail$LawReader", "clear", "()V"⟩, ⟨"GlacierMail$ValleyReader", "clear", "()V"⟩, ⟨"GlacierMail$Words", "start", "(I)V"⟩, ⟨"GlacierMail$Words", "next", "()V"⟩, ⟨"GlacierMail$Words", "isSmall", "(B)Z"⟩, ⟨"GlacierMail$Words", "isDigit", "(B)Z"⟩, ⟨"GlacierMail$LawReader", "readLine", "()Z"⟩, ⟨"GlacierMail$LawReader", "readKind", "()I"⟩, ⟨"GlacierMail$Words", "isWord", "(Ljava/lang/String;)Z"⟩, ⟨"java/lang/String", "length", "()I"⟩, ⟨"java/lang/String", "coder", "()B"⟩, ⟨"java/lang/String", "charAt", "(I)C"⟩, ⟨"java/lang/String", "isLatin1", "()Z"⟩, ⟨"java/lang/StringLatin1", "charAt", "([BI)C"⟩, ⟨"java/lang/String", "checkIndex", "(II)V"⟩, ⟨"jdk/internal/util/Preconditions", "checkIndex", "(IILjava/util/function/BiFunction;)I"⟩, ⟨"java/lang/StringUTF16", "charAt", "([BI)C"⟩, ⟨"java/lang/StringUTF16", "checkIndex", "(I[B)V"⟩, ⟨"java/lang/StringUTF16", "length", "([B)I"⟩, ⟨"java/lang/StringUTF16", "getChar", "([BI)C"⟩, ⟨"GlacierMail$Words", "refuse", "()Z"⟩, ⟨"GlacierMail$Words", "needNumber", "(II)I"⟩, ⟨"GlacierMail$Words", "takeWord", "(Ljava/lang/String;)Z"⟩, ⟨"GlacierMail$LawReader", "readCondition", "(I)Z"⟩, ⟨"GlacierMail$LawReader", "readAtom", "(I)Z"⟩, ⟨"GlacierMail$Words", "needSign", "(C)Z"⟩, ⟨"GlacierMail$LawReader", "put", "(I)V"⟩, ⟨"GlacierMail$LawReader", "readSum", "()Z"⟩, ⟨"GlacierMail$LawReader", "factCode", "()I"⟩, ⟨"GlacierMail$Rows", "add", "()I"⟩, ⟨"GlacierMail$ValleyReader", "readLine", "()Z"⟩, ⟨"GlacierMail$ValleyReader", "readLanes", "()Z"⟩, ⟨"GlacierMail$State", "isEmpty", "()Z"⟩, ⟨"GlacierMail$ValleyReader", "readLast", "()Z"⟩, ⟨"GlacierMail$ValleyReader", "readSection", "()Z"⟩, ⟨"GlacierMail$Rows", "isFull", "()Z"⟩, ⟨"GlacierMail$ValleyReader", "readSpeeds", "(LGlacierMail$Rows;II)Z"⟩, ⟨"GlacierMail$ValleyReader", "readSnow", "()Z"⟩, ⟨"GlacierMail$ValleyReader", "readRow", "()I"⟩, ⟨"GlacierMail$Words", "needWord", "(Ljava/lang/String;)Z"⟩, ⟨"GlacierMail$ValleyReader", "readStripe", "()Z"⟩, ⟨"GlacierMail$ValleyReader", "readSeed", "()Z"⟩, ⟨"GlacierMail$ValleyReader", "readFlood", "()Z"⟩, ⟨"GlacierMail$ValleyReader", "readPerson", "()Z"⟩, ⟨"GlacierMail$ValleyReader", "readLane", "()I"⟩, ⟨"GlacierMail$ValleyReader", "readRock", "()Z"⟩, ⟨"GlacierMail$State", "throwIn", "(IIII)I"⟩, ⟨"GlacierMail$ValleyReader", "readTable", "()Z"⟩, ⟨"GlacierMail$Words", "wrong", "()I"⟩, ⟨"GlacierMailLaw", "law", "(LGlacierMail;[J)I"⟩, ⟨"GlacierMail", "law", "()I"⟩, ⟨"GlacierMail$LawReader", "makeLaw", "()LGlacierMail$Law;"⟩, ⟨"java/util/Arrays", "copyOf", "([II)[I"⟩, ⟨"GlacierMail$Law", "<init>", "(LGlacierMail$Rows;[I)V"⟩, ⟨"GlacierMailLaw", "heat", "(LGlacierMail;I[J)I"⟩, ⟨"GlacierMail", "heat", "(I)I"⟩, ⟨"GlacierMail", "needYear", "(I)V"⟩, ⟨"GlacierMailLaw", "speed", "(LGlacierMail;II[J)I"⟩, ⟨"GlacierMail", "speed", "(II)I"⟩, ⟨"GlacierMail", "needLane", "(I)V"⟩, ⟨"GlacierMail", "need", "(II)V"⟩, ⟨"GlacierMail", "needRow", "(I)V"⟩, ⟨"GlacierMailLaw", "flow", "(LGlacierMail;III[J)I"⟩, ⟨"GlacierMail", "flow", "(III)I"⟩, ⟨"GlacierMailLaw", "person", "(LGlacierMail;II[J)I"⟩, ⟨"GlacierMail", "person", "(II)I"⟩, ⟨"GlacierMail", "needPerson", "(I)V"⟩, ⟨"GlacierMail", "lettersWith", "(II)I"⟩, ⟨"GlacierMailLaw", "letter", "(LGlacierMail;II[J)I"⟩, ⟨"GlacierMail", "letter", "(II)I"⟩, ⟨"GlacierMail", "needLetter", "(I)V"⟩, ⟨"GlacierMail", "outOf", "(I)I"⟩, ⟨"GlacierMail", "firstBare", "(I)I"⟩, ⟨"GlacierMailLaw", "where", "(LGlacierMail;II[J)I"⟩, ⟨"GlacierMail", "where", "(II)I"⟩, ⟨"GlacierMail$Way", "goOnTo", "(I)V"⟩, ⟨"GlacierMailLaw", "deep", "(LGlacierMail;II[J)I"⟩, ⟨"GlacierMail", "deep", "(II)I"⟩, ⟨"GlacierMailLaw", "post", "(LGlacierMail;II[J)I"⟩, ⟨"GlacierMail", "post", "(II)I"⟩, ⟨"GlacierMail", "needUnlike", "(II)V"⟩, ⟨"GlacierMail$History", "remember", "(LGlacierMail$State;)V"⟩, ⟨"GlacierMailLaw", "watch", "(LGlacierMail;II[J)I"⟩, ⟨"GlacierMail", "watch", "(II)I"⟩, ⟨"GlacierMailLaw", "open", "(LGlacierMail;I[J)I"⟩, ⟨"GlacierMail", "open", "(I)I"⟩, ⟨"GlacierMail$State", "openLetter", "(II)V"⟩, ⟨"GlacierMailLaw", "years", "(LGlacierMail;I[J)I"⟩, ⟨"GlacierMail", "years", "(I)I"⟩, ⟨"GlacierMail", "oneYearMore", "()I"⟩, ⟨"GlacierMail", "openerOf", "(I)I"⟩, ⟨"GlacierMail$Ice", "mayOpen", "(IIII)Z"⟩, ⟨"GlacierMail$Law", "letsOpen", "([I)Z"⟩, ⟨"GlacierMailLaw", "throwsFor", "(LGlacierMail;IIII[J)I"⟩, ⟨"GlacierMail", "throwsFor", "(IIII)I"⟩, ⟨"GlacierMailLaw", "latest", "(LGlacierMail;II[J)I"⟩, ⟨"GlacierMail", "latest", "(II)I"⟩, ⟨"GlacierMail$Way", "startHut", "(II)V"⟩, ⟨"GlacierMailLaw", "hut", "(LGlacierMail;II[J)I"⟩, ⟨"GlacierMail", "hut", "(II)I"⟩, ⟨"GlacierMailLaw", "without", "(LGlacierMail;II[J)I"⟩, ⟨"GlacierMail", "without", "(II)I"⟩, ⟨"GlacierMail$Way", "leaveOut", "(I)V"⟩, ⟨"GlacierMailLaw", "moved", "(LGlacierMail;I[J)I"⟩, ⟨"GlacierMail", "moved", "(I)I"⟩, ⟨"GlacierMailLaw", "passes", "(LGlacierMail;I[J)I"⟩, ⟨"GlacierMail", "passes", "(I)I"⟩, ⟨"GlacierMail", "sameLane", "(II)Z"⟩, ⟨"GlacierMail", "passesBy", "(II)Z"⟩, ⟨"GlacierMail", "startBoth", "(III)I"⟩, ⟨"GlacierMail", "bothInIce", "()Z"⟩, ⟨"GlacierMail", "stepBoth", "()V"⟩, ⟨"GlacierMailLaw", "writers", "(LGlacierMail;III[J)I"⟩, ⟨"GlacierMail", "writers", "(III)I"⟩, ⟨"GlacierMail", "needFind", "(II)V"⟩, ⟨"GlacierMail", "latestWriting", "(IIII)I"⟩, ⟨"GlacierMailLaw", "wrote", "(LGlacierMail;IIII[J)I"⟩, ⟨"GlacierMail", "wrote", "(IIII)I"⟩, ⟨"GlacierMailLaw", "table", "(LGlacierMail;II[J)I"⟩, ⟨"GlacierMail", "table", "(II)I"⟩, ⟨"GlacierMail", "needTable", "(I)V"⟩, ⟨"GlacierMailLaw", "apart", "(LGlacierMail;III[J)I"⟩, ⟨"GlacierMail", "apart", "(III)Z"⟩, ⟨"GlacierMailLaw", "fit", "(LGlacierMail;[J)I"⟩, ⟨"GlacierMail", "fit", "()I"⟩, ⟨"GlacierMail", "areReadings", "(I)Z"⟩, ⟨"GlacierMail", "fitsReadings", "(II)Z"⟩, ⟨"GlacierMailLaw", "soonest", "(LGlacierMail;IIZ[J)I"⟩, ⟨"GlacierMail", "soonest", "(IIZ)I"⟩, ⟨"GlacierMail$Answers", "spread", "(III)V"⟩, ⟨"GlacierMail$Answers", "throwAgain", "(IIII)V"⟩, ⟨"GlacierMail$Answers", "firstYear", "(I)I"⟩, ⟨"GlacierMail$Answers", "fewestThrows", "(II)I"⟩, ⟨"GlacierMailLaw", "chain", "(LGlacierMail;III[J)I"⟩, ⟨"GlacierMail", "chain", "(III)I"⟩, ⟨"GlacierMail$Answers", "holder", "(III)I"⟩, ⟨"GlacierMail$Answers", "throwAhead", "(III)I"⟩, ⟨"GlacierMailLaw", "reached", "(LGlacierMail;II[J)I"⟩, ⟨"GlacierMail", "reached", "(II)I"⟩, ⟨"GlacierMailLaw", "thieves", "(LGlacierMail;IZ[J)I"⟩, ⟨"GlacierMail", "thieves", "(IZ)I"⟩, ⟨"GlacierMail", "needThiefYears", "(I)V"⟩, ⟨"GlacierMail", "reckonCame", "(I)V"⟩, ⟨"GlacierMail", "bestNext", "(II)I"⟩, ⟨"GlacierMailLaw", "watchman", "(LGlacierMail;IZ[J)I"⟩, ⟨"GlacierMail", "watchman", "(IZ)I"⟩, ⟨"GlacierMail", "mostBeside", "(II)I"⟩, ⟨"GlacierMailLaw", "meeting", "(LGlacierMail;II[J)I"⟩, ⟨"GlacierMail", "meeting", "(II)I"⟩, ⟨"GlacierMailLaw", "outs", "(LGlacierMail;I[J)I"⟩, ⟨"GlacierMail", "outs", "(I)I"⟩, ⟨"GlacierMailLaw", "streams", "(LGlacierMail;IZ[J)I"⟩, ⟨"GlacierMail", "streams", "(IZ)I"⟩, ⟨"GlacierMailLaw", "range", "(LGlacierMail;II[J)I"⟩, ⟨"GlacierMail", "range", "(II)I"⟩, ⟨"GlacierMailLaw", "swiftest", "(LGlacierMail;II[J)I"⟩, ⟨"GlacierMail", "swiftest", "(II)I"⟩, ⟨"GlacierMailLaw", "bare", "(LGlacierMail;I[J)I"⟩, ⟨"GlacierMail", "bare", "(I)I"⟩, ⟨"GlacierMailLaw", "log", "(LGlacierMail;II[J)I"⟩, ⟨"GlacierMail", "log", "(II)I"⟩, ⟨"GlacierMailModel", "thrown", "()I"⟩, ⟨"GlacierMailModel", "<init>", "()V"⟩, ⟨"GlacierMailModel", "warms", "()V"⟩, ⟨"GlacierMailModel", "image", "()V"⟩, ⟨"GlacierMailModel", "back", "()Z"⟩, ⟨"GlacierMailModel", "undo", "()Z"⟩, ⟨"GlacierMailModel", "feed", "(IIIII)I"⟩, ⟨"GlacierMailModel", "end", "(I)Z"⟩, ⟨"GlacierMailModel", "fault", "()I"⟩, ⟨"GlacierMailModel", "valley", "()I"⟩, ⟨"GlacierMailModel", "readAll", "(Z)I"⟩, ⟨"GlacierMailModel", "uses", "()V"⟩, ⟨"GlacierMailModel", "blanks", "()V"⟩, ⟨"GlacierMailModel", "isAt", "(II)Z"⟩, ⟨"GlacierMailModel", "readLine", "(ZI)Z"⟩, ⟨"GlacierMailModel", "letterRow", "()V"⟩, ⟨"GlacierMailModel", "readValleyLine", "()Z"⟩, ⟨"GlacierMailModel", "isWord", "(Ljava/lang/String;)Z"⟩, ⟨"GlacierMailModel", "readLanes", "()Z"⟩, ⟨"GlacierMailModel", "isEmpty", "()Z"⟩, ⟨"GlacierMailModel", "people", "()I"⟩, ⟨"GlacierMailModel", "letters", "()I"⟩, ⟨"GlacierMailModel", "number", "(II)I"⟩, ⟨"GlacierMailModel", "figures", "(III)I"⟩, ⟨"GlacierMailModel", "readLast", "()Z"⟩, ⟨"GlacierMailModel", "readSection", "()Z"⟩, ⟨"GlacierMailModel", "lip", "()I"⟩, ⟨"GlacierMailModel", "readSpeeds", "(I)Z"⟩, ⟨"GlacierMailModel", "lanes", "()I"⟩, ⟨"GlacierMailModel", "readSnow", "()Z"⟩, ⟨"GlacierMailModel", "rowTold", "()I"⟩, ⟨"GlacierMailModel", "after", "(Ljava/lang/String;II)I"⟩, ⟨"GlacierMailModel", "readFlood", "()Z"⟩, ⟨"GlacierMailModel", "now", "()I"⟩, ⟨"GlacierMailModel", "readPerson", "()Z"⟩, ⟨"GlacierMailModel", "laneTold", "()I"⟩, ⟨"GlacierMailModel", "isNext", "(Ljava/lang/String;)Z"⟩, ⟨"GlacierMailModel", "readRock", "()Z"⟩, ⟨"GlacierMailModel", "throwsIn", "(IIII)V"⟩, ⟨"GlacierMailModel", "setsLetter", "(III)V"⟩, ⟨"GlacierMailModel", "readTable", "()Z"⟩, ⟨"GlacierMailModel", "readLawLine", "(I)Z"⟩, ⟨"GlacierMailModel", "readCond", "()Z"⟩, ⟨"GlacierMailModel", "readAllOf", "()Z"⟩, ⟨"GlacierMailModel", "readAtom", "()Z"⟩, ⟨"GlacierMailModel", "sign", "(I)Z"⟩, ⟨"GlacierMailModel", "emits", "(II)V"⟩, ⟨"GlacierMailModel", "readSum", "()Z"⟩, ⟨"GlacierMailModel", "readPart", "()Z"⟩, ⟨"GlacierMailModel", "throwsIf", "(ZI)Z"⟩, ⟨"GlacierMailModel", "law", "()I"⟩, ⟨"GlacierMailModel", "heat", "(I)I"⟩, ⟨"GlacierMailModel", "noYear", "(I)Z"⟩, ⟨"GlacierMailModel", "in", "(III)Z"⟩, ⟨"GlacierMailModel", "speed", "(II)I"⟩, ⟨"GlacierMailModel", "noLane", "(I)Z"⟩, ⟨"GlacierMailModel", "noRow", "(I)Z"⟩, ⟨"GlacierMailModel", "speedAt", "(II)I"⟩, ⟨"GlacierMailModel", "flow", "(III)I"⟩, ⟨"GlacierMailModel", "flowAt", "(III)I"⟩, ⟨"GlacierMailModel", "turnsTo", "(I)V"⟩, ⟨"GlacierMailModel", "sumOf", "(I)I"⟩, ⟨"GlacierMailModel", "holdsLine", "(I)Z"⟩, ⟨"GlacierMailModel", "factOf", "(II)I"⟩, ⟨"GlacierMailModel", "person", "(II)I"⟩, ⟨"GlacierMailModel", "noPerson", "(I)Z"⟩, ⟨"GlacierMailModel", "of", "(II)I"⟩, ⟨"GlacierMailModel", "countOf", "(II)I"⟩, ⟨"GlacierMailModel", "ofLetter", "(II)I"⟩, ⟨"GlacierMailModel", "isWaiting", "(I)Z"⟩, ⟨"GlacierMailModel", "isRock", "(I)Z"⟩, ⟨"GlacierMailModel", "outOf", "(I)I"⟩, ⟨"GlacierMailModel", "runsLetter", "(II)V"⟩, ⟨"GlacierMailModel", "runs", "(IIIZI)V"⟩, ⟨"GlacierMailModel", "floods", "(III)I"⟩, ⟨"GlacierMailModel", "letter", "(II)I"⟩, ⟨"GlacierMailModel", "noLetter", "(I)Z"⟩, ⟨"GlacierMailModel", "bareFrom", "(I)I"⟩, ⟨"GlacierMailModel", "isBare", "(II)Z"⟩, ⟨"GlacierMailModel", "isInIce", "(I)Z"⟩, ⟨"GlacierMailModel", "where", "(II)I"⟩, ⟨"GlacierMailModel", "deep", "(II)I"⟩, ⟨"GlacierMailModel", "post", "(II)I"⟩, ⟨"GlacierMailModel", "remembers", "()V"⟩, ⟨"GlacierMailModel", "watch", "(II)I"⟩, ⟨"GlacierMailModel", "open", "(I)I"⟩, ⟨"GlacierMailModel", "opens", "(II)V"⟩, ⟨"GlacierMailModel", "years", "(I)I"⟩, ⟨"GlacierMailModel", "year", "()I"⟩, ⟨"GlacierMailModel", "opener", "(I)I"⟩, ⟨"GlacierMailModel", "mayOpen", "(II)Z"⟩, ⟨"GlacierMailModel", "throwsFor", "(IIII)I"⟩, ⟨"GlacierMailModel", "outFrom", "(III)I"⟩, ⟨"GlacierMailModel", "latest", "(II)I"⟩, ⟨"GlacierMailModel", "hut", "(II)I"⟩, ⟨"GlacierMailModel", "without", "(II)I"⟩, ⟨"GlacierMailModel", "moved", "(I)I"⟩, ⟨"GlacierMailModel", "lost", "()I"⟩, ⟨"GlacierMailModel", "market", "(Z)I"⟩, ⟨"GlacierMailModel", "outsAll", "()V"⟩, ⟨"GlacierMailModel", "outsIn", "(IIZ)I"⟩, ⟨"GlacierMailModel", "passes", "(I)I"⟩, ⟨"GlacierMailModel", "keepsRows", "()V"⟩, ⟨"GlacierMailModel", "isPassing", "(I)Z"⟩, ⟨"GlacierMailModel", "isOtherInIce", "(I)Z"⟩, ⟨"GlacierMailModel", "writers", "(III)I"⟩, ⟨"GlacierMailModel", "wroteIn", "(IIII)I"⟩, ⟨"GlacierMailModel", "wrote", "(IIII)I"⟩, ⟨"GlacierMailModel", "table", "(II)I"⟩, ⟨"GlacierMailModel", "noTable", "(I)Z"⟩, ⟨"GlacierMailModel", "ofTable", "(II)I"⟩, ⟨"GlacierMailModel", "apart", "(III)Z"⟩, ⟨"GlacierMailModel", "areApart", "(III)Z"⟩, ⟨"GlacierMailModel", "has", "(II)Z"⟩, ⟨"GlacierMailModel", "poles", "()I"⟩, ⟨"GlacierMailModel", "fit", "()I"⟩, ⟨"GlacierMailModel", "soonest", "(IIZ)I"⟩, ⟨"GlacierMailModel", "answers", "(I)V"⟩, ⟨"GlacierMailModel", "at", "(II)I"⟩, ⟨"GlacierMailModel", "isWatching", "(II)Z"⟩, ⟨"GlacierMailModel", "hasIn", "(I)I"⟩, ⟨"GlacierMailModel", "chain", "(III)I"⟩, ⟨"GlacierMailModel", "thrower", "(III)I"⟩, ⟨"GlacierMailModel", "reached", "(II)I"⟩, ⟨"GlacierMailModel", "thieves", "(IZ)I"⟩, ⟨"GlacierMailModel", "steals", "(I)V"⟩, ⟨"GlacierMailModel", "watchman", "(IZ)I"⟩, ⟨"GlacierMailModel", "meeting", "(II)I"⟩, ⟨"GlacierMailModel", "outs", "(I)I"⟩, ⟨"GlacierMailModel", "order", "(I)I"⟩, ⟨"GlacierMailModel", "streams", "(IZ)I"⟩, ⟨"GlacierMailModel", "range", "(II)I"⟩, ⟨"GlacierMailModel", "swiftest", "(II)I"⟩, ⟨"GlacierMailModel", "bare", "(I)I"⟩, ⟨"GlacierMailModel", "log", "(II)I"⟩, ⟨"GlacierMailModel", "count", "(I)I"⟩]
def gm_mn (i : Nat) : MethodName := (gm_mnl[i]?).getD ⟨"", "", ""⟩
def gm_bcl : List ByteArray := [prog_1_method_1_code, prog_8_method_1_code, prog_7_method_1_code, prog_3_method_1_code, prog_4_method_1_code, prog_4_method_2_code, prog_4_method_3_code, prog_4_method_4_code, prog_34_method_103_code, prog_7_method_2_code, prog_7_method_6_code, prog_24_method_65_code, prog_4_method_5_code, prog_11_method_1_code, prog_2_method_1_code, prog_10_method_1_code, prog_9_method_1_code, prog_12_method_1_code, prog_6_method_1_code, prog_1_method_2_code, prog_1_method_3_code, prog_1_method_4_code, prog_1_method_8_code, prog_1_method_27_code, prog_1_method_65_code, prog_7_method_5_code, prog_24_method_69_code, prog_11_method_3_code, prog_8_method_4_code, prog_11_method_2_code, prog_11_method_11_code, prog_11_method_6_code, prog_11_method_7_code, prog_11_method_8_code, prog_4_method_6_code, prog_4_method_9_code, prog_4_method_8_code, prog_4_method_10_code, prog_34_method_101_code, prog_4_method_12_code, prog_5_method_2_code, prog_5_method_4_code, prog_4_method_11_code, prog_11_method_9_code, prog_4_method_7_code, prog_7_method_7_code, prog_1_method_28_code, prog_1_method_66_code, prog_1_method_37_code, prog_23_method_49_code, prog_1_method_38_code, prog_1_method_36_code, prog_1_method_51_code, prog_1_method_52_code, prog_1_method_58_code, prog_3_method_5_code, prog_3_method_3_code, prog_8_method_2_code, prog_7_method_8_code, prog_1_method_59_code, prog_1_method_60_code, prog_1_method_7_code, prog_3_method_6_code, prog_1_method_61_code, prog_1_method_62_code, prog_1_method_70_code, prog_1_method_69_code, prog_1_method_68_code, prog_1_method_71_code, prog_3_method_2_code, method_3_code, prog_1_method_5_code, prog_9_method_4_code, prog_6_method_2_code, prog_10_method_2_code, prog_12_method_2_code, prog_12_method_4_code, prog_12_method_5_code, prog_12_method_6_code, prog_6_method_4_code, prog_6_method_5_code, prog_12_method_7_code, prog_26_method_54_code, prog_26_method_152_code, prog_26_method_56_code, prog_26_method_154_code, prog_27_method_2_code, prog_26_method_155_code, prog_36_method_11_code, prog_28_method_83_code, prog_28_method_91_code, prog_28_method_6_code, prog_28_method_5_code, prog_12_method_12_code, prog_12_method_11_code, prog_12_method_8_code, prog_6_method_7_code, prog_6_method_8_code, prog_12_method_10_code, prog_6_method_6_code, prog_6_method_9_code, prog_6_method_10_code, prog_7_method_4_code, prog_10_method_3_code, prog_10_method_4_code, prog_8_method_3_code, prog_10_method_5_code, prog_10_method_6_code, prog_7_method_3_code, prog_10_method_7_code, prog_10_method_8_code, prog_10_method_16_code, prog_12_method_9_code, prog_10_method_9_code, prog_10_method_10_code, prog_10_method_11_code, prog_10_method_12_code, prog_10_method_15_code, prog_10_method_13_code, prog_8_method_5_code, prog_10_method_14_code, prog_12_method_3_code, method_4_code, prog_1_method_6_code, prog_6_method_3_code, prog_34_method_123_code, prog_5_method_1_code, method_5_code, prog_1_method_9_code, prog_1_method_83_code, method_6_code, prog_1_method_10_code, prog_1_method_78_code, prog_1_method_77_code, prog_1_method_79_code, method_7_code, prog_1_method_11_code, method_8_code, prog_1_method_12_code, prog_1_method_80_code, prog_1_method_72_code, method_9_code, prog_1_method_13_code, prog_1_method_81_code, prog_1_method_63_code, prog_1_method_64_code, method_10_code, prog_1_method_14_code, prog_11_method_10_code, method_11_code, prog_1_method_15_code, method_12_code, prog_1_method_16_code, prog_1_method_85_code, prog_3_method_4_code, method_13_code, prog_1_method_17_code, method_14_code, prog_1_method_18_code, prog_8_method_6_code, method_15_code, prog_1_method_19_code, prog_1_method_20_code, prog_1_method_21_code, prog_4_method_13_code, prog_5_method_3_code, method_16_code, prog_1_method_22_code, method_17_code, prog_1_method_23_code, prog_11_method_4_code, method_18_code, prog_1_method_24_code, method_19_code, prog_1_method_25_code, prog_11_method_5_code, method_20_code, prog_1_method_26_code, method_21_code, prog_1_method_29_code, prog_1_method_73_code, prog_1_method_30_code, prog_1_method_74_code, prog_1_method_76_code, prog_1_method_75_code, method_22_code, prog_1_method_31_code, prog_1_method_84_code, prog_1_method_33_code, method_23_code, prog_1_method_32_code, method_24_code, prog_1_method_34_code, prog_1_method_82_code, method_25_code, prog_1_method_35_code, method_26_code, prog_1_method_39_code, prog_1_method_40_code, prog_1_method_41_code, method_27_code, prog_1_method_42_code, prog_2_method_2_code, prog_2_method_3_code, prog_2_method_4_code, prog_2_method_5_code, method_28_code, prog_1_method_43_code, prog_2_method_6_code, prog_2_method_7_code, method_29_code, prog_1_method_44_code, method_30_code, prog_1_method_45_code, prog_1_method_86_code, prog_1_method_67_code, prog_1_method_46_code, method_31_code, prog_1_method_47_code, prog_1_method_48_code, method_32_code, prog_1_method_49_code, method_33_code, prog_1_method_50_code, method_34_code, prog_1_method_53_code, method_35_code, prog_1_method_54_code, method_36_code, prog_1_method_55_code, method_37_code, prog_1_method_56_code, method_38_code, prog_1_method_57_code, prog_14_method_1_code, prog_14_method_5_code, prog_14_method_65_code, prog_14_method_6_code, prog_14_method_7_code, prog_14_method_9_code, prog_14_method_24_code, prog_14_method_25_code, prog_14_method_35_code, prog_14_method_60_code, prog_14_method_59_code, prog_14_method_36_code, prog_14_method_27_code, prog_14_method_26_code, prog_14_method_58_code, prog_14_method_28_code, prog_14_method_50_code, prog_14_method_29_code, prog_14_method_40_code, prog_14_method_39_code, prog_14_method_12_code, prog_14_method_13_code, prog_14_method_33_code, prog_14_method_32_code, prog_14_method_41_code, prog_14_method_43_code, prog_14_method_11_code, prog_14_method_42_code, prog_14_method_10_code, prog_14_method_44_code, prog_14_method_38_code, prog_14_method_34_code, prog_14_method_45_code, prog_14_method_14_code, prog_14_method_46_code, prog_14_method_37_code, prog_14_method_30_code, prog_14_method_48_code, prog_14_method_47_code, prog_14_method_17_code, prog_14_method_49_code, prog_14_method_57_code, prog_14_method_56_code, prog_14_method_55_code, prog_14_method_54_code, prog_14_method_31_code, prog_14_method_51_code, prog_14_method_53_code, prog_14_method_52_code, prog_14_method_2_code, prog_14_method_61_code, prog_14_method_69_code, prog_14_method_23_code, prog_14_method_3_code, prog_14_method_70_code, prog_14_method_19_code, prog_14_method_20_code, prog_14_method_67_code, prog_14_method_71_code, prog_14_method_68_code, prog_14_method_66_code, prog_14_method_64_code, prog_14_method_63_code, prog_14_method_62_code, prog_14_method_81_code, prog_14_method_21_code, prog_14_method_15_code, prog_14_method_80_code, prog_14_method_16_code, prog_14_method_79_code, prog_14_method_18_code, prog_14_method_75_code, prog_14_method_74_code, prog_14_method_73_code, prog_14_method_72_code, prog_14_method_83_code, prog_14_method_22_code, prog_14_method_82_code, prog_14_method_78_code, prog_14_method_77_code, prog_14_method_84_code, prog_14_method_85_code, prog_14_method_86_code, prog_14_method_8_code, prog_14_method_87_code, prog_14_method_89_code, prog_14_method_88_code, prog_14_method_93_code, prog_14_method_92_code, prog_14_method_91_code, prog_14_method_90_code, prog_14_method_94_code, prog_14_method_76_code, prog_14_method_95_code, prog_14_method_96_code, prog_14_method_97_code, prog_14_method_98_code, prog_14_method_99_code, prog_14_method_102_code, prog_14_method_100_code, prog_14_method_101_code, prog_14_method_106_code, prog_14_method_103_code, prog_14_method_105_code, prog_14_method_104_code, prog_14_method_108_code, prog_14_method_107_code, prog_14_method_109_code, prog_14_method_112_code, prog_14_method_111_code, prog_14_method_110_code, prog_14_method_114_code, prog_14_method_113_code, prog_14_method_4_code, prog_14_method_115_code, prog_14_method_116_code, prog_14_method_121_code, prog_14_method_119_code, prog_14_method_117_code, prog_14_method_118_code, prog_14_method_120_code, prog_14_method_123_code, prog_14_method_122_code, prog_14_method_124_code, prog_14_method_126_code, prog_14_method_125_code, prog_14_method_127_code, prog_14_method_128_code, prog_14_method_129_code, prog_14_method_130_code, prog_14_method_131_code, prog_14_method_132_code, prog_14_method_133_code, prog_14_method_134_code, prog_14_method_135_code, prog_14_method_136_code]
def gm_bc (i : Nat) : ByteArray := (gm_bcl[i]?).getD ⟨#[]⟩
def gm_ml (i : Nat) : Nat := (([1, 1, 3, 2, 2, 1, 3, 6, 4, 1, 3, 2, 3, 3, 3, 3, 4, 3, 2, 6, 3, 2, 1, 3, 2, 2, 2, 3, 2, 5, 3, 1, 2, 1, 2, 7, 4, 3, 5, 5, 5, 14, 6, 5, 2, 4, 7, 5, 4, 1, 4, 5, 3, 7, 1, 3, 2, 2, 2, 1, 1, 1, 1, 2, 1, 5, 3, 3, 3, 1, 3, 1, 3, 1, 1, 2, 2, 1, 1, 5, 1, 3, 1, 1, 2, 1, 2, 2, 3, 2, 2, 1, 2, 1, 4, 3, 4, 4, 2, 2, 3, 1, 1, 1, 2, 1, 2, 5, 1, 6, 3, 1, 2, 2, 2, 5, 5, 1, 3, 6, 1, 1, 3, 1, 1, 3, 3, 4, 2, 2, 5, 3, 2, 3, 2, 6, 4, 5, 3, 2, 5, 5, 3, 2, 2, 3, 5, 3, 3, 5, 3, 5, 3, 3, 3, 5, 4, 4, 2, 4, 4, 4, 4, 6, 5, 4, 7, 9, 5, 4, 3, 5, 5, 5, 3, 2, 4, 2, 4, 4, 3, 5, 5, 1, 1, 6, 6, 3, 6, 7, 5, 5, 3, 2, 6, 4, 3, 4, 5, 4, 6, 5, 7, 10, 3, 3, 6, 4, 9, 7, 5, 5, 5, 5, 2, 5, 4, 5, 5, 7, 5, 5, 4, 2, 5, 6, 5, 4, 5, 7, 4, 4, 5, 3, 1, 1, 3, 2, 2, 2, 7, 2, 1, 3, 3, 1, 1, 3, 3, 1, 3, 4, 2, 1, 1, 1, 3, 5, 2, 4, 1, 4, 1, 3, 1, 4, 5, 1, 5, 1, 2, 3, 6, 4, 2, 3, 1, 1, 3, 2, 3, 1, 2, 3, 3, 2, 1, 3, 3, 2, 2, 5, 4, 6, 3, 4, 9, 3, 3, 2, 3, 6, 3, 3, 2, 2, 3, 9, 7, 4, 2, 3, 3, 2, 3, 3, 3, 2, 4, 2, 4, 4, 4, 4, 3, 9, 4, 5, 5, 3, 2, 3, 6, 2, 6, 4, 2, 3, 2, 6, 6, 5, 3, 2, 3, 4, 6, 2, 6, 5, 5, 7, 2, 3, 3, 7, 6, 6, 5, 5, 8, 4, 2, 5, 5, 4, 7, 4, 3, 5] : List Nat)[i]?).getD 0
def gm_ow (i : Nat) : Nat := (([0, 1, 2, 3, 4, 4, 4, 4, 5, 2, 2, 6, 4, 7, 8, 9, 10, 11, 12, 0, 0, 0, 0, 0, 0, 2, 6, 7, 1, 7, 7, 7, 7, 7, 4, 4, 4, 4, 5, 4, 13, 13, 4, 7, 4, 2, 0, 0, 0, 14, 0, 0, 0, 0, 0, 3, 3, 1, 2, 0, 0, 0, 3, 0, 0, 0, 0, 0, 0, 3, 15, 0, 10, 12, 9, 11, 11, 11, 11, 12, 12, 11, 16, 16, 16, 16, 17, 16, 18, 19, 19, 19, 19, 11, 11, 11, 12, 12, 11, 12, 12, 12, 2, 9, 9, 1, 9, 9, 2, 9, 9, 9, 11, 9, 9, 9, 9, 9, 9, 1, 9, 11, 15, 0, 12, 5, 13, 15, 0, 0, 15, 0, 0, 0, 0, 15, 0, 15, 0, 0, 0, 15, 0, 0, 0, 0, 15, 0, 7, 15, 0, 15, 0, 0, 3, 15, 0, 15, 0, 1, 15, 0, 0, 0, 4, 13, 15, 0, 15, 0, 7, 15, 0, 15, 0, 7, 15, 0, 15, 0, 0, 0, 0, 0, 0, 15, 0, 0, 0, 15, 0, 15, 0, 0, 15, 0, 15, 0, 0, 0, 15, 0, 8, 8, 8, 8, 15, 0, 8, 8, 15, 0, 15, 0, 0, 0, 0, 15, 0, 0, 15, 0, 15, 0, 15, 0, 15, 0, 15, 0, 15, 0, 15, 0, 20, 20, 20, 20, 20, 20, 20, 20, 20, 20, 20, 20, 20, 20, 20, 20, 20, 20, 20, 20, 20, 20, 20, 20, 20, 20, 20, 20, 20, 20, 20, 20, 20, 20, 20, 20, 20, 20, 20, 20, 20, 20, 20, 20, 20, 20, 20, 20, 20, 20, 20, 20, 20, 20, 20, 20, 20, 20, 20, 20, 20, 20, 20, 20, 20, 20, 20, 20, 20, 20, 20, 20, 20, 20, 20, 20, 20, 20, 20, 20, 20, 20, 20, 20, 20, 20, 20, 20, 20, 20, 20, 20, 20, 20, 20, 20, 20, 20, 20, 20, 20, 20, 20, 20, 20, 20, 20, 20, 20, 20, 20, 20, 20, 20, 20, 20, 20, 20, 20, 20, 20, 20, 20, 20, 20, 20, 20, 20, 20, 20, 20, 20, 20, 20, 20, 20] : List Nat)[i]?).getD 0
def gm_rt (i : Nat) : Option FieldType := (([none, none, none, none, none, none, none, none, none, (some .int), (some .int), (some .int), none, none, none, none, none, none, none, (some .int), none, (some .boolean), (some .int), (some .int), none, none, (some .int), none, (some .boolean), none, (some .int), (some .boolean), none, (some .int), (some .int), (some .int), (some .int), (some .int), none, none, (some .int), (some .boolean), none, none, (some .int), none, (some .int), (some .int), (some .int), (some .int), (some .boolean), (some .boolean), (some .int), (some .int), (some .boolean), (some .boolean), (some (.object "GlacierMail$State")), none, none, none, (some .boolean), none, none, (some .int), (some .int), (some .int), (some .boolean), (some .boolean), (some .int), (some .int), (some .int), (some .int), (some .int), none, none, none, none, (some .boolean), (some .boolean), (some .boolean), (some .int), (some .boolean), (some .int), (some .byte), (some .char), (some .boolean), (some .char), none, (some .int), (some .char), none, (some .int), (some .char), (some .boolean), (some .int), (some .boolean), (some .boolean), (some .boolean), (some .boolean), none, (some .boolean), (some .int), (some .int), (some .boolean), (some .boolean), (some .boolean), (some .boolean), (some .boolean), (some .boolean), (some .boolean), (some .boolean), (some .int), (some .boolean), (some .boolean), (some .boolean), (some .boolean), (some .boolean), (some .int), (some .boolean), (some .int), (some .boolean), (some .int), (some .int), (some .int), (some (.object "GlacierMail$Law")), (some (.array .int)), none, (some .int), (some .int), none, (some .int), (some .int), none, none, none, (some .int), (some .int), (some .int), (some .int), none, (some .int), (some .int), (some .int), none, (some .int), (some .int), (some .int), (some .int), none, (some .int), (some .int), (some .int), (some .int), none, none, (some .int), (some .int), (some .int), (some .int), none, (some .int), (some .int), (some .int), (some .int), (some .boolean), (some .boolean), (some .int), (some .int), (some .int), (some .int), none, (some .int), (some .int), (some .int), (some .int), none, (some .int), (some .int), (some .int), (some .int), (some .boolean), (some .boolean), (some .int), (some .boolean), none, (some .int), (some .int), none, (some .int), (some .int), (some .int), (some .int), (some .int), none, (some .int), (some .boolean), (some .int), (some .int), (some .boolean), (some .boolean), (some .int), (some .int), none, none, (some .int), (some .int), (some .int), (some .int), (some .int), (some .int), (some .int), (some .int), (some .int), (some .int), none, none, (some .int), (some .int), (some .int), (some .int), (some .int), (some .int), (some .int), (some .int), (some .int), (some .int), (some .int), (some .int), (some .int), (some .int), (some .int), (some .int), (some .int), (some .int), (some .int), none, none, none, (some .boolean), (some .boolean), (some .int), (some .boolean), (some .int), (some .int), (some .int), none, none, (some .boolean), (some .boolean), none, (some .boolean), (some .boolean), (some .boolean), (some .boolean), (some .int), (some .int), (some .int), (some .int), (some .boolean), (some .boolean), (some .int), (some .boolean), (some .int), (some .boolean), (some .int), (some .int), (some .boolean), (some .int), (some .boolean), (some .int), (some .boolean), (some .boolean), none, none, (some .boolean), (some .boolean), (some .boolean), (some .boolean), (some .boolean), (some .boolean), none, (some .boolean), (some .boolean), (some .boolean), (some .int), (some .int), (some .boolean), (some .boolean), (some .int), (some .boolean), (some .boolean), (some .int), (some .int), (some .int), none, (some .int), (some .boolean), (some .int), (some .int), (some .boolean), (some .int), (some .int), (some .int), (some .boolean), (some .boolean), (some .int), none, none, (some .int), (some .int), (some .boolean), (some .int), (some .boolean), (some .boolean), (some .int), (some .int), (some .int), none, (some .int), (some .int), none, (some .int), (some .int), (some .int), (some .boolean), (some .int), (some .int), (some .int), (some .int), (some .int), (some .int), (some .int), (some .int), none, (some .int), (some .int), none, (some .boolean), (some .boolean), (some .int), (some .int), (some .int), (some .int), (some .boolean), (some .int), (some .boolean), (some .boolean), (some .boolean), (some .int), (some .int), (some .int), none, (some .int), (some .boolean), (some .int), (some .int), (some .int), (some .int), (some .int), none, (some .int), (some .int), (some .int), (some .int), (some .int), (some .int), (some .int), (some .int), (some .int), (some .int)] : List (Option FieldType))[i]?).getD none
end
section
/-! INSTRUCTION TABLES, laid by wip/am/gen_tables.py, and the check that they are what the code decodes to. -/
def gm_len : Instr → Nat
  | .bipush _ | .ldc _ | .iload _ | .istore _ | .aload _ | .astore _ | .lload _ | .lstore _ | .newarray _ => 2
  | .sipush _ | .ldc_w _ | .ldc2_w _ | .iinc _ _ | .ifCond _ _ | .if_icmp _ _ | .if_acmp _ _ | .goto _ | .ifnull _ | .ifnonnull _ | .getfield _ | .putfield _ | .getstatic _ | .invokevirtual _ | .invokespecial _ | .invokestatic _ | .new _ | .anewarray _ | .checkcast _ => 3
  | _ => 1
def gm_sw : Instr → Bool
  | .tableswitch .. => true
  | .lookupswitch .. => true
  | _ => false
def gm_c0 : List (List (Nat × Instr)) := [[(0, .aload_n 0), (1, .invokespecial 3), (4, .aload_n 0), (5, .sipush 400), (8, .newarray .byte), (10, .putfield 9), (13, .aload_n 0), (14, .iconst 0), (15, .putfield 13), (18, .aload_n 0), (19, .iconst (-1)), (20, .putfield 17), (23, .aload_n 0), (24, .new 20), (27, .dup), (28, .invokespecial 22), (31, .putfield 23)], [(34, .aload_n 0), (35, .new 20), (38, .dup), (39, .invokespecial 22), (42, .putfield 27), (45, .aload_n 0), (46, .new 20), (49, .dup), (50, .invokespecial 22), (53, .putfield 30), (56, .aload_n 0), (57, .iconst 0), (58, .putfield 33), (61, .aload_n 0), (62, .new 37)], [(65, .dup), (66, .invokespecial 39), (69, .putfield 40), (72, .aload_n 0), (73, .new 44), (76, .dup), (77, .aload_n 0), (78, .getfield 23), (81, .invokespecial 46), (84, .putfield 49), (87, .aload_n 0), (88, .new 53), (91, .dup), (92, .aload_n 0), (93, .getfield 23)], [(96, .aload_n 0), (97, .getfield 49), (100, .invokespecial 55), (103, .putfield 58), (106, .aload_n 0), (107, .new 53), (110, .dup), (111, .aload_n 0), (112, .getfield 23), (115, .aload_n 0), (116, .getfield 49), (119, .invokespecial 55), (122, .putfield 62), (125, .aload_n 0), (126, .new 65)], [(129, .dup), (130, .aload_n 0), (131, .getfield 23), (134, .aload_n 0), (135, .getfield 58), (138, .invokespecial 67), (141, .putfield 70), (144, .aload_n 0), (145, .new 74), (148, .dup), (149, .aload_n 0), (150, .getfield 9), (153, .aload_n 0), (154, .getfield 27), (157, .invokespecial 76)], [(160, .putfield 79), (163, .aload_n 0), (164, .new 83), (167, .dup), (168, .aload_n 0), (169, .getfield 9), (172, .invokespecial 85), (175, .putfield 88), (178, .aload_n 0), (179, .new 92), (182, .dup), (183, .bipush 24), (185, .iconst 2), (186, .invokespecial 94), (189, .putfield 97)], [(192, .aload_n 0), (193, .iconst 0), (194, .putfield 101), (197, .aload_n 0), (198, .new 92), (201, .dup), (202, .bipush 30), (204, .bipush 6), (206, .invokespecial 94), (209, .putfield 104), (212, .aload_n 0), (213, .new 92), (216, .dup), (217, .bipush 31), (219, .bipush 6), (221, .invokespecial 94)], [(224, .putfield 107), (227, .return_)]]
def gm_c1 : List (List (Nat × Instr)) := [[(0, .aload_n 0), (1, .invokespecial 3), (4, .aload_n 0), (5, .iconst 3), (6, .putfield 9), (9, .aload_n 0), (10, .bipush 40), (12, .putfield 15), (15, .aload_n 0), (16, .bipush 10), (18, .putfield 18), (21, .aload_n 0), (22, .iconst 2), (23, .putfield 21), (26, .aload_n 0), (27, .iconst 3), (28, .putfield 24), (31, .aload_n 0)], [(32, .iconst 1), (33, .putfield 27), (36, .aload_n 0), (37, .iconst 0), (38, .putfield 30), (41, .aload_n 0), (42, .iconst 0), (43, .putfield 33), (46, .aload_n 0), (47, .aconst_null), (48, .putfield 36), (51, .aload_n 0), (52, .new 40), (55, .dup), (56, .bipush 8), (58, .bipush 7), (60, .invokespecial 42), (63, .putfield 45)], [(66, .aload_n 0), (67, .new 40), (70, .dup), (71, .bipush 8), (73, .iconst 3), (74, .invokespecial 42), (77, .putfield 49), (80, .aload_n 0), (81, .new 40), (84, .dup), (85, .bipush 8), (87, .iconst 3), (88, .invokespecial 42), (91, .putfield 52), (94, .aload_n 0), (95, .new 40)], [(98, .dup), (99, .bipush 24), (101, .bipush 7), (103, .invokespecial 42), (106, .putfield 55), (109, .aload_n 0), (110, .new 40), (113, .dup), (114, .bipush 6), (116, .bipush 6), (118, .invokespecial 42), (121, .putfield 58), (124, .aload_n 0), (125, .new 40)], [(128, .dup), (129, .bipush 24), (131, .iconst 3), (132, .invokespecial 42), (135, .putfield 61), (138, .return_)]]
def gm_c2 : List (List (Nat × Instr)) := [[(0, .aload_n 0), (1, .invokespecial 3), (4, .aload_n 0), (5, .iconst 0), (6, .putfield 9), (9, .aload_n 0), (10, .iload_n 1), (11, .putfield 15), (14, .aload_n 0), (15, .iload_n 2), (16, .putfield 18), (19, .aload_n 0), (20, .iload_n 1), (21, .iload_n 2), (22, .imul), (23, .newarray .int), (25, .putfield 21), (28, .return_)]]
def gm_c3 : List (List (Nat × Instr)) := [[(0, .aload_n 0), (1, .invokespecial 3), (4, .aload_n 0), (5, .bipush 12), (7, .anewarray 9), (10, .putfield 11), (13, .aload_n 0), (14, .iconst 0), (15, .putfield 17), (18, .aload_n 0), (19, .iconst 0), (20, .putfield 21), (23, .iconst 0), (24, .istore_n 1), (25, .iload_n 1), (26, .aload_n 0), (27, .getfield 11), (30, .arraylength), (31, .if_icmp .ge 22)], [(34, .aload_n 0), (35, .getfield 11), (38, .iload_n 1), (39, .new 9), (42, .dup), (43, .invokespecial 24), (46, .aastore), (47, .iinc 1 1), (50, .goto (-25)), (53, .return_)]]
def gm_c4 : List (List (Nat × Instr)) := [[(0, .aload_n 0), (1, .invokespecial 3), (4, .aload_n 0), (5, .sipush 300), (8, .newarray .int), (10, .putfield 9), (13, .aload_n 0), (14, .sipush 594), (17, .newarray .int), (19, .putfield 15), (22, .aload_n 0), (23, .sipush 300), (26, .newarray .int), (28, .putfield 18), (31, .aload_n 0)], [(32, .bipush 10), (34, .newarray .int), (36, .putfield 23), (39, .aload_n 0), (40, .sipush 14850), (43, .newarray .long), (45, .putfield 26), (48, .aload_n 0), (49, .iconst 1), (50, .putfield 30), (53, .aload_n 0), (54, .aload_n 1), (55, .putfield 34), (58, .aload_n 0), (59, .invokevirtual 38), (62, .return_)]]
def gm_c5 : List (List (Nat × Instr)) := [[(0, .aload_n 0), (1, .invokevirtual 41), (4, .aload_n 0), (5, .invokevirtual 44), (8, .aload_n 0), (9, .invokevirtual 47), (12, .aload_n 0), (13, .iconst 1), (14, .putfield 30), (17, .return_)]]
def gm_c6 : List (List (Nat × Instr)) := [[(0, .aload_n 0), (1, .getfield 34), (4, .getfield 50), (7, .istore_n 1), (8, .iconst 0), (9, .istore_n 2), (10, .iload_n 2), (11, .sipush 300), (14, .if_icmp .ge 35), (17, .ldc 56), (19, .iload_n 1), (20, .imul), (21, .sipush 12345), (24, .iadd), (25, .istore_n 1), (26, .aload_n 0), (27, .getfield 9), (30, .iload_n 2), (31, .iload_n 1)], [(32, .bipush 16), (34, .iushr), (35, .sipush 32767), (38, .iand), (39, .bipush 10), (41, .irem), (42, .iastore), (43, .iinc 2 1), (46, .goto (-36)), (49, .return_)]]
def gm_c7 : List (List (Nat × Instr)) := [[(0, .aload_n 0), (1, .getfield 15), (4, .iconst 0), (5, .invokestatic 57), (8, .iconst 0), (9, .istore_n 1), (10, .iload_n 1), (11, .aload_n 0), (12, .getfield 34), (15, .getfield 63), (18, .invokevirtual 67), (21, .if_icmp .ge 109), (24, .iconst 0), (25, .aload_n 0), (26, .getfield 34), (29, .getfield 63)], [(32, .iload_n 1), (33, .iconst 0), (34, .invokevirtual 73), (37, .invokestatic 77), (40, .istore_n 2), (41, .iconst 0), (42, .istore_n 3), (43, .iload_n 3), (44, .aload_n 0), (45, .getfield 34), (48, .getfield 82), (51, .if_icmp .ge 73), (54, .iload_n 3), (55, .bipush 6), (57, .if_icmp .ge 67), (60, .aload_n 0), (61, .getfield 34)], [(64, .getfield 63), (67, .iload_n 1), (68, .iconst 1), (69, .iload_n 3), (70, .iadd), (71, .invokevirtual 73), (74, .istore 4), (76, .iload_n 2), (77, .istore 5), (79, .iload 5), (81, .aload_n 0), (82, .getfield 34), (85, .getfield 85), (88, .if_icmp .ge 30), (91, .iload 5), (93, .bipush 99), (95, .if_icmp .ge 23)], [(98, .aload_n 0), (99, .getfield 15), (102, .iload_n 3), (103, .bipush 99), (105, .imul), (106, .iload 5), (108, .iadd), (109, .iload 4), (111, .iastore), (112, .iinc 5 1), (115, .goto (-36)), (118, .iinc 3 1), (121, .goto (-78)), (124, .iinc 1 1), (127, .goto (-117))], [(130, .return_)]]
def gm_c8 : List (List (Nat × Instr)) := [[(0, .iconst 0), (1, .istore_n 2), (2, .aload_n 0), (3, .arraylength), (4, .istore_n 3), (5, .iload_n 2), (6, .iload_n 3), (7, .if_icmp .ge 13), (10, .aload_n 0), (11, .iload_n 2), (12, .iload_n 1), (13, .iastore), (14, .iinc 2 1), (17, .goto (-12)), (20, .return_)]]
def gm_c9 : List (List (Nat × Instr)) := [[(0, .aload_n 0), (1, .getfield 9), (4, .ireturn)]]
def gm_c10 : List (List (Nat × Instr)) := [[(0, .iload_n 1), (1, .ifCond .lt 23), (4, .iload_n 1), (5, .aload_n 0), (6, .getfield 9), (9, .if_icmp .ge 15), (12, .iload_n 2), (13, .ifCond .lt 11), (16, .iload_n 2), (17, .aload_n 0), (18, .getfield 18), (21, .if_icmp .lt 5), (24, .iconst (-1)), (25, .ireturn), (26, .aload_n 0), (27, .getfield 21), (30, .iload_n 1), (31, .aload_n 0)], [(32, .getfield 18), (35, .imul), (36, .iload_n 2), (37, .iadd), (38, .iaload), (39, .ireturn)]]
def gm_c11 : List (List (Nat × Instr)) := [[(0, .iload_n 0), (1, .iload_n 1), (2, .if_icmp .lt 7), (5, .iload_n 0), (6, .goto 4), (9, .iload_n 1), (10, .ireturn)]]
def gm_c12 : List (List (Nat × Instr)) := [[(0, .aload_n 0), (1, .getfield 18), (4, .iconst 0), (5, .invokestatic 57), (8, .iconst 0), (9, .istore_n 1), (10, .iload_n 1), (11, .aload_n 0), (12, .getfield 34), (15, .getfield 88), (18, .invokevirtual 67), (21, .if_icmp .ge 45), (24, .aload_n 0), (25, .getfield 34), (28, .getfield 88), (31, .iload_n 1)], [(32, .iconst 0), (33, .invokevirtual 73), (36, .istore_n 2), (37, .iload_n 2), (38, .ifCond .lt 22), (41, .iload_n 2), (42, .sipush 300), (45, .if_icmp .ge 15), (48, .aload_n 0), (49, .getfield 18), (52, .iload_n 2), (53, .dup2), (54, .iaload), (55, .iconst 1), (56, .iload_n 1), (57, .ishl), (58, .ior), (59, .iastore), (60, .iinc 1 1), (63, .goto (-53))], [(66, .return_)]]
def gm_c13 : List (List (Nat × Instr)) := [[(0, .aload_n 0), (1, .invokespecial 3), (4, .aload_n 0), (5, .iconst 0), (6, .putfield 9), (9, .aload_n 0), (10, .iconst 0), (11, .putfield 15), (14, .aload_n 0), (15, .iconst (-1)), (16, .putfield 19), (19, .aload_n 0), (20, .iconst 0), (21, .putfield 22), (24, .aload_n 0), (25, .iconst 0), (26, .putfield 25), (29, .aload_n 0), (30, .iconst 0), (31, .putfield 28)], [(34, .aload_n 0), (35, .iconst 0), (36, .putfield 31), (39, .aload_n 0), (40, .aload_n 1), (41, .putfield 34), (44, .aload_n 0), (45, .aload_n 2), (46, .putfield 38), (49, .return_)]]
def gm_c14 : List (List (Nat × Instr)) := [[(0, .aload_n 0), (1, .invokespecial 3), (4, .aload_n 0), (5, .new 9), (8, .dup), (9, .bipush 8), (11, .sipush 300), (14, .invokespecial 11), (17, .putfield 14), (20, .aload_n 0), (21, .new 9), (24, .dup), (25, .bipush 8), (27, .sipush 300), (30, .invokespecial 11)], [(33, .putfield 20), (36, .aload_n 0), (37, .aload_n 1), (38, .putfield 23), (41, .aload_n 0), (42, .aload_n 2), (43, .putfield 27), (46, .return_)]]
def gm_c15 : List (List (Nat × Instr)) := [[(0, .aload_n 0), (1, .aload_n 1), (2, .iconst 4), (3, .bipush 14), (5, .invokespecial 3), (8, .aload_n 0), (9, .aload_n 2), (10, .putfield 9), (13, .return_)]]
def gm_c16 : List (List (Nat × Instr)) := [[(0, .aload_n 0), (1, .invokespecial 3), (4, .aload_n 0), (5, .new 9), (8, .dup), (9, .aload_n 1), (10, .iload_n 2), (11, .invokespecial 11), (14, .putfield 14), (17, .aload_n 0), (18, .iload_n 3), (19, .putfield 20), (22, .return_)]]
def gm_c17 : List (List (Nat × Instr)) := [[(0, .aload_n 0), (1, .invokespecial 3), (4, .aload_n 0), (5, .iconst 0), (6, .putfield 9), (9, .aload_n 0), (10, .iconst 0), (11, .putfield 15), (14, .aload_n 0), (15, .iconst 0), (16, .putfield 18), (19, .aload_n 0), (20, .iconst (-1)), (21, .putfield 21), (24, .aload_n 0), (25, .sipush 256), (28, .putfield 24), (31, .aload_n 0)], [(32, .iconst (-1)), (33, .putfield 27), (36, .aload_n 0), (37, .aload_n 1), (38, .putfield 30), (41, .aload_n 0), (42, .iload_n 2), (43, .putfield 34), (46, .return_)]]
def gm_c18 : List (List (Nat × Instr)) := [[(0, .aload_n 0), (1, .aload_n 1), (2, .iconst 3), (3, .bipush 12), (5, .invokespecial 3), (8, .aload_n 0), (9, .new 9), (12, .dup), (13, .bipush 12), (15, .iconst 4), (16, .invokespecial 11), (19, .putfield 14), (22, .aload_n 0), (23, .sipush 400), (26, .newarray .int), (28, .putfield 20), (31, .aload_n 0)], [(32, .iconst 0), (33, .putfield 24), (36, .return_)]]
def gm_c19 : List (List (Nat × Instr)) := [[(0, .aload_n 0), (1, .getfield 13), (4, .bipush 20), (6, .iadd), (7, .sipush 400), (10, .if_icmp .le 5), (13, .iconst (-1)), (14, .ireturn), (15, .aload_n 0), (16, .iload_n 1), (17, .invokevirtual 110), (20, .aload_n 0), (21, .iload_n 2), (22, .invokevirtual 110), (25, .aload_n 0), (26, .iload_n 3), (27, .invokevirtual 110), (30, .aload_n 0), (31, .iload 4)], [(33, .invokevirtual 110), (36, .aload_n 0), (37, .iload 5), (39, .invokevirtual 110), (42, .aload_n 0), (43, .getfield 13), (46, .ireturn)]]
def gm_c20 : List (List (Nat × Instr)) := [[(0, .bipush 24), (2, .istore_n 2), (3, .iload_n 2), (4, .ifCond .lt 44), (7, .aload_n 0), (8, .getfield 13), (11, .aload_n 0), (12, .getfield 9), (15, .arraylength), (16, .if_icmp .ge 26), (19, .aload_n 0), (20, .getfield 9), (23, .aload_n 0), (24, .getfield 13), (27, .iload_n 1), (28, .iload_n 2), (29, .iushr), (30, .i2b), (31, .bastore)], [(32, .aload_n 0), (33, .dup), (34, .getfield 13), (37, .iconst 1), (38, .iadd), (39, .putfield 13), (42, .iinc 2 (-8)), (45, .goto (-42)), (48, .return_)]]
def gm_c21 : List (List (Nat × Instr)) := [[(0, .iload_n 1), (1, .ifCond .lt 11), (4, .iload_n 1), (5, .aload_n 0), (6, .getfield 13), (9, .if_icmp .le 5), (12, .iconst 0), (13, .ireturn), (14, .aload_n 0), (15, .iload_n 1), (16, .putfield 13), (19, .iconst 1), (20, .ireturn)]]
def gm_c22 : List (List (Nat × Instr)) := [[(0, .aload_n 0), (1, .getfield 17), (4, .ireturn)]]
def gm_c23 : List (List (Nat × Instr)) := [[(0, .aload_n 0), (1, .invokevirtual 254), (4, .iconst 0), (5, .istore_n 1), (6, .iconst 0), (7, .istore_n 2), (8, .iload_n 2), (9, .aload_n 0), (10, .getfield 97), (13, .invokevirtual 277), (16, .if_icmp .ge 28), (19, .aload_n 0), (20, .getfield 97), (23, .iload_n 2), (24, .iconst 0), (25, .invokevirtual 186), (28, .iconst (-1)), (29, .if_icmp .ne 9)], [(32, .iload_n 1), (33, .iconst 1), (34, .iload_n 2), (35, .ishl), (36, .ior), (37, .istore_n 1), (38, .iinc 2 1), (41, .goto (-33)), (44, .iload_n 1), (45, .ireturn)]]
def gm_c24 : List (List (Nat × Instr)) := [[(0, .aload_n 0), (1, .getfield 101), (4, .ifCond .eq 4), (7, .return_), (8, .aload_n 0), (9, .getfield 97), (12, .aload_n 0), (13, .getfield 23), (16, .getfield 203), (19, .invokevirtual 277), (22, .invokevirtual 390), (25, .iconst 0), (26, .istore_n 1), (27, .iload_n 1), (28, .aload_n 0), (29, .getfield 97)], [(32, .invokevirtual 277), (35, .if_icmp .ge 52), (38, .aload_n 0), (39, .getfield 58), (42, .iload_n 1), (43, .invokevirtual 217), (46, .aload_n 0), (47, .getfield 97), (50, .iload_n 1), (51, .iconst 0), (52, .aload_n 0), (53, .getfield 58), (56, .sipush 299), (59, .invokevirtual 295), (62, .invokevirtual 250)], [(65, .aload_n 0), (66, .getfield 97), (69, .iload_n 1), (70, .iconst 1), (71, .aload_n 0), (72, .getfield 58), (75, .getfield 209), (78, .invokevirtual 250), (81, .iinc 1 1), (84, .goto (-57)), (87, .aload_n 0), (88, .iconst 1), (89, .putfield 101), (92, .return_)]]
def gm_c25 : List (List (Nat × Instr)) := [[(0, .aload_n 0), (1, .iconst 0), (2, .iload_n 1), (3, .aload_n 0), (4, .getfield 15), (7, .invokestatic 25), (10, .invokestatic 31), (13, .putfield 9), (16, .aload_n 0), (17, .getfield 21), (20, .iconst 0), (21, .invokestatic 34), (24, .return_)]]
def gm_c26 : List (List (Nat × Instr)) := [[(0, .iload_n 0), (1, .iload_n 1), (2, .if_icmp .gt 7), (5, .iload_n 0), (6, .goto 4), (9, .iload_n 1), (10, .ireturn)]]
def gm_c27 : List (List (Nat × Instr)) := [[(0, .aload_n 0), (1, .getfield 34), (4, .getfield 42), (7, .astore_n 2), (8, .aload_n 0), (9, .aload_n 2), (10, .iload_n 1), (11, .iconst 2), (12, .invokevirtual 48), (15, .aload_n 2), (16, .iload_n 1), (17, .iconst 4), (18, .invokevirtual 48), (21, .aload_n 2), (22, .iload_n 1), (23, .iconst 3), (24, .invokevirtual 48), (27, .aload_n 0), (28, .getfield 34), (31, .iload_n 1)], [(32, .invokevirtual 54), (35, .invokevirtual 58), (38, .return_)]]
def gm_c28 : List (List (Nat × Instr)) := [[(0, .aload_n 0), (1, .getfield 55), (4, .iload_n 1), (5, .iconst 0), (6, .invokevirtual 72), (9, .iconst (-1)), (10, .if_icmp .ne 7), (13, .iconst 1), (14, .goto 4), (17, .iconst 0), (18, .ireturn)]]
def gm_c29 : List (List (Nat × Instr)) := [[(0, .aload_n 0), (1, .iload_n 1), (2, .putfield 9), (5, .aload_n 0), (6, .iload_n 2), (7, .putfield 22), (10, .aload_n 0), (11, .iload_n 3), (12, .putfield 28), (15, .aload_n 0), (16, .iload 4), (18, .putfield 15), (21, .aload_n 0), (22, .iconst (-1)), (23, .putfield 19), (26, .aload_n 0), (27, .iconst 0), (28, .putfield 25), (31, .aload_n 0)], [(32, .iconst 0), (33, .putfield 31), (36, .return_)]]
def gm_c30 : List (List (Nat × Instr)) := [[(0, .aload_n 0), (1, .getfield 28), (4, .istore_n 2), (5, .iload_n 2), (6, .iload_n 1), (7, .if_icmp .gt 22), (10, .aload_n 0), (11, .invokevirtual 68), (14, .ifCond .eq 5), (17, .iload_n 2), (18, .ireturn), (19, .aload_n 0), (20, .invokevirtual 112), (23, .iinc 2 1), (26, .goto (-21)), (29, .iconst (-1)), (30, .ireturn)]]
def gm_c31 : List (List (Nat × Instr)) := [[(0, .aload_n 0), (1, .getfield 22), (4, .aload_n 0), (5, .getfield 34), (8, .getfield 65), (11, .if_icmp .lt 7), (14, .iconst 1), (15, .goto 4), (18, .iconst 0), (19, .ireturn)]]
def gm_c32 : List (List (Nat × Instr)) := [[(0, .aload_n 0), (1, .invokevirtual 68), (4, .ifCond .ne 45), (7, .aload_n 0), (8, .invokevirtual 72), (11, .istore_n 1), (12, .aload_n 0), (13, .dup), (14, .getfield 22), (17, .aload_n 0), (18, .getfield 38), (21, .aload_n 0), (22, .getfield 9), (25, .aload_n 0), (26, .getfield 22), (29, .aload_n 0), (30, .getfield 28)], [(33, .invokevirtual 76), (36, .iadd), (37, .putfield 22), (40, .aload_n 0), (41, .invokevirtual 82), (44, .aload_n 0), (45, .iload_n 1), (46, .putfield 25), (49, .aload_n 0), (50, .dup), (51, .getfield 28), (54, .iconst 1), (55, .iadd), (56, .putfield 28), (59, .return_)]]
def gm_c33 : List (List (Nat × Instr)) := [[(0, .aload_n 0), (1, .getfield 15), (4, .ifCond .eq 5), (7, .iconst 0), (8, .ireturn), (9, .aload_n 0), (10, .getfield 22), (13, .aload_n 0), (14, .getfield 34), (17, .getfield 85), (20, .if_icmp .ge 23), (23, .bipush 99), (25, .aload_n 0), (26, .getfield 25), (29, .aload_n 0), (30, .getfield 34)], [(33, .getfield 88), (36, .iadd), (37, .invokestatic 91), (40, .goto 23), (43, .iconst 0), (44, .aload_n 0), (45, .getfield 25), (48, .aload_n 0), (49, .getfield 38), (52, .aload_n 0), (53, .getfield 28), (56, .invokevirtual 96), (59, .isub), (60, .invokestatic 100), (63, .ireturn)]]
def gm_c34 : List (List (Nat × Instr)) := [[(0, .iload_n 1), (1, .ifCond .lt 19), (4, .iload_n 1), (5, .sipush 300), (8, .if_icmp .ge 12), (11, .aload_n 0), (12, .getfield 9), (15, .iload_n 1), (16, .iaload), (17, .goto 4), (20, .iconst 0), (21, .ireturn)]]
def gm_c35 : List (List (Nat × Instr)) := [[(0, .aload_n 0), (1, .iload_n 1), (2, .iload_n 2), (3, .invokevirtual 90), (6, .istore 4), (8, .aload_n 0), (9, .getfield 34), (12, .getfield 93), (15, .ifnonnull 6), (18, .iload 4), (20, .ireturn), (21, .iload_n 1), (22, .bipush 99), (24, .imul), (25, .iload_n 2), (26, .iadd), (27, .sipush 300), (30, .imul), (31, .iload_n 3)], [(32, .iadd), (33, .istore 5), (35, .aload_n 0), (36, .iload 5), (38, .invokevirtual 97), (41, .istore 6), (43, .iload 6), (45, .bipush 31), (47, .if_icmp .ne 48), (50, .aload_n 0), (51, .iload_n 1), (52, .iload_n 2), (53, .iload_n 3), (54, .iload 4), (56, .invokevirtual 101), (59, .iconst 0), (60, .bipush 30), (62, .iload 4)], [(64, .aload_n 0), (65, .getfield 34), (68, .getfield 93), (71, .aload_n 0), (72, .getfield 23), (75, .invokevirtual 105), (78, .iadd), (79, .invokestatic 109), (82, .invokestatic 77), (85, .istore 6), (87, .aload_n 0), (88, .iload 5), (90, .iload 6), (92, .invokevirtual 112), (95, .iload 6)], [(97, .ireturn)]]
def gm_c36 : List (List (Nat × Instr)) := [[(0, .iload_n 1), (1, .bipush 99), (3, .imul), (4, .iload_n 2), (5, .iadd), (6, .istore_n 3), (7, .iload_n 3), (8, .ifCond .lt 21), (11, .iload_n 3), (12, .aload_n 0), (13, .getfield 15), (16, .arraylength), (17, .if_icmp .ge 12), (20, .aload_n 0), (21, .getfield 15), (24, .iload_n 3), (25, .iaload), (26, .goto 4), (29, .iconst 0), (30, .ireturn)]]
def gm_c37 : List (List (Nat × Instr)) := [[(0, .aload_n 0), (1, .getfield 30), (4, .ifCond .eq 18), (7, .aload_n 0), (8, .getfield 26), (11, .ldc2_w 116), (14, .invokestatic 118), (17, .aload_n 0), (18, .iconst 0), (19, .putfield 30), (22, .iload_n 1), (23, .bipush 12), (25, .idiv), (26, .istore_n 2), (27, .iload_n 1), (28, .ifCond .lt 12), (31, .iload_n 2)], [(32, .aload_n 0), (33, .getfield 26), (36, .arraylength), (37, .if_icmp .lt 6), (40, .bipush 31), (42, .ireturn), (43, .aload_n 0), (44, .getfield 26), (47, .iload_n 2), (48, .laload), (49, .iload_n 1), (50, .bipush 12), (52, .irem), (53, .iconst 5), (54, .imul), (55, .lushr), (56, .l2i), (57, .bipush 31), (59, .iand), (60, .ireturn)]]
def gm_c38 : List (List (Nat × Instr)) := [[(0, .iconst 0), (1, .istore_n 3), (2, .aload_n 0), (3, .arraylength), (4, .istore 4), (6, .iload_n 3), (7, .iload 4), (9, .if_icmp .ge 13), (12, .aload_n 0), (13, .iload_n 3), (14, .lload_n 1), (15, .lastore), (16, .iinc 3 1), (19, .goto (-13)), (22, .return_)]]
def gm_c39 : List (List (Nat × Instr)) := [[(0, .aload_n 0), (1, .getfield 23), (4, .iconst 0), (5, .iload_n 1), (6, .iastore), (7, .aload_n 0), (8, .getfield 23), (11, .iconst 1), (12, .iload_n 2), (13, .iastore), (14, .aload_n 0), (15, .getfield 23), (18, .iconst 2), (19, .iload_n 3), (20, .iastore), (21, .aload_n 0), (22, .getfield 23), (25, .iconst 3), (26, .aload_n 0), (27, .iload_n 3), (28, .invokevirtual 123), (31, .iastore)], [(32, .aload_n 0), (33, .getfield 23), (36, .iconst 4), (37, .iload 4), (39, .iastore), (40, .aload_n 0), (41, .getfield 23), (44, .iconst 5), (45, .iconst 0), (46, .iastore), (47, .aload_n 0), (48, .getfield 23), (51, .bipush 6), (53, .iconst 0), (54, .iastore), (55, .aload_n 0), (56, .getfield 23), (59, .bipush 7), (61, .iconst 0), (62, .iastore), (63, .aload_n 0)], [(64, .getfield 23), (67, .bipush 8), (69, .iload_n 1), (70, .ifCond .eq 16), (73, .iload_n 1), (74, .aload_n 0), (75, .getfield 34), (78, .getfield 82), (81, .iconst 1), (82, .isub), (83, .if_icmp .ne 7), (86, .iconst 1), (87, .goto 4), (90, .iconst 0), (91, .iastore), (92, .aload_n 0), (93, .getfield 23)], [(96, .bipush 9), (98, .iload_n 1), (99, .aload_n 0), (100, .getfield 34), (103, .getfield 126), (106, .if_icmp .ge 7), (109, .iconst 1), (110, .goto 4), (113, .iconst 0), (114, .iastore), (115, .return_)]]
def gm_c40 : List (List (Nat × Instr)) := [[(0, .iconst 0), (1, .istore_n 2), (2, .iconst 0), (3, .istore_n 3), (4, .iload_n 3), (5, .aload_n 0), (6, .getfield 14), (9, .invokevirtual 26), (12, .if_icmp .ge 82), (15, .aload_n 0), (16, .getfield 14), (19, .iload_n 3), (20, .iconst 0), (21, .invokevirtual 30), (24, .istore 4), (26, .iload 4), (28, .iconst 2), (29, .if_icmp .eq 59)], [(32, .aload_n 0), (33, .aload_n 0), (34, .getfield 14), (37, .iload_n 3), (38, .iconst 2), (39, .invokevirtual 30), (42, .aload_n 0), (43, .getfield 14), (46, .iload_n 3), (47, .iconst 3), (48, .invokevirtual 30), (51, .aload_n 1), (52, .invokevirtual 34), (55, .ifCond .eq 33), (58, .iload_n 2), (59, .iload 4), (61, .ifCond .ne 15)], [(64, .aload_n 0), (65, .getfield 14), (68, .iload_n 3), (69, .iconst 1), (70, .invokevirtual 30), (73, .goto 13), (76, .aload_n 0), (77, .getfield 14), (80, .iload_n 3), (81, .iconst 1), (82, .invokevirtual 30), (85, .ineg), (86, .iadd), (87, .istore_n 2), (88, .iinc 3 1), (91, .goto (-87)), (94, .iload_n 2), (95, .ireturn)]]
def gm_c41 : List (List (Nat × Instr)) := [[(0, .iconst 0), (1, .iload_n 1), (2, .invokestatic 38), (5, .istore 4), (7, .iload_n 2), (8, .aload_n 0), (9, .getfield 22), (12, .arraylength), (13, .invokestatic 43), (16, .istore 5), (18, .iload 4), (20, .iload 5), (22, .if_icmp .ge 7), (25, .iconst 0), (26, .goto 4), (29, .iconst 1), (30, .istore 6)], [(32, .iconst 0), (33, .istore 7), (35, .iconst 0), (36, .istore 8), (38, .iload 4), (40, .istore 9), (42, .iload 9), (44, .iload 5), (46, .if_icmp .ge 237), (49, .aload_n 0), (50, .getfield 22), (53, .iload 9), (55, .iaload), (56, .istore 10), (58, .bipush (-2)), (60, .iload 10), (62, .isub), (63, .istore 11)], [(65, .iload 11), (67, .ifCond .lt 17), (70, .iload 11), (72, .aload_n 3), (73, .arraylength), (74, .if_icmp .ge 10), (77, .aload_n 3), (78, .iload 11), (80, .iaload), (81, .goto 4), (84, .iconst 0), (85, .istore 12), (87, .iload 10), (89, .ifCond .lt 13), (92, .iload 8), (94, .iload 10)], [(96, .iadd), (97, .istore 8), (99, .goto 178), (102, .iload 10), (104, .bipush (-10)), (106, .if_icmp .le 13), (109, .iload 8), (111, .iload 12), (113, .iadd), (114, .istore 8), (116, .goto 161), (119, .iload 10), (121, .bipush (-11)), (123, .if_icmp .lt 15), (126, .iload 6)], [(128, .iconst 1), (129, .ishl), (130, .iload 12), (132, .ior), (133, .istore 6), (135, .goto 142), (138, .iload 10), (140, .bipush (-12)), (142, .if_icmp .ne 13), (145, .iload 8), (147, .istore 7), (149, .iconst 0), (150, .istore 8), (152, .goto 125), (155, .iload 10), (157, .bipush (-13)), (159, .if_icmp .eq 10)], [(162, .iload 10), (164, .bipush (-14)), (166, .if_icmp .ne 62), (169, .iload 10), (171, .bipush (-13)), (173, .if_icmp .ne 18), (176, .iload 7), (178, .iload 8), (180, .if_icmp .ge 7), (183, .iconst 1), (184, .goto 19), (187, .iconst 0), (188, .goto 15), (191, .iload 7)], [(193, .iload 8), (195, .if_icmp .le 7), (198, .iconst 1), (199, .goto 4), (202, .iconst 0), (203, .istore 13), (205, .iload 6), (207, .iconst 1), (208, .ishl), (209, .iload 13), (211, .ifCond .eq 7), (214, .iconst 1), (215, .goto 4), (218, .iconst 0), (219, .ior), (220, .istore 6), (222, .iconst 0), (223, .istore 8)], [(225, .goto 52), (228, .iload 10), (230, .bipush (-15)), (232, .if_icmp .ne 12), (235, .iload 6), (237, .iconst 1), (238, .ixor), (239, .istore 6), (241, .goto 36), (244, .iload 10), (246, .bipush (-16)), (248, .if_icmp .ne 18), (251, .iload 6), (253, .iconst 1), (254, .ishr), (255, .iload 6)], [(257, .bipush (-2)), (259, .ior), (260, .iand), (261, .istore 6), (263, .goto 14), (266, .iload 6), (268, .iconst 1), (269, .ishr), (270, .iload 6), (272, .iconst 1), (273, .iand), (274, .ior), (275, .istore 6), (277, .iinc 9 1), (280, .goto (-238)), (283, .iload 6), (285, .iconst 1), (286, .iand), (287, .iconst 1)], [(288, .if_icmp .ne 7), (291, .iconst 1), (292, .goto 4), (295, .iconst 0), (296, .ireturn)]]
def gm_c42 : List (List (Nat × Instr)) := [[(0, .iload_n 1), (1, .bipush 12), (3, .idiv), (4, .istore_n 3), (5, .iload_n 1), (6, .ifCond .lt 53), (9, .iload_n 3), (10, .aload_n 0), (11, .getfield 26), (14, .arraylength), (15, .if_icmp .ge 44), (18, .ldc2_w 121), (21, .iload_n 1), (22, .bipush 12), (24, .irem), (25, .iconst 5), (26, .imul), (27, .lshl), (28, .ldc2_w 116), (31, .lxor)], [(32, .lstore 4), (34, .aload_n 0), (35, .getfield 26), (38, .iload_n 3), (39, .aload_n 0), (40, .getfield 26), (43, .iload_n 3), (44, .laload), (45, .lload 4), (47, .land), (48, .iload_n 2), (49, .i2l), (50, .iload_n 1), (51, .bipush 12), (53, .irem), (54, .iconst 5), (55, .imul), (56, .lshl), (57, .lor), (58, .lastore), (59, .return_)]]
def gm_c43 : List (List (Nat × Instr)) := [[(0, .aload_n 0), (1, .getfield 34), (4, .getfield 103), (7, .astore_n 1), (8, .aload_n 0), (9, .getfield 38), (12, .aload_n 0), (13, .getfield 28), (16, .invokevirtual 106), (19, .istore_n 2), (20, .iconst 0), (21, .istore_n 3), (22, .iload_n 2), (23, .ifCond .eq 89), (26, .iload_n 3), (27, .aload_n 1), (28, .invokevirtual 109), (31, .if_icmp .ge 81)], [(34, .iload_n 3), (35, .aload_n 0), (36, .getfield 19), (39, .if_icmp .eq 16), (42, .iload_n 2), (43, .iload_n 3), (44, .ishr), (45, .iconst 1), (46, .iand), (47, .iconst 1), (48, .if_icmp .ne 7), (51, .iconst 1), (52, .goto 4), (55, .iconst 0), (56, .istore 4), (58, .iload 4), (60, .ifCond .eq 46), (63, .aload_n 0)], [(64, .getfield 22), (67, .aload_n 1), (68, .iload_n 3), (69, .iconst 1), (70, .invokevirtual 48), (73, .if_icmp .lt 33), (76, .aload_n 0), (77, .dup), (78, .getfield 22), (81, .aload_n 1), (82, .iload_n 3), (83, .iconst 2), (84, .invokevirtual 48), (87, .iadd), (88, .putfield 22), (91, .aload_n 0), (92, .dup), (93, .getfield 31)], [(96, .aload_n 1), (97, .iload_n 3), (98, .iconst 2), (99, .invokevirtual 48), (102, .iadd), (103, .putfield 31), (106, .iinc 3 1), (109, .goto (-87)), (112, .return_)]]
def gm_c44 : List (List (Nat × Instr)) := [[(0, .iload_n 1), (1, .ifCond .lt 19), (4, .iload_n 1), (5, .sipush 300), (8, .if_icmp .ge 12), (11, .aload_n 0), (12, .getfield 18), (15, .iload_n 1), (16, .iaload), (17, .goto 4), (20, .iconst 0), (21, .ireturn)]]
def gm_c45 : List (List (Nat × Instr)) := [[(0, .iload_n 1), (1, .ifCond .lt 37), (4, .iload_n 1), (5, .aload_n 0), (6, .getfield 9), (9, .if_icmp .ge 29), (12, .iload_n 2), (13, .ifCond .lt 25), (16, .iload_n 2), (17, .aload_n 0), (18, .getfield 18), (21, .if_icmp .ge 17), (24, .aload_n 0), (25, .getfield 21), (28, .iload_n 1), (29, .aload_n 0), (30, .getfield 18)], [(33, .imul), (34, .iload_n 2), (35, .iadd), (36, .iload_n 3), (37, .iastore), (38, .return_)]]
def gm_c46 : List (List (Nat × Instr)) := [[(0, .aload_n 0), (1, .invokevirtual 254), (4, .iconst (-1)), (5, .istore_n 2), (6, .iconst 0), (7, .istore_n 3), (8, .iconst 0), (9, .istore 4), (11, .iload 4), (13, .aload_n 0), (14, .getfield 97), (17, .invokevirtual 277), (20, .if_icmp .ge 64), (23, .aload_n 0), (24, .getfield 97), (27, .iload 4), (29, .iconst 0), (30, .invokevirtual 186)], [(33, .istore 5), (35, .iload 5), (37, .iconst (-1)), (38, .if_icmp .ne 7), (41, .iconst 0), (42, .goto 10), (45, .aload_n 0), (46, .iload 5), (48, .iconst 0), (49, .invokevirtual 315), (52, .istore 6), (54, .iload 6), (56, .iload_n 3), (57, .if_icmp .gt 15), (60, .iload 6), (62, .iload_n 3), (63, .if_icmp .ne 15)], [(66, .iload 5), (68, .iload_n 2), (69, .if_icmp .ge 9), (72, .iload 6), (74, .istore_n 3), (75, .iload 5), (77, .istore_n 2), (78, .iinc 4 1), (81, .goto (-70)), (84, .iload_n 1), (85, .ifCond .eq 7), (88, .iload_n 3), (89, .goto 4), (92, .iload_n 2), (93, .ireturn)]]
def gm_c47 : List (List (Nat × Instr)) := [[(0, .iconst 0), (1, .istore_n 3), (2, .iconst 0), (3, .istore 4), (5, .iload 4), (7, .aload_n 0), (8, .getfield 97), (11, .invokevirtual 277), (14, .if_icmp .ge 42), (17, .aload_n 0), (18, .getfield 97), (21, .iload 4), (23, .iconst 0), (24, .invokevirtual 186), (27, .iload_n 1), (28, .if_icmp .ne 22), (31, .iload_n 2)], [(32, .ifCond .ne 15), (35, .aload_n 0), (36, .getfield 23), (39, .iload 4), (41, .invokevirtual 450), (44, .ifCond .ne 6), (47, .iinc 3 1), (50, .iinc 4 1), (53, .goto (-48)), (56, .iload_n 3), (57, .ireturn)]]
def gm_c48 : List (List (Nat × Instr)) := [[(0, .iconst (-1)), (1, .istore_n 1), (2, .iconst 0), (3, .istore_n 2), (4, .iload_n 2), (5, .iconst 1), (6, .aload_n 0), (7, .getfield 23), (10, .getfield 351), (13, .ishl), (14, .if_icmp .ge 45), (17, .iload_n 1), (18, .iconst (-1)), (19, .if_icmp .eq 14), (22, .iload_n 2), (23, .invokestatic 354), (26, .iload_n 1), (27, .invokestatic 354), (30, .if_icmp .ge 7)], [(33, .iconst 1), (34, .goto 4), (37, .iconst 0), (38, .istore_n 3), (39, .iload_n 3), (40, .ifCond .eq 13), (43, .aload_n 0), (44, .iload_n 2), (45, .invokevirtual 359), (48, .ifCond .eq 5), (51, .iload_n 2), (52, .istore_n 1), (53, .iinc 2 1), (56, .goto (-52)), (59, .iload_n 1), (60, .ireturn)]]
def gm_c49 : List (List (Nat × Instr)) := [[(0, .iload_n 0), (1, .iload_n 0), (2, .iconst 1), (3, .iushr), (4, .ldc_w 265), (7, .iand), (8, .isub), (9, .istore_n 0), (10, .iload_n 0), (11, .ldc_w 266), (14, .iand), (15, .iload_n 0), (16, .iconst 2), (17, .iushr), (18, .ldc_w 266), (21, .iand), (22, .iadd), (23, .istore_n 0), (24, .iload_n 0), (25, .iload_n 0), (26, .iconst 4), (27, .iushr), (28, .iadd), (29, .ldc_w 267)], [(32, .iand), (33, .istore_n 0), (34, .iload_n 0), (35, .iload_n 0), (36, .bipush 8), (38, .iushr), (39, .iadd), (40, .istore_n 0), (41, .iload_n 0), (42, .iload_n 0), (43, .bipush 16), (45, .iushr), (46, .iadd), (47, .istore_n 0), (48, .iload_n 0), (49, .bipush 63), (51, .iand), (52, .ireturn)]]
def gm_c50 : List (List (Nat × Instr)) := [[(0, .iconst 0), (1, .istore_n 2), (2, .iload_n 2), (3, .aload_n 0), (4, .getfield 23), (7, .getfield 344), (10, .invokevirtual 277), (13, .if_icmp .ge 45), (16, .iload_n 2), (17, .iconst 1), (18, .iadd), (19, .istore_n 3), (20, .iload_n 3), (21, .aload_n 0), (22, .getfield 23), (25, .getfield 344), (28, .invokevirtual 277), (31, .if_icmp .ge 21)], [(34, .aload_n 0), (35, .iload_n 2), (36, .iload_n 3), (37, .iload_n 1), (38, .invokevirtual 347), (41, .ifCond .ne 5), (44, .iconst 0), (45, .ireturn), (46, .iinc 3 1), (49, .goto (-29)), (52, .iinc 2 1), (55, .goto (-53)), (58, .iconst 1), (59, .ireturn)]]
def gm_c51 : List (List (Nat × Instr)) := [[(0, .iconst 0), (1, .istore 4), (3, .iload 4), (5, .aload_n 0), (6, .getfield 23), (9, .getfield 351), (12, .if_icmp .ge 50), (15, .iload_n 3), (16, .iload 4), (18, .ishr), (19, .iconst 1), (20, .iand), (21, .iconst 1), (22, .if_icmp .ne 34), (25, .aload_n 0), (26, .getfield 23), (29, .getfield 344)], [(32, .iload_n 1), (33, .iload 4), (35, .invokevirtual 186), (38, .aload_n 0), (39, .getfield 23), (42, .getfield 344), (45, .iload_n 2), (46, .iload 4), (48, .invokevirtual 186), (51, .if_icmp .eq 5), (54, .iconst 1), (55, .ireturn), (56, .iinc 4 1), (59, .goto (-56)), (62, .iconst 0), (63, .ireturn)]]
def gm_c52 : List (List (Nat × Instr)) := [[(0, .aload_n 0), (1, .invokevirtual 254), (4, .iconst 0), (5, .istore_n 2), (6, .iload_n 2), (7, .aload_n 0), (8, .getfield 97), (11, .invokevirtual 277), (14, .if_icmp .ge 33), (17, .aload_n 0), (18, .getfield 97), (21, .iload_n 2), (22, .iconst 0), (23, .invokevirtual 186), (26, .iconst (-1)), (27, .if_icmp .eq 14), (30, .aload_n 0), (31, .iload_n 2)], [(32, .invokevirtual 402), (35, .iload_n 1), (36, .if_icmp .ne 5), (39, .iload_n 2), (40, .ireturn), (41, .iinc 2 1), (44, .goto (-38)), (47, .iconst (-1)), (48, .ireturn)]]
def gm_c53 : List (List (Nat × Instr)) := [[(0, .aload_n 0), (1, .getfield 97), (4, .iload_n 1), (5, .iconst 0), (6, .invokevirtual 186), (9, .istore_n 2), (10, .iconst 0), (11, .istore_n 3), (12, .iconst 0), (13, .istore 4), (15, .iload 4), (17, .aload_n 0), (18, .getfield 97), (21, .invokevirtual 277), (24, .if_icmp .ge 60), (27, .aload_n 0), (28, .getfield 97), (31, .iload 4)], [(33, .iconst 0), (34, .invokevirtual 186), (37, .istore 5), (39, .iload 5), (41, .iconst (-1)), (42, .if_icmp .eq 13), (45, .iload 5), (47, .iload_n 2), (48, .if_icmp .ge 7), (51, .iconst 1), (52, .goto 4), (55, .iconst 0), (56, .istore 6), (58, .iload 6), (60, .ifCond .ne 15), (63, .iload 5)], [(65, .iload_n 2), (66, .if_icmp .ne 12), (69, .iload 4), (71, .iload_n 1), (72, .if_icmp .ge 6), (75, .iinc 3 1), (78, .iinc 4 1), (81, .goto (-66)), (84, .iload_n 3), (85, .ireturn)]]
def gm_c54 : List (List (Nat × Instr)) := [[(0, .aload_n 0), (1, .iconst 0), (2, .putfield 101), (5, .aload_n 0), (6, .getfield 40), (9, .aload_n 0), (10, .getfield 23), (13, .invokevirtual 419), (16, .ireturn)]]
def gm_c55 : List (List (Nat × Instr)) := [[(0, .aload_n 0), (1, .getfield 21), (4, .ifCond .ne 5), (7, .iconst 0), (8, .ireturn), (9, .aload_n 0), (10, .aload_n 0), (11, .getfield 17), (14, .bipush 12), (16, .iadd), (17, .iconst 1), (18, .isub), (19, .bipush 12), (21, .irem), (22, .putfield 17), (25, .aload_n 0), (26, .dup), (27, .getfield 21), (30, .iconst 1), (31, .isub)], [(32, .putfield 21), (35, .aload_n 0), (36, .aload_n 0), (37, .getfield 17), (40, .invokevirtual 25), (43, .astore_n 2), (44, .aload_n 2), (45, .ifnull 8), (48, .aload_n 1), (49, .aload_n 2), (50, .invokevirtual 29), (53, .iconst 1), (54, .ireturn)]]
def gm_c56 : List (List (Nat × Instr)) := [[(0, .iload_n 1), (1, .ifCond .lt 21), (4, .iload_n 1), (5, .aload_n 0), (6, .getfield 11), (9, .arraylength), (10, .if_icmp .ge 12), (13, .aload_n 0), (14, .getfield 11), (17, .iload_n 1), (18, .aaload), (19, .goto 4), (22, .aconst_null), (23, .areturn)]]
def gm_c57 : List (List (Nat × Instr)) := [[(0, .aload_n 0), (1, .aload_n 1), (2, .getfield 9), (5, .putfield 9), (8, .aload_n 0), (9, .aload_n 1), (10, .getfield 15), (13, .putfield 15), (16, .aload_n 0), (17, .aload_n 1), (18, .getfield 18), (21, .putfield 18), (24, .aload_n 0), (25, .aload_n 1), (26, .getfield 21), (29, .putfield 21)], [(32, .aload_n 0), (33, .aload_n 1), (34, .getfield 24), (37, .putfield 24), (40, .aload_n 0), (41, .aload_n 1), (42, .getfield 27), (45, .putfield 27), (48, .aload_n 0), (49, .aload_n 1), (50, .getfield 30), (53, .putfield 30), (56, .aload_n 0), (57, .aload_n 1), (58, .getfield 33), (61, .putfield 33)], [(64, .aload_n 0), (65, .aload_n 1), (66, .getfield 36), (69, .putfield 36), (72, .aload_n 0), (73, .getfield 45), (76, .aload_n 1), (77, .getfield 45), (80, .invokevirtual 64), (83, .aload_n 0), (84, .getfield 49), (87, .aload_n 1), (88, .getfield 49), (91, .invokevirtual 64), (94, .aload_n 0), (95, .getfield 52)], [(98, .aload_n 1), (99, .getfield 52), (102, .invokevirtual 64), (105, .aload_n 0), (106, .getfield 55), (109, .aload_n 1), (110, .getfield 55), (113, .invokevirtual 64), (116, .aload_n 0), (117, .getfield 58), (120, .aload_n 1), (121, .getfield 58), (124, .invokevirtual 64), (127, .aload_n 0)], [(128, .getfield 61), (131, .aload_n 1), (132, .getfield 61), (135, .invokevirtual 64), (138, .return_)]]
def gm_c58 : List (List (Nat × Instr)) := [[(0, .aload_n 0), (1, .aload_n 1), (2, .getfield 9), (5, .aload_n 0), (6, .getfield 15), (9, .invokestatic 25), (12, .putfield 9), (15, .aload_n 1), (16, .getfield 21), (19, .iconst 0), (20, .aload_n 0), (21, .getfield 21), (24, .iconst 0), (25, .aload_n 1), (26, .getfield 21), (29, .arraylength), (30, .aload_n 0), (31, .getfield 21)], [(34, .arraylength), (35, .invokestatic 25), (38, .invokestatic 40), (41, .return_)]]
def gm_c59 : List (List (Nat × Instr)) := [[(0, .aload_n 0), (1, .getfield 30), (4, .aload_n 0), (5, .getfield 23), (8, .invokevirtual 114), (11, .aload_n 0), (12, .iconst 1), (13, .putfield 33), (16, .return_)]]
def gm_c60 : List (List (Nat × Instr)) := [[(0, .aload_n 0), (1, .getfield 33), (4, .ifCond .ne 5), (7, .iconst 0), (8, .ireturn), (9, .aload_n 0), (10, .getfield 23), (13, .aload_n 0), (14, .getfield 30), (17, .invokevirtual 114), (20, .aload_n 0), (21, .invokevirtual 136), (24, .iconst 1), (25, .ireturn)]]
def gm_c61 : List (List (Nat × Instr)) := [[(0, .aload_n 0), (1, .getfield 49), (4, .invokevirtual 154), (7, .aload_n 0), (8, .getfield 40), (11, .invokevirtual 157), (14, .aload_n 0), (15, .iconst 0), (16, .putfield 101), (19, .return_)]]
def gm_c62 : List (List (Nat × Instr)) := [[(0, .aload_n 0), (1, .iconst 0), (2, .putfield 21), (5, .return_)]]
def gm_c63 : List (List (Nat × Instr)) := [[(0, .iload_n 1), (1, .tableswitch 241 0 17 #[87, 95, 103, 114, 125, 136, 147, 158, 166, 171, 179, 187, 195, 203, 211, 222, 228, 233])], [], [(88, .aload_n 0), (89, .getfield 23), (92, .getfield 351), (95, .ireturn)], [(96, .aload_n 0), (97, .getfield 23), (100, .getfield 226), (103, .ireturn), (104, .aload_n 0), (105, .getfield 23), (108, .getfield 423), (111, .invokevirtual 277), (114, .ireturn), (115, .aload_n 0), (116, .getfield 23), (119, .getfield 183), (122, .invokevirtual 277), (125, .ireturn), (126, .aload_n 0), (127, .getfield 23)], [(130, .getfield 203), (133, .invokevirtual 277), (136, .ireturn), (137, .aload_n 0), (138, .getfield 23), (141, .getfield 303), (144, .invokevirtual 277), (147, .ireturn), (148, .aload_n 0), (149, .getfield 23), (152, .getfield 344), (155, .invokevirtual 277), (158, .ireturn), (159, .aload_n 0)], [(160, .getfield 23), (163, .getfield 128), (166, .ireturn), (167, .aload_n 0), (168, .invokevirtual 150), (171, .ireturn), (172, .aload_n 0), (173, .getfield 23), (176, .getfield 269), (179, .ireturn), (180, .aload_n 0), (181, .getfield 23), (184, .getfield 426), (187, .ireturn), (188, .aload_n 0), (189, .getfield 23)], [(192, .getfield 429), (195, .ireturn), (196, .aload_n 0), (197, .getfield 23), (200, .getfield 405), (203, .ireturn), (204, .aload_n 0), (205, .getfield 23), (208, .getfield 432), (211, .ireturn), (212, .aload_n 0), (213, .getfield 23), (216, .getfield 416), (219, .invokevirtual 277), (222, .ireturn), (223, .aload_n 0)], [(224, .iconst (-1)), (225, .invokevirtual 192), (228, .ireturn), (229, .aload_n 0), (230, .invokevirtual 435), (233, .ireturn), (234, .aload_n 0), (235, .getfield 40), (238, .invokevirtual 438), (241, .ireturn), (242, .iconst (-1)), (243, .ireturn)]]
def gm_c64 : List (List (Nat × Instr)) := [[(0, .aload_n 0), (1, .getfield 23), (4, .getfield 146), (7, .ifnonnull 7), (10, .iconst (-1)), (11, .goto 16), (14, .aload_n 0), (15, .getfield 23), (18, .getfield 146), (21, .getfield 439), (24, .invokevirtual 277), (27, .ireturn)]]
def gm_c65 : List (List (Nat × Instr)) := [[(0, .aload_n 0), (1, .invokevirtual 254), (4, .iconst 0), (5, .istore_n 2), (6, .iconst 0), (7, .istore_n 3), (8, .iload_n 3), (9, .aload_n 0), (10, .getfield 23), (13, .getfield 203), (16, .invokevirtual 277), (19, .if_icmp .ge 53), (22, .iload_n 1), (23, .iconst (-1)), (24, .if_icmp .eq 19), (27, .aload_n 0), (28, .getfield 23), (31, .getfield 203)], [(34, .iload_n 3), (35, .iconst 1), (36, .invokevirtual 186), (39, .iload_n 1), (40, .if_icmp .ne 7), (43, .iconst 1), (44, .goto 4), (47, .iconst 0), (48, .istore 4), (50, .iload 4), (52, .ifCond .eq 14), (55, .aload_n 0), (56, .iload_n 3), (57, .invokevirtual 257), (60, .ifCond .eq 6), (63, .iinc 2 1)], [(66, .iinc 3 1), (69, .goto (-61)), (72, .iload_n 2), (73, .ireturn)]]
def gm_c66 : List (List (Nat × Instr)) := [[(0, .aload_n 0), (1, .getfield 23), (4, .iload_n 1), (5, .invokevirtual 450), (8, .ifCond .ne 23), (11, .aload_n 0), (12, .getfield 23), (15, .getfield 203), (18, .iload_n 1), (19, .iconst 5), (20, .invokevirtual 186), (23, .iconst (-1)), (24, .if_icmp .ne 7), (27, .iconst 1), (28, .goto 4), (31, .iconst 0)], [(32, .istore_n 2), (33, .iload_n 2), (34, .ifCond .eq 30), (37, .aload_n 0), (38, .aload_n 0), (39, .getfield 97), (42, .iload_n 1), (43, .iconst 0), (44, .invokevirtual 186), (47, .aload_n 0), (48, .getfield 23), (51, .getfield 269), (54, .invokevirtual 408), (57, .ifCond .eq 7), (60, .iconst 1), (61, .goto 4)], [(64, .iconst 0), (65, .ireturn)]]
def gm_c67 : List (List (Nat × Instr)) := [[(0, .iload_n 1), (1, .iconst (-1)), (2, .if_icmp .eq 12), (5, .iload_n 1), (6, .iload_n 2), (7, .if_icmp .gt 7), (10, .iconst 1), (11, .goto 4), (14, .iconst 0), (15, .ireturn)]]
def gm_c68 : List (List (Nat × Instr)) := [[(0, .aload_n 0), (1, .invokevirtual 254), (4, .iconst 0), (5, .istore_n 1), (6, .iconst 0), (7, .istore_n 2), (8, .iload_n 2), (9, .aload_n 0), (10, .getfield 23), (13, .getfield 203), (16, .invokevirtual 277), (19, .if_icmp .ge 35), (22, .aload_n 0), (23, .aload_n 0), (24, .getfield 97), (27, .iload_n 2), (28, .iconst 0), (29, .invokevirtual 186)], [(32, .aload_n 0), (33, .getfield 23), (36, .getfield 269), (39, .invokevirtual 408), (42, .ifCond .ne 6), (45, .iinc 1 1), (48, .iinc 2 1), (51, .goto (-43)), (54, .iload_n 1), (55, .ireturn)]]
def gm_c69 : List (List (Nat × Instr)) := [[(0, .aload_n 0), (1, .getfield 21), (4, .ireturn)]]
def gm_c70 : List (List (Nat × Instr)) := [[(0, .aload_n 1), (1, .iconst 0), (2, .aload_n 0), (3, .invokevirtual 7), (6, .i2l), (7, .lastore), (8, .goto 9), (11, .astore_n 2), (12, .iconst 1), (13, .ireturn), (14, .astore_n 2), (15, .iconst 2), (16, .ireturn), (17, .iconst 0), (18, .ireturn)]]
def gm_c71 : List (List (Nat × Instr)) := [[(0, .aload_n 0), (1, .getfield 27), (4, .aload_n 0), (5, .getfield 23), (8, .invokevirtual 114), (11, .aload_n 0), (12, .aload_n 0), (13, .getfield 79), (16, .aload_n 0), (17, .getfield 13), (20, .invokevirtual 117), (23, .putfield 17), (26, .aload_n 0), (27, .iconst 0), (28, .putfield 13), (31, .aload_n 0)], [(32, .getfield 17), (35, .iconst (-1)), (36, .if_icmp .eq 13), (39, .new 121), (42, .dup), (43, .ldc 123), (45, .invokespecial 125), (48, .athrow), (49, .aload_n 0), (50, .getfield 23), (53, .getfield 128), (56, .bipush 12), (58, .if_icmp .lt 13), (61, .new 131)], [(64, .dup), (65, .ldc 133), (67, .invokespecial 135), (70, .athrow), (71, .aload_n 0), (72, .getfield 23), (75, .aload_n 0), (76, .getfield 27), (79, .invokevirtual 114), (82, .aload_n 0), (83, .getfield 23), (86, .dup), (87, .getfield 128), (90, .iconst 1), (91, .iadd), (92, .putfield 128), (95, .aload_n 0)], [(96, .invokevirtual 136), (99, .aload_n 0), (100, .getfield 23), (103, .getfield 128), (106, .ireturn)]]
def gm_c72 : List (List (Nat × Instr)) := [[(0, .aload_n 0), (1, .invokevirtual 24), (4, .aload_n 0), (5, .getfield 14), (8, .iload_n 1), (9, .invokevirtual 27), (12, .aload_n 0), (13, .getfield 14), (16, .getfield 31), (19, .sipush 256), (22, .if_icmp .ne 5), (25, .iconst (-1)), (26, .ireturn), (27, .iconst 0), (28, .istore_n 2), (29, .iload_n 2), (30, .aload_n 0), (31, .getfield 20)], [(34, .if_icmp .ge 49), (37, .aload_n 0), (38, .invokevirtual 34), (41, .ifCond .eq 28), (44, .aload_n 0), (45, .getfield 14), (48, .getfield 31), (51, .sipush 256), (54, .if_icmp .eq 15), (57, .aload_n 0), (58, .getfield 14), (61, .bipush 59), (63, .invokevirtual 38)], [(66, .ifCond .ne 11), (69, .aload_n 0), (70, .getfield 14), (73, .invokevirtual 42), (76, .ireturn), (77, .iinc 2 1), (80, .goto (-51)), (83, .aload_n 0), (84, .getfield 14), (87, .invokevirtual 46), (90, .pop), (91, .aload_n 0), (92, .getfield 14), (95, .invokevirtual 42)], [(98, .ireturn)]]
def gm_c73 : List (List (Nat × Instr)) := [[(0, .aload_n 0), (1, .getfield 14), (4, .iconst 0), (5, .invokevirtual 28), (8, .aload_n 0), (9, .iconst 0), (10, .putfield 24), (13, .return_)]]
def gm_c74 : List (List (Nat × Instr)) := [[(0, .return_)]]
def gm_c75 : List (List (Nat × Instr)) := [[(0, .aload_n 0), (1, .iload_n 1), (2, .aload_n 0), (3, .getfield 30), (6, .arraylength), (7, .invokestatic 37), (10, .putfield 9), (13, .aload_n 0), (14, .iconst 0), (15, .putfield 15), (18, .aload_n 0), (19, .iconst (-1)), (20, .putfield 21), (23, .aload_n 0), (24, .invokevirtual 43), (27, .return_)]]
def gm_c76 : List (List (Nat × Instr)) := [[(0, .aload_n 0), (1, .getfield 15), (4, .aload_n 0), (5, .getfield 9), (8, .if_icmp .ge 30), (11, .aload_n 0), (12, .getfield 30), (15, .aload_n 0), (16, .getfield 15), (19, .baload), (20, .bipush 32), (22, .if_icmp .ne 16), (25, .aload_n 0), (26, .dup), (27, .getfield 15), (30, .iconst 1), (31, .iadd)], [(32, .putfield 15), (35, .goto (-35)), (38, .aload_n 0), (39, .aload_n 0), (40, .getfield 15), (43, .putfield 18), (46, .aload_n 0), (47, .iconst (-1)), (48, .putfield 27), (51, .aload_n 0), (52, .getfield 15), (55, .aload_n 0), (56, .getfield 9), (59, .if_icmp .lt 13), (62, .aload_n 0), (63, .sipush 256)], [(66, .putfield 24), (69, .goto 219), (72, .aload_n 0), (73, .getfield 30), (76, .aload_n 0), (77, .getfield 15), (80, .baload), (81, .invokestatic 46), (84, .ifCond .eq 49), (87, .aload_n 0), (88, .sipush 257), (91, .putfield 24), (94, .aload_n 0), (95, .getfield 15)], [(98, .aload_n 0), (99, .getfield 9), (102, .if_icmp .ge 186), (105, .aload_n 0), (106, .getfield 30), (109, .aload_n 0), (110, .getfield 15), (113, .baload), (114, .invokestatic 46), (117, .ifCond .eq 171), (120, .aload_n 0), (121, .dup), (122, .getfield 15), (125, .iconst 1), (126, .iadd), (127, .putfield 15)], [(130, .goto (-36)), (133, .aload_n 0), (134, .getfield 30), (137, .aload_n 0), (138, .getfield 15), (141, .baload), (142, .invokestatic 50), (145, .ifCond .eq 116), (148, .aload_n 0), (149, .sipush 258), (152, .putfield 24), (155, .aload_n 0), (156, .iconst 0), (157, .putfield 27)], [(160, .aload_n 0), (161, .getfield 15), (164, .aload_n 0), (165, .getfield 9), (168, .if_icmp .ge 120), (171, .aload_n 0), (172, .getfield 30), (175, .aload_n 0), (176, .getfield 15), (179, .baload), (180, .invokestatic 50), (183, .ifCond .eq 105), (186, .aload_n 0), (187, .getfield 15), (190, .aload_n 0), (191, .getfield 18)], [(194, .isub), (195, .aload_n 0), (196, .getfield 34), (199, .if_icmp .ge 15), (202, .aload_n 0), (203, .getfield 27), (206, .iconst (-1)), (207, .if_icmp .eq 7), (210, .iconst 1), (211, .goto 4), (214, .iconst 0), (215, .istore_n 1), (216, .aload_n 0), (217, .iload_n 1), (218, .ifCond .eq 26), (221, .aload_n 0), (222, .getfield 27)], [(225, .bipush 10), (227, .imul), (228, .aload_n 0), (229, .getfield 30), (232, .aload_n 0), (233, .getfield 15), (236, .baload), (237, .iadd), (238, .bipush 48), (240, .isub), (241, .goto 4), (244, .iconst (-1)), (245, .putfield 27), (248, .aload_n 0), (249, .dup), (250, .getfield 15), (253, .iconst 1), (254, .iadd), (255, .putfield 15)], [(258, .goto (-98)), (261, .aload_n 0), (262, .aload_n 0), (263, .getfield 30), (266, .aload_n 0), (267, .getfield 15), (270, .baload), (271, .sipush 255), (274, .iand), (275, .putfield 24), (278, .aload_n 0), (279, .dup), (280, .getfield 15), (283, .iconst 1), (284, .iadd), (285, .putfield 15)], [(288, .return_)]]
def gm_c77 : List (List (Nat × Instr)) := [[(0, .iload_n 0), (1, .bipush 97), (3, .if_icmp .lt 13), (6, .iload_n 0), (7, .bipush 122), (9, .if_icmp .gt 7), (12, .iconst 1), (13, .goto 4), (16, .iconst 0), (17, .ireturn)]]
def gm_c78 : List (List (Nat × Instr)) := [[(0, .iload_n 0), (1, .bipush 48), (3, .if_icmp .lt 13), (6, .iload_n 0), (7, .bipush 57), (9, .if_icmp .gt 7), (12, .iconst 1), (13, .goto 4), (16, .iconst 0), (17, .ireturn)]]
def gm_c79 : List (List (Nat × Instr)) := [[(0, .aload_n 0), (1, .invokevirtual 43), (4, .istore_n 1), (5, .iload_n 1), (6, .iconst (-1)), (7, .if_icmp .ne 11), (10, .aload_n 0), (11, .getfield 47), (14, .invokevirtual 51), (17, .ireturn), (18, .aload_n 0), (19, .getfield 47), (22, .invokevirtual 57), (25, .iload_n 1), (26, .iconst 2), (27, .if_icmp .ne 7), (30, .iconst 0), (31, .goto 13)], [(34, .aload_n 0), (35, .getfield 47), (38, .iconst 0), (39, .bipush 20), (41, .invokevirtual 61), (44, .istore_n 2), (45, .iload_n 2), (46, .iconst (-1)), (47, .if_icmp .ne 5), (50, .iconst 0), (51, .ireturn), (52, .aload_n 0), (53, .getfield 24), (56, .istore_n 3), (57, .aload_n 0), (58, .getfield 47), (61, .ldc 65), (63, .invokevirtual 67)], [(66, .ifCond .eq 13), (69, .aload_n 0), (70, .iconst 0), (71, .invokevirtual 71), (74, .ifCond .ne 5), (77, .iconst 0), (78, .ireturn), (79, .aload_n 0), (80, .getfield 14), (83, .invokevirtual 75), (86, .istore 4), (88, .aload_n 0), (89, .getfield 14), (92, .iload 4), (94, .iconst 0), (95, .iload_n 1)], [(96, .invokevirtual 78), (99, .aload_n 0), (100, .getfield 14), (103, .iload 4), (105, .iconst 1), (106, .iload_n 2), (107, .invokevirtual 78), (110, .aload_n 0), (111, .getfield 14), (114, .iload 4), (116, .iconst 2), (117, .iload_n 3), (118, .invokevirtual 78), (121, .aload_n 0), (122, .getfield 14), (125, .iload 4), (127, .iconst 3)], [(128, .aload_n 0), (129, .getfield 24), (132, .invokevirtual 78), (135, .iconst 1), (136, .ireturn)]]
def gm_c80 : List (List (Nat × Instr)) := [[(0, .aload_n 0), (1, .getfield 47), (4, .ldc 82), (6, .invokevirtual 84), (9, .ifCond .eq 5), (12, .iconst 0), (13, .ireturn), (14, .aload_n 0), (15, .getfield 47), (18, .ldc 87), (20, .invokevirtual 84), (23, .ifCond .eq 5), (26, .iconst 1), (27, .ireturn), (28, .aload_n 0), (29, .getfield 47)], [(32, .ldc 89), (34, .invokevirtual 84), (37, .ifCond .eq 7), (40, .iconst 2), (41, .goto 4), (44, .iconst (-1)), (45, .ireturn)]]
def gm_c81 : List (List (Nat × Instr)) := [[(0, .aload_n 0), (1, .getfield 24), (4, .sipush 257), (7, .if_icmp .ne 19), (10, .aload_n 0), (11, .getfield 15), (14, .aload_n 0), (15, .getfield 18), (18, .isub), (19, .aload_n 1), (20, .invokevirtual 53), (23, .if_icmp .eq 5), (26, .iconst 0), (27, .ireturn), (28, .iconst 0), (29, .istore_n 2), (30, .iload_n 2), (31, .aload_n 1)], [(32, .invokevirtual 53), (35, .if_icmp .ge 44), (38, .aload_n 0), (39, .getfield 18), (42, .iload_n 2), (43, .iadd), (44, .aload_n 0), (45, .getfield 30), (48, .arraylength), (49, .if_icmp .ge 30), (52, .aload_n 0), (53, .getfield 30), (56, .aload_n 0), (57, .getfield 18), (60, .iload_n 2), (61, .iadd), (62, .baload), (63, .aload_n 1)], [(64, .iload_n 2), (65, .invokevirtual 58), (68, .if_icmp .eq 5), (71, .iconst 0), (72, .ireturn), (73, .iinc 2 1), (76, .goto (-46)), (79, .iconst 1), (80, .ireturn)]]
def gm_c82 : List (List (Nat × Instr)) := [[(0, .aload_n 0), (1, .getfield 9), (4, .arraylength), (5, .aload_n 0), (6, .invokevirtual 335), (9, .ishr), (10, .ireturn)]]
def gm_c83 : List (List (Nat × Instr)) := [[(0, .getstatic 38), (3, .ifCond .eq 10), (6, .aload_n 0), (7, .getfield 15), (10, .goto 4), (13, .iconst 1), (14, .ireturn)]]
def gm_c84 : List (List (Nat × Instr)) := [[(0, .aload_n 0), (1, .invokevirtual 492), (4, .ifCond .eq 12), (7, .aload_n 0), (8, .getfield 9), (11, .iload_n 1), (12, .invokestatic 495), (15, .ireturn), (16, .aload_n 0), (17, .getfield 9), (20, .iload_n 1), (21, .invokestatic 498), (24, .ireturn)]]
def gm_c85 : List (List (Nat × Instr)) := [[(0, .getstatic 38), (3, .ifCond .eq 14), (6, .aload_n 0), (7, .getfield 15), (10, .ifCond .ne 7), (13, .iconst 1), (14, .goto 4), (17, .iconst 0), (18, .ireturn)]]
def gm_c86 : List (List (Nat × Instr)) := [[(0, .iload_n 1), (1, .aload_n 0), (2, .arraylength), (3, .invokestatic 9), (6, .aload_n 0), (7, .iload_n 1), (8, .baload), (9, .sipush 255), (12, .iand), (13, .i2c), (14, .ireturn)]]
def gm_c87 : List (List (Nat × Instr)) := [[(0, .iload_n 0), (1, .iload_n 1), (2, .getstatic 1053), (5, .invokestatic 1059), (8, .pop), (9, .return_)]]
def gm_c88 : List (List (Nat × Instr)) := [[(0, .iload_n 0), (1, .ifCond .lt 8), (4, .iload_n 0), (5, .iload_n 1), (6, .if_icmp .lt 10), (9, .aload_n 2), (10, .iload_n 0), (11, .iload_n 1), (12, .invokestatic 95), (15, .athrow), (16, .iload_n 0), (17, .ireturn)]]
def gm_c89 : List (List (Nat × Instr)) := [[(0, .iload_n 1), (1, .aload_n 0), (2, .invokestatic 67), (5, .aload_n 0), (6, .iload_n 1), (7, .invokestatic 71), (10, .ireturn)]]
def gm_c90 : List (List (Nat × Instr)) := [[(0, .iload_n 0), (1, .aload_n 1), (2, .invokestatic 48), (5, .invokestatic 414), (8, .return_)]]
def gm_c91 : List (List (Nat × Instr)) := [[(0, .aload_n 0), (1, .arraylength), (2, .iconst 1), (3, .ishr), (4, .ireturn)]]
def gm_c92 : List (List (Nat × Instr)) := [[(0, .getstatic 44), (3, .ifCond .ne 25), (6, .iload_n 1), (7, .ifCond .lt 11), (10, .iload_n 1), (11, .aload_n 0), (12, .invokestatic 48), (15, .if_icmp .lt 13), (18, .new 52), (21, .dup), (22, .ldc 54), (24, .invokespecial 56), (27, .athrow), (28, .iload_n 1), (29, .iconst 1), (30, .ishl), (31, .istore_n 1)], [(32, .aload_n 0), (33, .iload_n 1), (34, .iinc 1 1), (37, .baload), (38, .sipush 255), (41, .iand), (42, .getstatic 59), (45, .ishl), (46, .aload_n 0), (47, .iload_n 1), (48, .baload), (49, .sipush 255), (52, .iand), (53, .getstatic 63), (56, .ishl), (57, .ior), (58, .i2c), (59, .ireturn)]]
def gm_c93 : List (List (Nat × Instr)) := [[(0, .aload_n 0), (1, .getfield 21), (4, .iconst (-1)), (5, .if_icmp .ne 11), (8, .aload_n 0), (9, .aload_n 0), (10, .getfield 18), (13, .putfield 21), (16, .iconst 0), (17, .ireturn)]]
def gm_c94 : List (List (Nat × Instr)) := [[(0, .aload_n 0), (1, .getfield 27), (4, .istore_n 3), (5, .aload_n 0), (6, .getfield 24), (9, .sipush 258), (12, .if_icmp .ne 13), (15, .iload_n 3), (16, .iload_n 1), (17, .if_icmp .lt 8), (20, .iload_n 3), (21, .iload_n 2), (22, .if_icmp .le 10), (25, .aload_n 0), (26, .invokevirtual 69), (29, .pop), (30, .iconst (-1)), (31, .ireturn)], [(32, .aload_n 0), (33, .invokevirtual 43), (36, .iload_n 3), (37, .ireturn)]]
def gm_c95 : List (List (Nat × Instr)) := [[(0, .aload_n 0), (1, .aload_n 1), (2, .invokevirtual 62), (5, .istore_n 2), (6, .iload_n 2), (7, .ifCond .eq 7), (10, .aload_n 0), (11, .invokevirtual 43), (14, .iload_n 2), (15, .ireturn)]]
def gm_c96 : List (List (Nat × Instr)) := [[(0, .iconst 0), (1, .istore_n 2), (2, .iload_n 2), (3, .sipush 400), (6, .if_icmp .ge 83), (9, .iconst 0), (10, .istore_n 3), (11, .iload_n 3), (12, .sipush 400), (15, .if_icmp .ge 44), (18, .aload_n 0), (19, .iload_n 1), (20, .invokevirtual 91), (23, .ifCond .ne 5), (26, .iconst 0), (27, .ireturn), (28, .iload_n 3), (29, .ifCond .le 9)], [(32, .aload_n 0), (33, .bipush (-16)), (35, .invokevirtual 94), (38, .aload_n 0), (39, .getfield 47), (42, .ldc 96), (44, .invokevirtual 67), (47, .ifCond .ne 6), (50, .goto 9), (53, .iinc 3 1), (56, .goto (-45)), (59, .iload_n 2), (60, .ifCond .le 9), (63, .aload_n 0)], [(64, .bipush (-17)), (66, .invokevirtual 94), (69, .aload_n 0), (70, .getfield 47), (73, .ldc 98), (75, .invokevirtual 67), (78, .ifCond .ne 5), (81, .iconst 1), (82, .ireturn), (83, .iinc 2 1), (86, .goto (-84)), (89, .aload_n 0), (90, .getfield 47), (93, .invokevirtual 51)], [(96, .ireturn)]]
def gm_c97 : List (List (Nat × Instr)) := [[(0, .aload_n 0), (1, .getfield 47), (4, .ldc 100), (6, .invokevirtual 84), (9, .istore_n 2), (10, .iload_n 2), (11, .ifCond .ne 15), (14, .aload_n 0), (15, .getfield 47), (18, .getfield 102), (21, .bipush 40), (23, .if_icmp .ne 82), (26, .iload_n 1), (27, .bipush 6), (29, .if_icmp .lt 11)], [(32, .aload_n 0), (33, .getfield 47), (36, .invokevirtual 51), (39, .ireturn), (40, .aload_n 0), (41, .getfield 47), (44, .invokevirtual 57), (47, .iload_n 2), (48, .ifCond .eq 13), (51, .aload_n 0), (52, .iload_n 1), (53, .iconst 1), (54, .iadd), (55, .invokevirtual 91), (58, .goto 30), (61, .aload_n 0), (62, .iload_n 1), (63, .iconst 1)], [(64, .iadd), (65, .invokevirtual 71), (68, .ifCond .eq 19), (71, .aload_n 0), (72, .getfield 47), (75, .bipush 41), (77, .invokevirtual 105), (80, .ifCond .eq 7), (83, .iconst 1), (84, .goto 4), (87, .iconst 0), (88, .istore_n 3), (89, .iload_n 3), (90, .ifCond .eq 13), (93, .iload_n 2), (94, .ifCond .eq 9)], [(97, .aload_n 0), (98, .bipush (-15)), (100, .invokevirtual 94), (103, .iload_n 3), (104, .ireturn), (105, .aload_n 0), (106, .getfield 47), (109, .ldc 109), (111, .invokevirtual 67), (114, .ifCond .eq 11), (117, .aload_n 0), (118, .bipush (-10)), (120, .invokevirtual 94), (123, .iconst 1), (124, .ireturn), (125, .aload_n 0), (126, .getfield 47)], [(129, .ldc 111), (131, .invokevirtual 67), (134, .ifCond .eq 11), (137, .aload_n 0), (138, .bipush (-11)), (140, .invokevirtual 94), (143, .iconst 1), (144, .ireturn), (145, .aload_n 0), (146, .invokevirtual 113), (149, .ifCond .ne 5), (152, .iconst 0), (153, .ireturn), (154, .aload_n 0), (155, .getfield 47), (158, .getfield 102)], [(161, .istore_n 3), (162, .iload_n 3), (163, .bipush 60), (165, .if_icmp .eq 17), (168, .iload_n 3), (169, .bipush 62), (171, .if_icmp .eq 11), (174, .aload_n 0), (175, .getfield 47), (178, .invokevirtual 51), (181, .ireturn), (182, .aload_n 0), (183, .getfield 47), (186, .invokevirtual 57), (189, .aload_n 0), (190, .bipush (-12))], [(192, .invokevirtual 94), (195, .aload_n 0), (196, .invokevirtual 113), (199, .ifCond .ne 5), (202, .iconst 0), (203, .ireturn), (204, .aload_n 0), (205, .iload_n 3), (206, .bipush 60), (208, .if_icmp .ne 8), (211, .bipush (-13)), (213, .goto 5), (216, .bipush (-14)), (218, .invokevirtual 94), (221, .iconst 1), (222, .ireturn)]]
def gm_c98 : List (List (Nat × Instr)) := [[(0, .aload_n 0), (1, .getfield 24), (4, .iload_n 1), (5, .if_icmp .eq 8), (8, .aload_n 0), (9, .invokevirtual 69), (12, .ireturn), (13, .aload_n 0), (14, .invokevirtual 43), (17, .iconst 1), (18, .ireturn)]]
def gm_c99 : List (List (Nat × Instr)) := [[(0, .aload_n 0), (1, .getfield 24), (4, .aload_n 0), (5, .getfield 20), (8, .arraylength), (9, .if_icmp .ge 23), (12, .aload_n 0), (13, .getfield 20), (16, .aload_n 0), (17, .getfield 24), (20, .iload_n 1), (21, .iastore), (22, .aload_n 0), (23, .dup), (24, .getfield 24), (27, .iconst 1), (28, .iadd), (29, .putfield 24)], [(32, .return_)]]
def gm_c100 : List (List (Nat × Instr)) := [[(0, .iconst 0), (1, .istore_n 1), (2, .iload_n 1), (3, .sipush 400), (6, .if_icmp .ge 83), (9, .aload_n 0), (10, .getfield 47), (13, .getfield 102), (16, .sipush 258), (19, .if_icmp .ne 13), (22, .aload_n 0), (23, .getfield 47), (26, .getfield 116), (29, .goto 7)], [(32, .aload_n 0), (33, .invokevirtual 119), (36, .istore_n 2), (37, .iload_n 2), (38, .iconst (-1)), (39, .if_icmp .ne 11), (42, .aload_n 0), (43, .getfield 47), (46, .invokevirtual 51), (49, .ireturn), (50, .aload_n 0), (51, .iload_n 2), (52, .invokevirtual 94), (55, .aload_n 0), (56, .getfield 47), (59, .invokevirtual 57), (62, .aload_n 0), (63, .getfield 47)], [(66, .getfield 102), (69, .bipush 43), (71, .if_icmp .eq 5), (74, .iconst 1), (75, .ireturn), (76, .aload_n 0), (77, .getfield 47), (80, .invokevirtual 57), (83, .iinc 1 1), (86, .goto (-84)), (89, .aload_n 0), (90, .getfield 47), (93, .invokevirtual 51)], [(96, .ireturn)]]
def gm_c101 : List (List (Nat × Instr)) := [[(0, .aload_n 0), (1, .getfield 47), (4, .ldc 122), (6, .invokevirtual 84), (9, .ifCond .eq 6), (12, .bipush (-2)), (14, .ireturn), (15, .aload_n 0), (16, .getfield 47), (19, .ldc 124), (21, .invokevirtual 84), (24, .ifCond .eq 6), (27, .bipush (-3)), (29, .ireturn), (30, .aload_n 0), (31, .getfield 47)], [(34, .ldc 126), (36, .invokevirtual 84), (39, .ifCond .eq 6), (42, .bipush (-4)), (44, .ireturn), (45, .aload_n 0), (46, .getfield 47), (49, .ldc 128), (51, .invokevirtual 84), (54, .ifCond .eq 6), (57, .bipush (-5)), (59, .ireturn), (60, .aload_n 0), (61, .getfield 47)], [(64, .ldc 130), (66, .invokevirtual 84), (69, .ifCond .eq 6), (72, .bipush (-6)), (74, .ireturn), (75, .aload_n 0), (76, .getfield 47), (79, .ldc 132), (81, .invokevirtual 84), (84, .ifCond .eq 6), (87, .bipush (-7)), (89, .ireturn), (90, .aload_n 0), (91, .getfield 47), (94, .ldc 134)], [(96, .invokevirtual 84), (99, .ifCond .eq 6), (102, .bipush (-8)), (104, .ireturn), (105, .aload_n 0), (106, .getfield 47), (109, .ldc 136), (111, .invokevirtual 84), (114, .ifCond .eq 8), (117, .bipush (-9)), (119, .goto 4), (122, .iconst (-1)), (123, .ireturn)]]
def gm_c102 : List (List (Nat × Instr)) := [[(0, .aload_n 0), (1, .getfield 9), (4, .aload_n 0), (5, .getfield 15), (8, .if_icmp .lt 5), (11, .iconst (-1)), (12, .ireturn), (13, .aload_n 0), (14, .dup), (15, .getfield 9), (18, .iconst 1), (19, .iadd), (20, .putfield 9), (23, .aload_n 0), (24, .getfield 9), (27, .iconst 1), (28, .isub), (29, .ireturn)]]
def gm_c103 : List (List (Nat × Instr)) := [[(0, .aload_n 0), (1, .getfield 15), (4, .ldc 19), (6, .invokevirtual 21), (9, .ifCond .eq 8), (12, .aload_n 0), (13, .invokevirtual 27), (16, .ireturn), (17, .aload_n 0), (18, .getfield 15), (21, .ldc 31), (23, .invokevirtual 21), (26, .ifCond .eq 8), (29, .aload_n 0), (30, .invokevirtual 33)], [(33, .ireturn), (34, .aload_n 0), (35, .getfield 15), (38, .ldc 36), (40, .invokevirtual 21), (43, .ifCond .eq 8), (46, .aload_n 0), (47, .invokevirtual 38), (50, .ireturn), (51, .aload_n 0), (52, .getfield 15), (55, .ldc 41), (57, .invokevirtual 21), (60, .ifCond .eq 8), (63, .aload_n 0)], [(64, .invokevirtual 43), (67, .ireturn), (68, .aload_n 0), (69, .getfield 15), (72, .ldc 46), (74, .invokevirtual 21), (77, .ifCond .eq 8), (80, .aload_n 0), (81, .invokevirtual 48), (84, .ireturn), (85, .aload_n 0), (86, .getfield 15), (89, .ldc 51), (91, .invokevirtual 21), (94, .ifCond .eq 8)], [(97, .aload_n 0), (98, .invokevirtual 53), (101, .ireturn), (102, .aload_n 0), (103, .getfield 15), (106, .ldc 56), (108, .invokevirtual 21), (111, .ifCond .eq 8), (114, .aload_n 0), (115, .invokevirtual 58), (118, .ireturn), (119, .aload_n 0), (120, .getfield 15), (123, .ldc 61), (125, .invokevirtual 21)], [(128, .ifCond .eq 8), (131, .aload_n 0), (132, .invokevirtual 63), (135, .ireturn), (136, .aload_n 0), (137, .getfield 15), (140, .ldc 66), (142, .invokevirtual 21), (145, .ifCond .eq 8), (148, .aload_n 0), (149, .invokevirtual 68), (152, .ireturn), (153, .aload_n 0), (154, .getfield 15), (157, .ldc 71), (159, .invokevirtual 21)], [(162, .ifCond .eq 8), (165, .aload_n 0), (166, .invokevirtual 73), (169, .ireturn), (170, .aload_n 0), (171, .getfield 15), (174, .invokevirtual 76), (177, .ireturn)]]
def gm_c104 : List (List (Nat × Instr)) := [[(0, .aload_n 0), (1, .getfield 9), (4, .invokevirtual 79), (7, .ifCond .ne 11), (10, .aload_n 0), (11, .getfield 15), (14, .invokevirtual 76), (17, .ireturn), (18, .aload_n 0), (19, .getfield 15), (22, .invokevirtual 84), (25, .aload_n 0), (26, .getfield 15), (29, .iconst 1), (30, .bipush 6)], [(32, .invokevirtual 88), (35, .istore_n 1), (36, .iload_n 1), (37, .iconst (-1)), (38, .if_icmp .ne 5), (41, .iconst 0), (42, .ireturn), (43, .aload_n 0), (44, .getfield 9), (47, .iload_n 1), (48, .putfield 92), (51, .aload_n 0), (52, .getfield 9), (55, .iload_n 1), (56, .putfield 95), (59, .iconst 1), (60, .ireturn)]]
def gm_c105 : List (List (Nat × Instr)) := [[(0, .aload_n 0), (1, .getfield 45), (4, .invokevirtual 68), (7, .aload_n 0), (8, .getfield 49), (11, .invokevirtual 68), (14, .iadd), (15, .aload_n 0), (16, .getfield 52), (19, .invokevirtual 68), (22, .iadd), (23, .aload_n 0), (24, .getfield 55), (27, .invokevirtual 68), (30, .iadd), (31, .aload_n 0)], [(32, .getfield 58), (35, .invokevirtual 68), (38, .iadd), (39, .ifCond .ne 7), (42, .iconst 1), (43, .goto 4), (46, .iconst 0), (47, .ireturn)]]
def gm_c106 : List (List (Nat × Instr)) := [[(0, .aload_n 0), (1, .getfield 9), (4, .invokevirtual 79), (7, .ifCond .ne 11), (10, .aload_n 0), (11, .getfield 15), (14, .invokevirtual 76), (17, .ireturn), (18, .aload_n 0), (19, .getfield 15), (22, .invokevirtual 84), (25, .aload_n 0), (26, .getfield 15), (29, .bipush 10), (31, .bipush 99)], [(33, .invokevirtual 88), (36, .istore_n 1), (37, .iload_n 1), (38, .iconst (-1)), (39, .if_icmp .ne 5), (42, .iconst 0), (43, .ireturn), (44, .aload_n 0), (45, .getfield 9), (48, .iload_n 1), (49, .putfield 97), (52, .aload_n 0), (53, .getfield 9), (56, .bipush 10), (58, .putfield 99), (61, .iconst 1), (62, .ireturn)]]
def gm_c107 : List (List (Nat × Instr)) := [[(0, .aload_n 0), (1, .getfield 9), (4, .getfield 101), (7, .invokevirtual 105), (10, .ifCond .eq 11), (13, .aload_n 0), (14, .getfield 15), (17, .invokevirtual 76), (20, .ireturn), (21, .aload_n 0), (22, .getfield 15), (25, .invokevirtual 84), (28, .aload_n 0), (29, .getfield 9)], [(32, .getfield 101), (35, .invokevirtual 110), (38, .iconst 1), (39, .isub), (40, .istore_n 1), (41, .aload_n 0), (42, .getfield 9), (45, .getfield 101), (48, .iload_n 1), (49, .iconst 0), (50, .invokevirtual 114), (53, .iconst 1), (54, .iadd), (55, .istore_n 2), (56, .aload_n 0), (57, .getfield 15), (60, .iload_n 2), (61, .iload_n 1), (62, .ifCond .ge 7)], [(65, .iconst 0), (66, .goto 12), (69, .aload_n 0), (70, .getfield 9), (73, .getfield 97), (76, .iconst 1), (77, .isub), (78, .invokevirtual 88), (81, .istore_n 3), (82, .iload_n 3), (83, .iconst (-1)), (84, .if_icmp .ne 5), (87, .iconst 0), (88, .ireturn), (89, .aload_n 0), (90, .getfield 9), (93, .getfield 101)], [(96, .invokevirtual 117), (99, .istore 4), (101, .aload_n 0), (102, .getfield 9), (105, .getfield 101), (108, .iload 4), (110, .iconst 0), (111, .iload_n 3), (112, .invokevirtual 120), (115, .aload_n 0), (116, .aload_n 0), (117, .getfield 9), (120, .getfield 101), (123, .iload 4), (125, .iconst 1), (126, .invokevirtual 124)], [(129, .ireturn)]]
def gm_c108 : List (List (Nat × Instr)) := [[(0, .aload_n 0), (1, .getfield 9), (4, .aload_n 0), (5, .getfield 15), (8, .if_icmp .lt 7), (11, .iconst 1), (12, .goto 4), (15, .iconst 0), (16, .ireturn)]]
def gm_c109 : List (List (Nat × Instr)) := [[(0, .iconst 0), (1, .istore 4), (3, .iload 4), (5, .aload_n 0), (6, .getfield 9), (9, .getfield 92), (12, .if_icmp .ge 40), (15, .aload_n 0), (16, .getfield 15), (19, .iconst 0), (20, .bipush 20), (22, .invokevirtual 88), (25, .istore 5), (27, .iload 5), (29, .iconst (-1)), (30, .if_icmp .ne 5)], [(33, .iconst 0), (34, .ireturn), (35, .aload_n 1), (36, .iload_n 2), (37, .iload_n 3), (38, .iload 4), (40, .iadd), (41, .iload 5), (43, .invokevirtual 120), (46, .iinc 4 1), (49, .goto (-46)), (52, .iconst 1), (53, .ireturn)]]
def gm_c110 : List (List (Nat × Instr)) := [[(0, .aload_n 0), (1, .getfield 15), (4, .invokevirtual 84), (7, .aload_n 0), (8, .invokevirtual 128), (11, .istore_n 1), (12, .iload_n 1), (13, .iconst (-1)), (14, .if_icmp .eq 15), (17, .aload_n 0), (18, .getfield 15), (21, .ldc 131), (23, .invokevirtual 133), (26, .ifCond .ne 5), (29, .iconst 0), (30, .ireturn), (31, .aload_n 0)], [(32, .getfield 15), (35, .iconst 0), (36, .bipush 9), (38, .invokevirtual 88), (41, .istore_n 2), (42, .iload_n 2), (43, .iconst (-1)), (44, .if_icmp .ne 5), (47, .iconst 0), (48, .ireturn), (49, .aload_n 0), (50, .getfield 9), (53, .iload_n 1), (54, .putfield 99), (57, .aload_n 0), (58, .getfield 9), (61, .iload_n 2), (62, .putfield 136)], [(65, .iconst 1), (66, .ireturn)]]
def gm_c111 : List (List (Nat × Instr)) := [[(0, .aload_n 0), (1, .getfield 15), (4, .iconst 0), (5, .aload_n 0), (6, .getfield 9), (9, .getfield 97), (12, .iconst 1), (13, .isub), (14, .invokevirtual 88), (17, .ireturn)]]
def gm_c112 : List (List (Nat × Instr)) := [[(0, .aload_n 0), (1, .aload_n 1), (2, .invokevirtual 66), (5, .ifCond .ne 10), (8, .aload_n 0), (9, .invokevirtual 69), (12, .ifCond .eq 7), (15, .iconst 1), (16, .goto 4), (19, .iconst 0), (20, .ireturn)]]
def gm_c113 : List (List (Nat × Instr)) := [[(0, .aload_n 0), (1, .getfield 15), (4, .invokevirtual 84), (7, .aload_n 0), (8, .getfield 15), (11, .iconst 0), (12, .aload_n 0), (13, .getfield 9), (16, .getfield 92), (19, .invokevirtual 88), (22, .istore_n 1), (23, .iload_n 1), (24, .iconst (-1)), (25, .if_icmp .ne 5), (28, .iconst 0), (29, .ireturn), (30, .aload_n 0), (31, .getfield 9)], [(34, .iload_n 1), (35, .putfield 95), (38, .iconst 1), (39, .ireturn)]]
def gm_c114 : List (List (Nat × Instr)) := [[(0, .aload_n 0), (1, .getfield 15), (4, .invokevirtual 84), (7, .aload_n 0), (8, .getfield 15), (11, .iconst 0), (12, .sipush 9999), (15, .invokevirtual 88), (18, .istore_n 1), (19, .iload_n 1), (20, .iconst (-1)), (21, .if_icmp .ne 5), (24, .iconst 0), (25, .ireturn), (26, .aload_n 0), (27, .getfield 9), (30, .iload_n 1), (31, .putfield 138)], [(34, .iconst 1), (35, .ireturn)]]
def gm_c115 : List (List (Nat × Instr)) := [[(0, .aload_n 0), (1, .getfield 9), (4, .getfield 140), (7, .invokevirtual 105), (10, .ifCond .eq 11), (13, .aload_n 0), (14, .getfield 15), (17, .invokevirtual 76), (20, .ireturn), (21, .aload_n 0), (22, .getfield 15), (25, .invokevirtual 84), (28, .aload_n 0), (29, .getfield 15)], [(32, .aload_n 0), (33, .getfield 9), (36, .getfield 143), (39, .sipush 299), (42, .invokevirtual 88), (45, .istore_n 1), (46, .iload_n 1), (47, .iconst (-1)), (48, .if_icmp .ne 7), (51, .iconst (-1)), (52, .goto 7), (55, .aload_n 0), (56, .invokevirtual 128), (59, .istore_n 2), (60, .iload_n 2), (61, .iconst (-1)), (62, .if_icmp .ne 7)], [(65, .iconst (-1)), (66, .goto 13), (69, .aload_n 0), (70, .getfield 15), (73, .iconst 1), (74, .bipush 20), (76, .invokevirtual 88), (79, .istore_n 3), (80, .iload_n 3), (81, .iconst (-1)), (82, .if_icmp .ne 5), (85, .iconst 0), (86, .ireturn), (87, .aload_n 0), (88, .getfield 9), (91, .getfield 140), (94, .invokevirtual 117)], [(97, .istore 4), (99, .aload_n 0), (100, .getfield 9), (103, .getfield 140), (106, .iload 4), (108, .iconst 0), (109, .iload_n 1), (110, .invokevirtual 120), (113, .aload_n 0), (114, .getfield 9), (117, .getfield 140), (120, .iload 4), (122, .iconst 1), (123, .iload_n 2), (124, .invokevirtual 120), (127, .aload_n 0)], [(128, .getfield 9), (131, .getfield 140), (134, .iload 4), (136, .iconst 2), (137, .iload_n 3), (138, .invokevirtual 120), (141, .iconst 1), (142, .ireturn)]]
def gm_c116 : List (List (Nat × Instr)) := [[(0, .aload_n 0), (1, .getfield 9), (4, .getfield 146), (7, .invokevirtual 105), (10, .ifCond .eq 11), (13, .aload_n 0), (14, .getfield 15), (17, .invokevirtual 76), (20, .ireturn), (21, .aload_n 0), (22, .getfield 15), (25, .invokevirtual 84), (28, .aload_n 0), (29, .invokevirtual 149)], [(32, .istore_n 1), (33, .iload_n 1), (34, .iconst (-1)), (35, .if_icmp .ne 7), (38, .iconst (-1)), (39, .goto 7), (42, .aload_n 0), (43, .invokevirtual 128), (46, .istore_n 2), (47, .iload_n 2), (48, .iconst (-1)), (49, .if_icmp .ne 5), (52, .iconst 0), (53, .ireturn), (54, .iconst (-1)), (55, .istore_n 3), (56, .aload_n 0), (57, .getfield 15), (60, .ldc 152), (62, .invokevirtual 154)], [(65, .ifCond .eq 15), (68, .aload_n 0), (69, .invokevirtual 149), (72, .istore_n 3), (73, .iload_n 3), (74, .iconst (-1)), (75, .if_icmp .ne 5), (78, .iconst 0), (79, .ireturn), (80, .aload_n 0), (81, .getfield 9), (84, .getfield 146), (87, .invokevirtual 117), (90, .istore 4), (92, .aload_n 0), (93, .getfield 9)], [(96, .getfield 146), (99, .iload 4), (101, .iconst 0), (102, .iload_n 1), (103, .invokevirtual 120), (106, .aload_n 0), (107, .getfield 9), (110, .getfield 146), (113, .iload 4), (115, .iconst 1), (116, .iload_n 2), (117, .invokevirtual 120), (120, .aload_n 0), (121, .getfield 9), (124, .getfield 146), (127, .iload 4)], [(129, .iconst 2), (130, .iload_n 3), (131, .invokevirtual 120), (134, .iconst 1), (135, .ireturn)]]
def gm_c117 : List (List (Nat × Instr)) := [[(0, .aload_n 0), (1, .getfield 15), (4, .iconst 0), (5, .aload_n 0), (6, .getfield 9), (9, .getfield 92), (12, .iconst 1), (13, .isub), (14, .invokevirtual 88), (17, .ireturn)]]
def gm_c118 : List (List (Nat × Instr)) := [[(0, .aload_n 0), (1, .getfield 9), (4, .getfield 157), (7, .invokevirtual 105), (10, .ifCond .eq 11), (13, .aload_n 0), (14, .getfield 15), (17, .invokevirtual 76), (20, .ireturn), (21, .aload_n 0), (22, .getfield 15), (25, .invokevirtual 84), (28, .aload_n 0), (29, .invokevirtual 149)], [(32, .istore_n 1), (33, .iload_n 1), (34, .iconst (-1)), (35, .if_icmp .ne 7), (38, .iconst (-1)), (39, .goto 7), (42, .aload_n 0), (43, .invokevirtual 128), (46, .istore_n 2), (47, .iload_n 2), (48, .iconst (-1)), (49, .if_icmp .ne 5), (52, .iconst 0), (53, .ireturn), (54, .aload_n 0), (55, .getfield 9), (58, .iconst (-1)), (59, .iconst (-1)), (60, .iload_n 1), (61, .iload_n 2), (62, .invokevirtual 160)], [(65, .pop), (66, .iconst 1), (67, .ireturn)]]
def gm_c119 : List (List (Nat × Instr)) := [[(0, .aload_n 0), (1, .getfield 55), (4, .invokevirtual 76), (7, .istore 5), (9, .aload_n 0), (10, .getfield 55), (13, .iload 5), (15, .iconst 0), (16, .iload_n 1), (17, .invokevirtual 79), (20, .aload_n 0), (21, .getfield 55), (24, .iload 5), (26, .iconst 1), (27, .iload_n 2), (28, .invokevirtual 79), (31, .aload_n 0)], [(32, .getfield 55), (35, .iload 5), (37, .iconst 2), (38, .iload_n 3), (39, .invokevirtual 79), (42, .aload_n 0), (43, .getfield 55), (46, .iload 5), (48, .iconst 3), (49, .aload_n 0), (50, .getfield 30), (53, .invokevirtual 79), (56, .aload_n 0), (57, .getfield 55), (60, .iload 5), (62, .iconst 4), (63, .iload 4)], [(65, .invokevirtual 79), (68, .aload_n 0), (69, .getfield 55), (72, .iload 5), (74, .iconst 5), (75, .iconst (-1)), (76, .invokevirtual 79), (79, .aload_n 0), (80, .getfield 55), (83, .iload 5), (85, .bipush 6), (87, .iconst (-1)), (88, .invokevirtual 79), (91, .iload 5), (93, .ireturn)]]
def gm_c120 : List (List (Nat × Instr)) := [[(0, .aload_n 0), (1, .getfield 9), (4, .getfield 164), (7, .invokevirtual 105), (10, .ifCond .eq 11), (13, .aload_n 0), (14, .getfield 15), (17, .invokevirtual 76), (20, .ireturn), (21, .aload_n 0), (22, .getfield 15), (25, .invokevirtual 84), (28, .aload_n 0), (29, .aload_n 0), (30, .getfield 9)], [(33, .getfield 164), (36, .aload_n 0), (37, .getfield 9), (40, .getfield 164), (43, .invokevirtual 117), (46, .iconst 0), (47, .invokevirtual 124), (50, .ireturn)]]
def gm_c121 : List (List (Nat × Instr)) := [[(0, .aload_n 0), (1, .getfield 21), (4, .ireturn)]]
def gm_c122 : List (List (Nat × Instr)) := [[(0, .aload_n 1), (1, .iconst 0), (2, .aload_n 0), (3, .invokevirtual 17), (6, .i2l), (7, .lastore), (8, .goto 6), (11, .astore_n 2), (12, .iconst 1), (13, .ireturn), (14, .iconst 0), (15, .ireturn)]]
def gm_c123 : List (List (Nat × Instr)) := [[(0, .aload_n 0), (1, .aload_n 0), (2, .getfield 88), (5, .aload_n 0), (6, .getfield 13), (9, .invokevirtual 139), (12, .putfield 17), (15, .aload_n 0), (16, .iconst 0), (17, .putfield 13), (20, .aload_n 0), (21, .getfield 17), (24, .iconst (-1)), (25, .if_icmp .eq 13), (28, .new 121), (31, .dup)], [(32, .ldc 140), (34, .invokespecial 125), (37, .athrow), (38, .aload_n 0), (39, .getfield 23), (42, .aload_n 0), (43, .getfield 88), (46, .invokevirtual 142), (49, .putfield 146), (52, .aload_n 0), (53, .invokevirtual 136), (56, .aload_n 0), (57, .invokevirtual 150), (60, .ireturn)]]
def gm_c124 : List (List (Nat × Instr)) := [[(0, .new 32), (3, .dup), (4, .aload_n 0), (5, .getfield 14), (8, .aload_n 0), (9, .getfield 20), (12, .aload_n 0), (13, .getfield 24), (16, .invokestatic 34), (19, .invokespecial 40), (22, .areturn)]]
def gm_c125 : List (List (Nat × Instr)) := [[(0, .iload_n 1), (1, .aload_n 0), (2, .arraylength), (3, .if_icmp .ne 11), (6, .aload_n 0), (7, .invokevirtual 316), (10, .checkcast 317), (13, .areturn), (14, .iload_n 1), (15, .newarray .int), (17, .astore_n 2), (18, .aload_n 0), (19, .iconst 0), (20, .aload_n 2), (21, .iconst 0), (22, .aload_n 0), (23, .arraylength), (24, .iload_n 1), (25, .invokestatic 304), (28, .invokestatic 150), (31, .aload_n 2)], [(32, .areturn)]]
def gm_c126 : List (List (Nat × Instr)) := [[(0, .aload_n 0), (1, .invokespecial 3), (4, .aload_n 0), (5, .new 9), (8, .dup), (9, .bipush 12), (11, .iconst 4), (12, .invokespecial 11), (15, .putfield 14), (18, .aload_n 0), (19, .getfield 14), (22, .aload_n 1), (23, .invokevirtual 18), (26, .aload_n 0), (27, .aload_n 2), (28, .putfield 22), (31, .return_)]]
def gm_c127 : List (List (Nat × Instr)) := [[(0, .aload_n 2), (1, .iconst 0), (2, .aload_n 0), (3, .iload_n 1), (4, .invokevirtual 20), (7, .i2l), (8, .lastore), (9, .goto 6), (12, .astore_n 3), (13, .iconst 1), (14, .ireturn), (15, .iconst 0), (16, .ireturn)]]
def gm_c128 : List (List (Nat × Instr)) := [[(0, .aload_n 0), (1, .iload_n 1), (2, .invokevirtual 160), (5, .aload_n 0), (6, .getfield 49), (9, .iload_n 1), (10, .invokevirtual 163), (13, .ireturn)]]
def gm_c129 : List (List (Nat × Instr)) := [[(0, .iload_n 1), (1, .ifCond .lt 10), (4, .iload_n 1), (5, .sipush 299), (8, .if_icmp .le 14), (11, .new 121), (14, .dup), (15, .ldc_w 458), (18, .invokespecial 125), (21, .athrow), (22, .return_)]]
def gm_c130 : List (List (Nat × Instr)) := [[(0, .aload_n 3), (1, .iconst 0), (2, .aload_n 0), (3, .iload_n 1), (4, .iload_n 2), (5, .invokevirtual 24), (8, .i2l), (9, .lastore), (10, .goto 7), (13, .astore 4), (15, .iconst 1), (16, .ireturn), (17, .iconst 0), (18, .ireturn)]]
def gm_c131 : List (List (Nat × Instr)) := [[(0, .aload_n 0), (1, .iload_n 1), (2, .invokevirtual 166), (5, .aload_n 0), (6, .iload_n 2), (7, .invokevirtual 169), (10, .aload_n 0), (11, .getfield 49), (14, .iload_n 1), (15, .iload_n 2), (16, .invokevirtual 172), (19, .ireturn)]]
def gm_c132 : List (List (Nat × Instr)) := [[(0, .aload_n 0), (1, .iload_n 1), (2, .aload_n 0), (3, .getfield 23), (6, .getfield 351), (9, .invokevirtual 306), (12, .return_)]]
def gm_c133 : List (List (Nat × Instr)) := [[(0, .iload_n 1), (1, .ifCond .lt 8), (4, .iload_n 1), (5, .iload_n 2), (6, .if_icmp .lt 14), (9, .new 453), (12, .dup), (13, .ldc_w 455), (16, .invokespecial 457), (19, .athrow), (20, .return_)]]
def gm_c134 : List (List (Nat × Instr)) := [[(0, .aload_n 0), (1, .iload_n 1), (2, .aload_n 0), (3, .getfield 23), (6, .getfield 226), (9, .invokevirtual 306), (12, .return_)]]
def gm_c135 : List (List (Nat × Instr)) := [[(0, .aload 4), (2, .iconst 0), (3, .aload_n 0), (4, .iload_n 1), (5, .iload_n 2), (6, .iload_n 3), (7, .invokevirtual 30), (10, .i2l), (11, .lastore), (12, .goto 11), (15, .astore 5), (17, .iconst 1), (18, .ireturn), (19, .astore 5), (21, .iconst 2), (22, .ireturn), (23, .iconst 0), (24, .ireturn)]]
def gm_c136 : List (List (Nat × Instr)) := [[(0, .aload_n 0), (1, .iload_n 1), (2, .invokevirtual 166), (5, .aload_n 0), (6, .iload_n 2), (7, .invokevirtual 169), (10, .aload_n 0), (11, .iload_n 3), (12, .invokevirtual 160), (15, .aload_n 0), (16, .getfield 49), (19, .iload_n 1), (20, .iload_n 2), (21, .iload_n 3), (22, .invokevirtual 176), (25, .ireturn)]]
def gm_c137 : List (List (Nat × Instr)) := [[(0, .aload_n 3), (1, .iconst 0), (2, .aload_n 0), (3, .iload_n 1), (4, .iload_n 2), (5, .invokevirtual 34), (8, .i2l), (9, .lastore), (10, .goto 11), (13, .astore 4), (15, .iconst 1), (16, .ireturn), (17, .astore 4), (19, .iconst 2), (20, .ireturn), (21, .iconst 0), (22, .ireturn)]]
def gm_c138 : List (List (Nat × Instr)) := [[(0, .aload_n 0), (1, .iload_n 1), (2, .invokevirtual 180), (5, .iload_n 2), (6, .tableswitch 71 0 5 #[38, 38, 38, 51, 58, 65])], [(44, .aload_n 0), (45, .getfield 23), (48, .getfield 183), (51, .iload_n 1), (52, .iload_n 2), (53, .invokevirtual 186), (56, .ireturn), (57, .aload_n 0), (58, .iconst 0), (59, .iload_n 1), (60, .invokevirtual 189), (63, .ireturn)], [(64, .aload_n 0), (65, .iconst 5), (66, .iload_n 1), (67, .invokevirtual 189), (70, .ireturn), (71, .aload_n 0), (72, .iload_n 1), (73, .invokevirtual 192), (76, .ireturn), (77, .new 195), (80, .dup), (81, .ldc 197), (83, .invokespecial 199), (86, .athrow)]]
def gm_c139 : List (List (Nat × Instr)) := [[(0, .aload_n 0), (1, .iload_n 1), (2, .aload_n 0), (3, .getfield 23), (6, .getfield 183), (9, .invokevirtual 277), (12, .invokevirtual 306), (15, .return_)]]
def gm_c140 : List (List (Nat × Instr)) := [[(0, .iconst 0), (1, .istore_n 3), (2, .iconst 0), (3, .istore 4), (5, .iload 4), (7, .aload_n 0), (8, .getfield 23), (11, .getfield 203), (14, .invokevirtual 277), (17, .if_icmp .ge 29), (20, .aload_n 0), (21, .getfield 23), (24, .getfield 203), (27, .iload 4), (29, .iload_n 1), (30, .invokevirtual 186)], [(33, .iload_n 2), (34, .if_icmp .ne 6), (37, .iinc 3 1), (40, .iinc 4 1), (43, .goto (-38)), (46, .iload_n 3), (47, .ireturn)]]
def gm_c141 : List (List (Nat × Instr)) := [[(0, .aload_n 3), (1, .iconst 0), (2, .aload_n 0), (3, .iload_n 1), (4, .iload_n 2), (5, .invokevirtual 39), (8, .i2l), (9, .lastore), (10, .goto 11), (13, .astore 4), (15, .iconst 1), (16, .ireturn), (17, .astore 4), (19, .iconst 2), (20, .ireturn), (21, .iconst 0), (22, .ireturn)]]
def gm_c142 : List (List (Nat × Instr)) := [[(0, .aload_n 0), (1, .iload_n 1), (2, .invokevirtual 200), (5, .iload_n 2), (6, .tableswitch 100 0 9 #[54, 54, 54, 54, 54, 54, 54, 67, 73, 94])], [(60, .aload_n 0), (61, .getfield 23)], [(64, .getfield 203), (67, .iload_n 1), (68, .iload_n 2), (69, .invokevirtual 186), (72, .ireturn), (73, .aload_n 0), (74, .iload_n 1), (75, .invokevirtual 206), (78, .ireturn), (79, .aload_n 0), (80, .iload_n 1), (81, .invokevirtual 206), (84, .iconst (-1)), (85, .if_icmp .ne 7), (88, .iconst (-1)), (89, .goto 10), (92, .aload_n 0), (93, .getfield 58)], [(96, .getfield 209), (99, .ireturn), (100, .aload_n 0), (101, .iload_n 1), (102, .invokevirtual 212), (105, .ireturn), (106, .new 195), (109, .dup), (110, .ldc 215), (112, .invokespecial 199), (115, .athrow)]]
def gm_c143 : List (List (Nat × Instr)) := [[(0, .aload_n 0), (1, .iload_n 1), (2, .aload_n 0), (3, .getfield 23), (6, .getfield 203), (9, .invokevirtual 277), (12, .invokevirtual 306), (15, .return_)]]
def gm_c144 : List (List (Nat × Instr)) := [[(0, .aload_n 0), (1, .getfield 58), (4, .iload_n 1), (5, .invokevirtual 217), (8, .aload_n 0), (9, .getfield 58), (12, .sipush 299), (15, .invokevirtual 295), (18, .ireturn)]]
def gm_c145 : List (List (Nat × Instr)) := [[(0, .aload_n 0), (1, .getfield 58), (4, .iload_n 1), (5, .invokevirtual 217), (8, .aload_n 0), (9, .getfield 58), (12, .getfield 444), (15, .iconst 1), (16, .iadd), (17, .istore_n 2), (18, .iload_n 2), (19, .sipush 300), (22, .if_icmp .ge 40), (25, .aload_n 0), (26, .getfield 58), (29, .invokevirtual 447)], [(32, .aload_n 0), (33, .getfield 58), (36, .invokevirtual 411), (39, .ifCond .eq 5), (42, .iconst (-1)), (43, .ireturn), (44, .aload_n 0), (45, .getfield 58), (48, .getfield 209), (51, .ifCond .ne 5), (54, .iload_n 2), (55, .ireturn), (56, .iinc 2 1), (59, .goto (-41)), (62, .iconst (-1)), (63, .ireturn)]]
def gm_c146 : List (List (Nat × Instr)) := [[(0, .aload_n 3), (1, .iconst 0), (2, .aload_n 0), (3, .iload_n 1), (4, .iload_n 2), (5, .invokevirtual 42), (8, .i2l), (9, .lastore), (10, .goto 11), (13, .astore 4), (15, .iconst 1), (16, .ireturn), (17, .astore 4), (19, .iconst 2), (20, .ireturn), (21, .iconst 0), (22, .ireturn)]]
def gm_c147 : List (List (Nat × Instr)) := [[(0, .aload_n 0), (1, .iload_n 1), (2, .invokevirtual 200), (5, .aload_n 0), (6, .iload_n 2), (7, .invokevirtual 160), (10, .iload_n 2), (11, .aload_n 0), (12, .getfield 23), (15, .getfield 203), (18, .iload_n 1), (19, .iconst 3), (20, .invokevirtual 186), (23, .if_icmp .ge 5), (26, .iconst (-1)), (27, .ireturn), (28, .aload_n 0), (29, .getfield 58)], [(32, .iload_n 1), (33, .invokevirtual 217), (36, .aload_n 0), (37, .getfield 58), (40, .iload_n 2), (41, .invokevirtual 220), (44, .aload_n 0), (45, .getfield 58), (48, .getfield 223), (51, .aload_n 0), (52, .getfield 23), (55, .getfield 226), (58, .invokestatic 229), (61, .ireturn)]]
def gm_c148 : List (List (Nat × Instr)) := [[(0, .aload_n 0), (1, .getfield 28), (4, .istore_n 2), (5, .iload_n 2), (6, .iload_n 1), (7, .if_icmp .ge 13), (10, .aload_n 0), (11, .invokevirtual 112), (14, .iinc 2 1), (17, .goto (-12)), (20, .return_)]]
def gm_c149 : List (List (Nat × Instr)) := [[(0, .aload_n 3), (1, .iconst 0), (2, .aload_n 0), (3, .iload_n 1), (4, .iload_n 2), (5, .invokevirtual 45), (8, .i2l), (9, .lastore), (10, .goto 11), (13, .astore 4), (15, .iconst 1), (16, .ireturn), (17, .astore 4), (19, .iconst 2), (20, .ireturn), (21, .iconst 0), (22, .ireturn)]]
def gm_c150 : List (List (Nat × Instr)) := [[(0, .aload_n 0), (1, .iload_n 1), (2, .invokevirtual 200), (5, .aload_n 0), (6, .iload_n 2), (7, .invokevirtual 160), (10, .iload_n 2), (11, .aload_n 0), (12, .getfield 23), (15, .getfield 203), (18, .iload_n 1), (19, .iconst 3), (20, .invokevirtual 186), (23, .if_icmp .ge 5), (26, .iconst (-1)), (27, .ireturn), (28, .aload_n 0), (29, .getfield 58)], [(32, .iload_n 1), (33, .invokevirtual 217), (36, .aload_n 0), (37, .getfield 58), (40, .iload_n 2), (41, .invokevirtual 220), (44, .aload_n 0), (45, .getfield 58), (48, .getfield 209), (51, .ireturn)]]
def gm_c151 : List (List (Nat × Instr)) := [[(0, .aload_n 3), (1, .iconst 0), (2, .aload_n 0), (3, .iload_n 1), (4, .iload_n 2), (5, .invokevirtual 48), (8, .i2l), (9, .lastore), (10, .goto 15), (13, .astore 4), (15, .iconst 1), (16, .ireturn), (17, .astore 4), (19, .iconst 2), (20, .ireturn), (21, .astore 4), (23, .iconst 3), (24, .ireturn), (25, .iconst 0), (26, .ireturn)]]
def gm_c152 : List (List (Nat × Instr)) := [[(0, .aload_n 0), (1, .iload_n 1), (2, .invokevirtual 180), (5, .aload_n 0), (6, .iload_n 2), (7, .invokevirtual 180), (10, .aload_n 0), (11, .iload_n 1), (12, .iload_n 2), (13, .invokevirtual 234), (16, .aload_n 0), (17, .getfield 23), (20, .getfield 203), (23, .invokevirtual 237), (26, .ifCond .eq 13), (29, .new 131)], [(32, .dup), (33, .ldc 241), (35, .invokespecial 135), (38, .athrow), (39, .aload_n 0), (40, .getfield 40), (43, .aload_n 0), (44, .getfield 23), (47, .invokevirtual 243), (50, .aload_n 0), (51, .iconst 0), (52, .putfield 101), (55, .aload_n 0), (56, .getfield 23), (59, .iload_n 1), (60, .iload_n 2), (61, .aload_n 0), (62, .getfield 23)], [(65, .getfield 183), (68, .iload_n 1), (69, .iconst 0), (70, .invokevirtual 186), (73, .aload_n 0), (74, .getfield 23), (77, .getfield 183), (80, .iload_n 1), (81, .iconst 1), (82, .invokevirtual 186), (85, .invokevirtual 246), (88, .ireturn)]]
def gm_c153 : List (List (Nat × Instr)) := [[(0, .iload_n 1), (1, .iload_n 2), (2, .if_icmp .ne 14), (5, .new 121), (8, .dup), (9, .ldc_w 462), (12, .invokespecial 125), (15, .athrow), (16, .return_)]]
def gm_c154 : List (List (Nat × Instr)) := [[(0, .aload_n 0), (1, .aload_n 0), (2, .getfield 17), (5, .invokevirtual 25), (8, .astore_n 2), (9, .aload_n 2), (10, .ifnull 8), (13, .aload_n 2), (14, .aload_n 1), (15, .invokevirtual 29), (18, .aload_n 0), (19, .aload_n 0), (20, .getfield 17), (23, .iconst 1), (24, .iadd), (25, .bipush 12), (27, .irem), (28, .putfield 17), (31, .aload_n 0)], [(32, .aload_n 0), (33, .getfield 21), (36, .iconst 1), (37, .iadd), (38, .bipush 12), (40, .invokestatic 33), (43, .putfield 21), (46, .return_)]]
def gm_c155 : List (List (Nat × Instr)) := [[(0, .aload_n 3), (1, .iconst 0), (2, .aload_n 0), (3, .iload_n 1), (4, .iload_n 2), (5, .invokevirtual 51), (8, .i2l), (9, .lastore), (10, .goto 7), (13, .astore 4), (15, .iconst 1), (16, .ireturn), (17, .iconst 0), (18, .ireturn)]]
def gm_c156 : List (List (Nat × Instr)) := [[(0, .aload_n 0), (1, .iload_n 1), (2, .invokevirtual 180), (5, .iload_n 2), (6, .iconst (-1)), (7, .if_icmp .eq 8), (10, .aload_n 0), (11, .iload_n 2), (12, .invokevirtual 166), (15, .aload_n 0), (16, .getfield 40), (19, .aload_n 0), (20, .getfield 23), (23, .invokevirtual 243), (26, .aload_n 0), (27, .getfield 23), (30, .getfield 183)], [(33, .iload_n 1), (34, .iconst 2), (35, .invokevirtual 186), (38, .istore_n 3), (39, .aload_n 0), (40, .getfield 23), (43, .getfield 183), (46, .iload_n 1), (47, .iconst 2), (48, .iload_n 2), (49, .invokevirtual 250), (52, .iload_n 3), (53, .ireturn)]]
def gm_c157 : List (List (Nat × Instr)) := [[(0, .aload_n 2), (1, .iconst 0), (2, .aload_n 0), (3, .iload_n 1), (4, .invokevirtual 54), (7, .i2l), (8, .lastore), (9, .goto 9), (12, .astore_n 3), (13, .iconst 1), (14, .ireturn), (15, .astore_n 3), (16, .iconst 2), (17, .ireturn), (18, .iconst 0), (19, .ireturn)]]
def gm_c158 : List (List (Nat × Instr)) := [[(0, .aload_n 0), (1, .iload_n 1), (2, .invokevirtual 200), (5, .aload_n 0), (6, .invokevirtual 254), (9, .aload_n 0), (10, .iload_n 1), (11, .invokevirtual 257), (14, .ifCond .ne 14), (17, .new 261), (20, .dup), (21, .ldc_w 263), (24, .invokespecial 265), (27, .athrow), (28, .aload_n 0), (29, .getfield 40)], [(32, .aload_n 0), (33, .getfield 23), (36, .invokevirtual 243), (39, .aload_n 0), (40, .getfield 23), (43, .iload_n 1), (44, .aload_n 0), (45, .getfield 23), (48, .getfield 203), (51, .iload_n 1), (52, .iconst 1), (53, .invokevirtual 186), (56, .invokevirtual 266), (59, .aload_n 0), (60, .getfield 23), (63, .getfield 269)], [(66, .aload_n 0), (67, .getfield 23), (70, .getfield 203), (73, .iload_n 1), (74, .iconst 3), (75, .invokevirtual 186), (78, .isub), (79, .ireturn)]]
def gm_c159 : List (List (Nat × Instr)) := [[(0, .aload_n 0), (1, .getfield 55), (4, .iload_n 1), (5, .iconst 5), (6, .iload_n 2), (7, .invokevirtual 79), (10, .aload_n 0), (11, .getfield 55), (14, .iload_n 1), (15, .bipush 6), (17, .aload_n 0), (18, .getfield 30), (21, .invokevirtual 79), (24, .aload_n 0), (25, .getfield 61), (28, .invokevirtual 76), (31, .istore_n 3)], [(32, .aload_n 0), (33, .getfield 61), (36, .iload_n 3), (37, .iconst 0), (38, .aload_n 0), (39, .getfield 30), (42, .invokevirtual 79), (45, .aload_n 0), (46, .getfield 61), (49, .iload_n 3), (50, .iconst 1), (51, .iload_n 1), (52, .invokevirtual 79), (55, .aload_n 0), (56, .getfield 61), (59, .iload_n 3), (60, .iconst 2), (61, .iload_n 2), (62, .invokevirtual 79)], [(65, .return_)]]
def gm_c160 : List (List (Nat × Instr)) := [[(0, .aload_n 2), (1, .iconst 0), (2, .aload_n 0), (3, .iload_n 1), (4, .invokevirtual 59), (7, .i2l), (8, .lastore), (9, .goto 6), (12, .astore_n 3), (13, .iconst 1), (14, .ireturn), (15, .iconst 0), (16, .ireturn)]]
def gm_c161 : List (List (Nat × Instr)) := [[(0, .iload_n 1), (1, .iconst 1), (2, .if_icmp .lt 24), (5, .iload_n 1), (6, .bipush 50), (8, .if_icmp .gt 18), (11, .iload_n 1), (12, .sipush 299), (15, .aload_n 0), (16, .getfield 23), (19, .getfield 269), (22, .isub), (23, .if_icmp .le 14), (26, .new 121), (29, .dup), (30, .ldc_w 272)], [(33, .invokespecial 125), (36, .athrow), (37, .aload_n 0), (38, .getfield 40), (41, .aload_n 0), (42, .getfield 23), (45, .invokevirtual 243), (48, .aload_n 0), (49, .invokevirtual 254), (52, .iconst 0), (53, .istore_n 2), (54, .iconst 0), (55, .istore_n 3), (56, .iload_n 3), (57, .iload_n 1), (58, .if_icmp .ge 16), (61, .iload_n 2), (62, .aload_n 0), (63, .invokevirtual 274)], [(66, .iadd), (67, .istore_n 2), (68, .iinc 3 1), (71, .goto (-15)), (74, .iload_n 2), (75, .ireturn)]]
def gm_c162 : List (List (Nat × Instr)) := [[(0, .aload_n 0), (1, .getfield 23), (4, .dup), (5, .getfield 269), (8, .iconst 1), (9, .iadd), (10, .putfield 269), (13, .iconst 0), (14, .istore_n 1), (15, .iconst 0), (16, .istore_n 2), (17, .iload_n 2), (18, .aload_n 0), (19, .getfield 23), (22, .getfield 203), (25, .invokevirtual 277), (28, .if_icmp .ge 40), (31, .aload_n 0)], [(32, .iload_n 2), (33, .invokevirtual 257), (36, .ifCond .eq 26), (39, .aload_n 0), (40, .iload_n 2), (41, .invokevirtual 280), (44, .istore_n 3), (45, .iload_n 3), (46, .iconst (-1)), (47, .if_icmp .eq 15), (50, .aload_n 0), (51, .getfield 23), (54, .iload_n 2), (55, .iload_n 3), (56, .invokevirtual 266), (59, .iinc 1 1), (62, .iinc 2 1)], [(65, .goto (-48)), (68, .iload_n 1), (69, .ireturn)]]
def gm_c163 : List (List (Nat × Instr)) := [[(0, .aload_n 0), (1, .getfield 23), (4, .getfield 203), (7, .iload_n 1), (8, .iconst 2), (9, .invokevirtual 186), (12, .istore_n 2), (13, .aload_n 0), (14, .getfield 23), (17, .getfield 203), (20, .iload_n 1), (21, .iconst 1), (22, .invokevirtual 186), (25, .istore_n 3), (26, .aload_n 0), (27, .getfield 23), (30, .getfield 183)], [(33, .iload_n 3), (34, .iconst 2), (35, .invokevirtual 186), (38, .iload_n 2), (39, .if_icmp .ne 5), (42, .iload_n 3), (43, .ireturn), (44, .aload_n 0), (45, .getfield 23), (48, .getfield 269), (51, .aload_n 0), (52, .getfield 23), (55, .getfield 203), (58, .iload_n 1), (59, .iconst 3), (60, .invokevirtual 186), (63, .isub)], [(64, .istore 4), (66, .iconst 0), (67, .istore 5), (69, .iload 5), (71, .aload_n 0), (72, .getfield 23), (75, .getfield 183), (78, .invokevirtual 277), (81, .if_icmp .ge 53), (84, .aload_n 0), (85, .getfield 23), (88, .getfield 183), (91, .iload 5), (93, .iconst 2), (94, .invokevirtual 186)], [(97, .iload_n 2), (98, .if_icmp .ne 30), (101, .aload_n 0), (102, .getfield 49), (105, .iload 5), (107, .iload_n 2), (108, .iload 4), (110, .aload_n 0), (111, .getfield 97), (114, .iload_n 1), (115, .iconst 1), (116, .invokevirtual 186), (119, .invokevirtual 283), (122, .ifCond .eq 6), (125, .iload 5), (127, .ireturn)], [(128, .iinc 5 1), (131, .goto (-62)), (134, .iconst (-1)), (135, .ireturn)]]
def gm_c164 : List (List (Nat × Instr)) := [[(0, .aload_n 0), (1, .getfield 34), (4, .getfield 93), (7, .ifnonnull 5), (10, .iconst 0), (11, .ireturn), (12, .aload_n 0), (13, .iload_n 2), (14, .aload_n 0), (15, .getfield 34), (18, .getfield 85), (21, .aload_n 0), (22, .getfield 34), (25, .getfield 129), (28, .iconst 0), (29, .invokevirtual 101)], [(32, .aload_n 0), (33, .getfield 23), (36, .iconst 5), (37, .iload_n 1), (38, .iastore), (39, .aload_n 0), (40, .getfield 23), (43, .bipush 6), (45, .iload_n 3), (46, .iastore), (47, .aload_n 0), (48, .getfield 23), (51, .bipush 7), (53, .iload 4), (55, .iastore), (56, .aload_n 0), (57, .getfield 34), (60, .getfield 93), (63, .aload_n 0)], [(64, .getfield 23), (67, .invokevirtual 132), (70, .ireturn)]]
def gm_c165 : List (List (Nat × Instr)) := [[(0, .iconst 0), (1, .istore_n 2), (2, .iload_n 2), (3, .aload_n 0), (4, .getfield 14), (7, .invokevirtual 26), (10, .if_icmp .ge 60), (13, .aload_n 0), (14, .getfield 14), (17, .iload_n 2), (18, .iconst 0), (19, .invokevirtual 30), (22, .iconst 2), (23, .if_icmp .ne 7), (26, .iconst 1), (27, .goto 4), (30, .iconst 0), (31, .istore_n 3)], [(32, .iload_n 3), (33, .ifCond .eq 31), (36, .aload_n 0), (37, .aload_n 0), (38, .getfield 14), (41, .iload_n 2), (42, .iconst 2), (43, .invokevirtual 30), (46, .aload_n 0), (47, .getfield 14), (50, .iload_n 2), (51, .iconst 3), (52, .invokevirtual 30), (55, .aload_n 1), (56, .invokevirtual 34), (59, .ifCond .eq 5), (62, .iconst 1), (63, .ireturn)], [(64, .iinc 2 1), (67, .goto (-65)), (70, .iconst 0), (71, .ireturn)]]
def gm_c166 : List (List (Nat × Instr)) := [[(0, .aload 5), (2, .iconst 0), (3, .aload_n 0), (4, .iload_n 1), (5, .iload_n 2), (6, .iload_n 3), (7, .iload 4), (9, .invokevirtual 62), (12, .i2l), (13, .lastore), (14, .goto 15), (17, .astore 6), (19, .iconst 1), (20, .ireturn), (21, .astore 6), (23, .iconst 2), (24, .ireturn), (25, .astore 6), (27, .iconst 3), (28, .ireturn), (29, .iconst 0), (30, .ireturn)]]
def gm_c167 : List (List (Nat × Instr)) := [[(0, .aload_n 0), (1, .iload_n 1), (2, .invokevirtual 166), (5, .aload_n 0), (6, .iload_n 2), (7, .invokevirtual 160), (10, .aload_n 0), (11, .iload_n 3), (12, .invokevirtual 160), (15, .iload_n 2), (16, .aload_n 0), (17, .getfield 23), (20, .getfield 269), (23, .if_icmp .ge 14), (26, .new 121), (29, .dup), (30, .ldc_w 287)], [(33, .invokespecial 125), (36, .athrow), (37, .iload 4), (39, .ifCond .lt 9), (42, .iload 4), (44, .iconst 2), (45, .if_icmp .le 14), (48, .new 195), (51, .dup), (52, .ldc_w 289), (55, .invokespecial 199), (58, .athrow), (59, .iconst 0), (60, .istore 5), (62, .iconst (-1)), (63, .istore 6)], [(65, .iconst (-1)), (66, .istore 7), (68, .iconst 0), (69, .istore 8), (71, .iload 8), (73, .aload_n 0), (74, .getfield 23), (77, .getfield 226), (80, .if_icmp .ge 55), (83, .aload_n 0), (84, .getfield 58), (87, .iload_n 1), (88, .iload 8), (90, .iload_n 2), (91, .iconst 0), (92, .invokevirtual 291), (95, .aload_n 0)], [(96, .getfield 58), (99, .iload_n 3), (100, .invokevirtual 295), (103, .iload_n 3), (104, .if_icmp .ne 25), (107, .iinc 5 1), (110, .iload 6), (112, .iconst (-1)), (113, .if_icmp .ne 8), (116, .iload 8), (118, .goto 5), (121, .iload 6), (123, .istore 6), (125, .iload 8), (127, .istore 7)], [(129, .iinc 8 1), (132, .goto (-61)), (135, .iload 4), (137, .ifCond .ne 8), (140, .iload 5), (142, .goto 16), (145, .iload 4), (147, .iconst 1), (148, .if_icmp .ne 8), (151, .iload 6), (153, .goto 5), (156, .iload 7), (158, .ireturn)]]
def gm_c168 : List (List (Nat × Instr)) := [[(0, .aload_n 3), (1, .iconst 0), (2, .aload_n 0), (3, .iload_n 1), (4, .iload_n 2), (5, .invokevirtual 66), (8, .i2l), (9, .lastore), (10, .goto 11), (13, .astore 4), (15, .iconst 1), (16, .ireturn), (17, .astore 4), (19, .iconst 2), (20, .ireturn), (21, .iconst 0), (22, .ireturn)]]
def gm_c169 : List (List (Nat × Instr)) := [[(0, .aload_n 0), (1, .iload_n 1), (2, .invokevirtual 180), (5, .aload_n 0), (6, .iload_n 2), (7, .invokevirtual 160), (10, .iload_n 2), (11, .istore_n 3), (12, .iload_n 3), (13, .aload_n 0), (14, .getfield 23), (17, .getfield 269), (20, .if_icmp .lt 32), (23, .aload_n 0), (24, .getfield 58), (27, .iload_n 1), (28, .iload_n 3), (29, .invokevirtual 298)], [(32, .aload_n 0), (33, .getfield 58), (36, .iload_n 2), (37, .invokevirtual 295), (40, .iconst (-1)), (41, .if_icmp .eq 5), (44, .iload_n 3), (45, .ireturn), (46, .iinc 3 (-1)), (49, .goto (-37)), (52, .iconst (-1)), (53, .ireturn)]]
def gm_c170 : List (List (Nat × Instr)) := [[(0, .aload_n 0), (1, .aload_n 0), (2, .getfield 34), (5, .getfield 62), (8, .iload_n 1), (9, .iconst 0), (10, .invokevirtual 48), (13, .aload_n 0), (14, .getfield 34), (17, .getfield 62), (20, .iload_n 1), (21, .iconst 1), (22, .invokevirtual 48), (25, .iload_n 2), (26, .iconst 0), (27, .invokevirtual 58), (30, .return_)]]
def gm_c171 : List (List (Nat × Instr)) := [[(0, .aload_n 3), (1, .iconst 0), (2, .aload_n 0), (3, .iload_n 1), (4, .iload_n 2), (5, .invokevirtual 69), (8, .i2l), (9, .lastore), (10, .goto 11), (13, .astore 4), (15, .iconst 1), (16, .ireturn), (17, .astore 4), (19, .iconst 2), (20, .ireturn), (21, .iconst 0), (22, .ireturn)]]
def gm_c172 : List (List (Nat × Instr)) := [[(0, .aload_n 0), (1, .iload_n 1), (2, .invokevirtual 166), (5, .iload_n 2), (6, .iconst 1), (7, .if_icmp .lt 10), (10, .iload_n 2), (11, .sipush 299), (14, .if_icmp .le 14), (17, .new 121), (20, .dup), (21, .ldc_w 301), (24, .invokespecial 125), (27, .athrow), (28, .sipush 299), (31, .aload_n 0)], [(32, .getfield 23), (35, .getfield 269), (38, .iload_n 2), (39, .iadd), (40, .invokestatic 229), (43, .istore_n 3), (44, .iconst 0), (45, .istore 4), (47, .iload 4), (49, .aload_n 0), (50, .getfield 23), (53, .getfield 226), (56, .if_icmp .ge 42), (59, .aload_n 0), (60, .getfield 58), (63, .iload_n 1)], [(64, .iload 4), (66, .aload_n 0), (67, .getfield 23), (70, .getfield 269), (73, .iconst 0), (74, .invokevirtual 291), (77, .aload_n 0), (78, .getfield 58), (81, .iload_n 3), (82, .invokevirtual 295), (85, .iconst (-1)), (86, .if_icmp .eq 6), (89, .iload 4), (91, .ireturn), (92, .iinc 4 1), (95, .goto (-48))], [(98, .iconst (-1)), (99, .ireturn)]]
def gm_c173 : List (List (Nat × Instr)) := [[(0, .aload_n 3), (1, .iconst 0), (2, .aload_n 0), (3, .iload_n 1), (4, .iload_n 2), (5, .invokevirtual 72), (8, .i2l), (9, .lastore), (10, .goto 7), (13, .astore 4), (15, .iconst 1), (16, .ireturn), (17, .iconst 0), (18, .ireturn)]]
def gm_c174 : List (List (Nat × Instr)) := [[(0, .aload_n 0), (1, .iload_n 1), (2, .invokevirtual 200), (5, .aload_n 0), (6, .iload_n 2), (7, .aload_n 0), (8, .getfield 23), (11, .getfield 303), (14, .invokevirtual 277), (17, .invokevirtual 306), (20, .aload_n 0), (21, .getfield 58), (24, .iload_n 1), (25, .invokevirtual 217), (28, .aload_n 0), (29, .getfield 58)], [(32, .iload_n 2), (33, .invokevirtual 309), (36, .aload_n 0), (37, .getfield 58), (40, .sipush 299), (43, .invokevirtual 295), (46, .ireturn)]]
def gm_c175 : List (List (Nat × Instr)) := [[(0, .aload_n 0), (1, .iload_n 1), (2, .putfield 19), (5, .return_)]]
def gm_c176 : List (List (Nat × Instr)) := [[(0, .aload_n 2), (1, .iconst 0), (2, .aload_n 0), (3, .iload_n 1), (4, .invokevirtual 75), (7, .i2l), (8, .lastore), (9, .goto 6), (12, .astore_n 3), (13, .iconst 1), (14, .ireturn), (15, .iconst 0), (16, .ireturn)]]
def gm_c177 : List (List (Nat × Instr)) := [[(0, .aload_n 0), (1, .iload_n 1), (2, .invokevirtual 200), (5, .aload_n 0), (6, .getfield 58), (9, .iload_n 1), (10, .invokevirtual 217), (13, .aload_n 0), (14, .getfield 58), (17, .sipush 299), (20, .invokevirtual 295), (23, .pop), (24, .aload_n 0), (25, .getfield 58), (28, .getfield 312), (31, .ireturn)]]
def gm_c178 : List (List (Nat × Instr)) := [[(0, .aload_n 2), (1, .iconst 0), (2, .aload_n 0), (3, .iload_n 1), (4, .invokevirtual 78), (7, .i2l), (8, .lastore), (9, .goto 6), (12, .astore_n 3), (13, .iconst 1), (14, .ireturn), (15, .iconst 0), (16, .ireturn)]]
def gm_c179 : List (List (Nat × Instr)) := [[(0, .aload_n 0), (1, .iload_n 1), (2, .invokevirtual 200), (5, .iconst 0), (6, .istore_n 2), (7, .iconst 0), (8, .istore_n 3), (9, .iload_n 3), (10, .aload_n 0), (11, .getfield 23), (14, .getfield 203), (17, .invokevirtual 277), (20, .if_icmp .ge 35), (23, .iload_n 3), (24, .iload_n 1), (25, .if_icmp .eq 24), (28, .aload_n 0), (29, .iload_n 1), (30, .iload_n 3), (31, .invokevirtual 319)], [(34, .ifCond .eq 15), (37, .aload_n 0), (38, .iload_n 1), (39, .iload_n 3), (40, .invokevirtual 323), (43, .ifCond .eq 6), (46, .iinc 2 1), (49, .iinc 3 1), (52, .goto (-43)), (55, .iload_n 2), (56, .ireturn)]]
def gm_c180 : List (List (Nat × Instr)) := [[(0, .aload_n 0), (1, .getfield 23), (4, .getfield 203), (7, .iload_n 1), (8, .iconst 2), (9, .invokevirtual 186), (12, .aload_n 0), (13, .getfield 23), (16, .getfield 203), (19, .iload_n 2), (20, .iconst 2), (21, .invokevirtual 186), (24, .if_icmp .ne 7), (27, .iconst 1), (28, .goto 4), (31, .iconst 0)], [(32, .ireturn)]]
def gm_c181 : List (List (Nat × Instr)) := [[(0, .aload_n 0), (1, .iload_n 1), (2, .iload_n 2), (3, .iconst 0), (4, .invokevirtual 326), (7, .istore_n 3), (8, .aload_n 0), (9, .invokevirtual 329), (12, .ifCond .eq 20), (15, .aload_n 0), (16, .getfield 58), (19, .getfield 223), (22, .aload_n 0), (23, .getfield 62), (26, .getfield 223), (29, .if_icmp .lt 5)], [(32, .iconst 0), (33, .ireturn), (34, .iload_n 3), (35, .iconst 1), (36, .iadd), (37, .istore 4), (39, .iload 4), (41, .sipush 300), (44, .if_icmp .ge 41), (47, .aload_n 0), (48, .invokevirtual 332), (51, .aload_n 0), (52, .invokevirtual 329), (55, .ifCond .ne 5), (58, .iconst 0), (59, .ireturn), (60, .aload_n 0), (61, .getfield 58)], [(64, .getfield 223), (67, .aload_n 0), (68, .getfield 62), (71, .getfield 223), (74, .if_icmp .le 5), (77, .iconst 1), (78, .ireturn), (79, .iinc 4 1), (82, .goto (-43)), (85, .iconst 0), (86, .ireturn)]]
def gm_c182 : List (List (Nat × Instr)) := [[(0, .aload_n 0), (1, .getfield 58), (4, .iload_n 1), (5, .invokevirtual 217), (8, .aload_n 0), (9, .getfield 62), (12, .iload_n 2), (13, .invokevirtual 217), (16, .iload_n 3), (17, .aload_n 0), (18, .getfield 58), (21, .getfield 444), (24, .aload_n 0), (25, .getfield 62), (28, .getfield 444), (31, .invokestatic 396)], [(34, .invokestatic 396), (37, .istore 4), (39, .aload_n 0), (40, .getfield 58), (43, .iload 4), (45, .invokevirtual 220), (48, .aload_n 0), (49, .getfield 62), (52, .iload 4), (54, .invokevirtual 220), (57, .iload 4), (59, .ireturn)]]
def gm_c183 : List (List (Nat × Instr)) := [[(0, .aload_n 0), (1, .getfield 58), (4, .invokevirtual 411), (7, .ifCond .ne 17), (10, .aload_n 0), (11, .getfield 62), (14, .invokevirtual 411), (17, .ifCond .ne 7), (20, .iconst 1), (21, .goto 4), (24, .iconst 0), (25, .ireturn)]]
def gm_c184 : List (List (Nat × Instr)) := [[(0, .aload_n 0), (1, .getfield 58), (4, .invokevirtual 447), (7, .aload_n 0), (8, .getfield 62), (11, .invokevirtual 447), (14, .return_)]]
def gm_c185 : List (List (Nat × Instr)) := [[(0, .aload 4), (2, .iconst 0), (3, .aload_n 0), (4, .iload_n 1), (5, .iload_n 2), (6, .iload_n 3), (7, .invokevirtual 81), (10, .i2l), (11, .lastore), (12, .goto 11), (15, .astore 5), (17, .iconst 1), (18, .ireturn), (19, .astore 5), (21, .iconst 2), (22, .ireturn), (23, .iconst 0), (24, .ireturn)]]
def gm_c186 : List (List (Nat × Instr)) := [[(0, .aload_n 0), (1, .iload_n 1), (2, .invokevirtual 166), (5, .aload_n 0), (6, .iload_n 2), (7, .iload_n 3), (8, .invokevirtual 335), (11, .iconst 0), (12, .istore 4), (14, .iconst 0), (15, .istore 5), (17, .iload 5), (19, .aload_n 0), (20, .getfield 23), (23, .getfield 183), (26, .invokevirtual 277), (29, .if_icmp .ge 31)], [(32, .aload_n 0), (33, .iload 5), (35, .iload_n 1), (36, .iload_n 2), (37, .iload_n 3), (38, .invokevirtual 338), (41, .iconst (-1)), (42, .if_icmp .eq 12), (45, .iload 4), (47, .iconst 1), (48, .iload 5), (50, .ishl), (51, .ior), (52, .istore 4), (54, .iinc 5 1), (57, .goto (-40)), (60, .iload 4), (62, .ireturn)]]
def gm_c187 : List (List (Nat × Instr)) := [[(0, .aload_n 0), (1, .iload_n 1), (2, .invokevirtual 160), (5, .iload_n 2), (6, .ifCond .lt 9), (9, .iload_n 2), (10, .bipush 99), (12, .if_icmp .le 14), (15, .new 121), (18, .dup), (19, .ldc_w 460), (22, .invokespecial 125), (25, .athrow), (26, .return_)]]
def gm_c188 : List (List (Nat × Instr)) := [[(0, .aload_n 0), (1, .getfield 23), (4, .getfield 183), (7, .iload_n 1), (8, .iconst 0), (9, .invokevirtual 186), (12, .iload_n 2), (13, .if_icmp .eq 5), (16, .iconst (-1)), (17, .ireturn), (18, .iload_n 3), (19, .iconst 1), (20, .isub), (21, .istore 5), (23, .iload 5), (25, .ifCond .lt 46), (28, .aload_n 0), (29, .getfield 58)], [(32, .iload_n 1), (33, .iload 5), (35, .invokevirtual 298), (38, .aload_n 0), (39, .getfield 58), (42, .iload_n 3), (43, .invokevirtual 295), (46, .iload_n 3), (47, .if_icmp .ne 18), (50, .aload_n 0), (51, .getfield 58), (54, .getfield 209), (57, .iload 4), (59, .if_icmp .ne 6), (62, .iload 5)], [(64, .ireturn), (65, .iinc 5 (-1)), (68, .goto (-45)), (71, .iconst (-1)), (72, .ireturn)]]
def gm_c189 : List (List (Nat × Instr)) := [[(0, .aload 5), (2, .iconst 0), (3, .aload_n 0), (4, .iload_n 1), (5, .iload_n 2), (6, .iload_n 3), (7, .iload 4), (9, .invokevirtual 84), (12, .i2l), (13, .lastore), (14, .goto 11), (17, .astore 6), (19, .iconst 1), (20, .ireturn), (21, .astore 6), (23, .iconst 2), (24, .ireturn), (25, .iconst 0), (26, .ireturn)]]
def gm_c190 : List (List (Nat × Instr)) := [[(0, .aload_n 0), (1, .iload_n 1), (2, .invokevirtual 180), (5, .aload_n 0), (6, .iload_n 2), (7, .invokevirtual 166), (10, .aload_n 0), (11, .iload_n 3), (12, .iload 4), (14, .invokevirtual 335), (17, .aload_n 0), (18, .iload_n 1), (19, .iload_n 2), (20, .iload_n 3), (21, .iload 4), (23, .invokevirtual 338), (26, .ireturn)]]
def gm_c191 : List (List (Nat × Instr)) := [[(0, .aload_n 3), (1, .iconst 0), (2, .aload_n 0), (3, .iload_n 1), (4, .iload_n 2), (5, .invokevirtual 87), (8, .i2l), (9, .lastore), (10, .goto 7), (13, .astore 4), (15, .iconst 1), (16, .ireturn), (17, .iconst 0), (18, .ireturn)]]
def gm_c192 : List (List (Nat × Instr)) := [[(0, .aload_n 0), (1, .iload_n 1), (2, .invokevirtual 341), (5, .aload_n 0), (6, .iload_n 2), (7, .invokevirtual 166), (10, .aload_n 0), (11, .getfield 23), (14, .getfield 344), (17, .iload_n 1), (18, .iload_n 2), (19, .invokevirtual 186), (22, .ireturn)]]
def gm_c193 : List (List (Nat × Instr)) := [[(0, .aload_n 0), (1, .iload_n 1), (2, .aload_n 0), (3, .getfield 23), (6, .getfield 344), (9, .invokevirtual 277), (12, .invokevirtual 306), (15, .return_)]]
def gm_c194 : List (List (Nat × Instr)) := [[(0, .aload 4), (2, .iconst 0), (3, .aload_n 0), (4, .iload_n 1), (5, .iload_n 2), (6, .iload_n 3), (7, .invokevirtual 90), (10, .ifCond .eq 7), (13, .lconst 1), (14, .goto 4), (17, .lconst 0), (18, .lastore), (19, .goto 7), (22, .astore 5), (24, .iconst 1), (25, .ireturn), (26, .iconst 0), (27, .ireturn)]]
def gm_c195 : List (List (Nat × Instr)) := [[(0, .aload_n 0), (1, .iload_n 1), (2, .invokevirtual 341), (5, .aload_n 0), (6, .iload_n 2), (7, .invokevirtual 341), (10, .aload_n 0), (11, .iload_n 1), (12, .iload_n 2), (13, .iload_n 3), (14, .invokevirtual 347), (17, .ireturn)]]
def gm_c196 : List (List (Nat × Instr)) := [[(0, .aload_n 1), (1, .iconst 0), (2, .aload_n 0), (3, .invokevirtual 94), (6, .i2l), (7, .lastore), (8, .goto 6), (11, .astore_n 2), (12, .iconst 1), (13, .ireturn), (14, .iconst 0), (15, .ireturn)]]
def gm_c197 : List (List (Nat × Instr)) := [[(0, .aload_n 0), (1, .getfield 13), (4, .istore_n 1), (5, .aload_n 0), (6, .iconst 0), (7, .putfield 13), (10, .aload_n 0), (11, .iload_n 1), (12, .invokevirtual 362), (15, .ifCond .ne 14), (18, .new 121), (21, .dup), (22, .ldc_w 365), (25, .invokespecial 125), (28, .athrow), (29, .iconst 0), (30, .istore_n 2), (31, .iconst 0)], [(32, .istore_n 3), (33, .iload_n 3), (34, .aload_n 0), (35, .getfield 23), (38, .getfield 344), (41, .invokevirtual 277), (44, .if_icmp .ge 24), (47, .aload_n 0), (48, .iload_n 3), (49, .iload_n 1), (50, .invokevirtual 367), (53, .ifCond .eq 9), (56, .iload_n 2), (57, .iconst 1), (58, .iload_n 3), (59, .ishl), (60, .ior), (61, .istore_n 2), (62, .iinc 3 1)], [(65, .goto (-32)), (68, .iload_n 2), (69, .ireturn)]]
def gm_c198 : List (List (Nat × Instr)) := [[(0, .iload_n 1), (1, .iconst 2), (2, .irem), (3, .ifCond .eq 5), (6, .iconst 0), (7, .ireturn), (8, .iconst 0), (9, .istore_n 2), (10, .iload_n 2), (11, .iconst 1), (12, .iadd), (13, .iload_n 1), (14, .if_icmp .ge 93), (17, .iload_n 2), (18, .iconst 1), (19, .iadd), (20, .aload_n 0), (21, .getfield 9), (24, .arraylength), (25, .if_icmp .ge 82), (28, .aload_n 0), (29, .getfield 9)], [(32, .iload_n 2), (33, .baload), (34, .ifCond .lt 23), (37, .aload_n 0), (38, .getfield 9), (41, .iload_n 2), (42, .baload), (43, .aload_n 0), (44, .getfield 23), (47, .getfield 351), (50, .if_icmp .ge 7), (53, .iconst 1), (54, .goto 4), (57, .iconst 0), (58, .istore_n 3), (59, .aload_n 0), (60, .getfield 9), (63, .iload_n 2)], [(64, .iconst 1), (65, .iadd), (66, .baload), (67, .ifCond .lt 20), (70, .aload_n 0), (71, .getfield 9), (74, .iload_n 2), (75, .iconst 1), (76, .iadd), (77, .baload), (78, .bipush 20), (80, .if_icmp .gt 7), (83, .iconst 1), (84, .goto 4), (87, .iconst 0), (88, .istore 4), (90, .iload_n 3), (91, .ifCond .eq 8), (94, .iload 4)], [(96, .ifCond .ne 5), (99, .iconst 0), (100, .ireturn), (101, .iinc 2 2), (104, .goto (-94)), (107, .iconst 1), (108, .ireturn)]]
def gm_c199 : List (List (Nat × Instr)) := [[(0, .iconst 0), (1, .istore_n 3), (2, .iload_n 3), (3, .iconst 1), (4, .iadd), (5, .iload_n 2), (6, .if_icmp .ge 50), (9, .iload_n 3), (10, .iconst 1), (11, .iadd), (12, .aload_n 0), (13, .getfield 9), (16, .arraylength), (17, .if_icmp .ge 39), (20, .aload_n 0), (21, .getfield 23), (24, .getfield 344), (27, .iload_n 1), (28, .aload_n 0), (29, .getfield 9)], [(32, .iload_n 3), (33, .baload), (34, .invokevirtual 186), (37, .aload_n 0), (38, .getfield 9), (41, .iload_n 3), (42, .iconst 1), (43, .iadd), (44, .baload), (45, .if_icmp .eq 5), (48, .iconst 0), (49, .ireturn), (50, .iinc 3 2), (53, .goto (-51)), (56, .iconst 1), (57, .ireturn)]]
def gm_c200 : List (List (Nat × Instr)) := [[(0, .aload 4), (2, .iconst 0), (3, .aload_n 0), (4, .iload_n 1), (5, .iload_n 2), (6, .iload_n 3), (7, .invokevirtual 97), (10, .i2l), (11, .lastore), (12, .goto 11), (15, .astore 5), (17, .iconst 1), (18, .ireturn), (19, .astore 5), (21, .iconst 2), (22, .ireturn), (23, .iconst 0), (24, .ireturn)]]
def gm_c201 : List (List (Nat × Instr)) := [[(0, .aload_n 0), (1, .iload_n 1), (2, .invokevirtual 180), (5, .aload_n 0), (6, .iload_n 2), (7, .invokevirtual 180), (10, .aload_n 0), (11, .iload_n 1), (12, .iload_n 2), (13, .invokevirtual 234), (16, .aload_n 0), (17, .getfield 70), (20, .iload_n 1), (21, .iload_n 2), (22, .sipush 299), (25, .invokevirtual 370), (28, .aload_n 0), (29, .getfield 70)], [(32, .iload_n 2), (33, .invokevirtual 373), (36, .istore 4), (38, .iload_n 3), (39, .ifCond .eq 22), (42, .iload 4), (44, .iconst (-1)), (45, .if_icmp .eq 16), (48, .aload_n 0), (49, .getfield 70), (52, .iload_n 2), (53, .iload 4), (55, .invokevirtual 376), (58, .goto 5), (61, .iload 4), (63, .ireturn)]]
def gm_c202 : List (List (Nat × Instr)) := [[(0, .aload_n 0), (1, .getfield 14), (4, .aload_n 0), (5, .getfield 23), (8, .getfield 31), (11, .invokevirtual 36), (14, .invokevirtual 40), (17, .aload_n 0), (18, .getfield 20), (21, .aload_n 0), (22, .getfield 23), (25, .getfield 31), (28, .invokevirtual 36), (31, .invokevirtual 40)], [(34, .aload_n 0), (35, .iload_n 1), (36, .aload_n 0), (37, .getfield 23), (40, .getfield 44), (43, .iconst 1), (44, .iload_n 3), (45, .invokevirtual 48), (48, .aload_n 0), (49, .getfield 23), (52, .getfield 44), (55, .iconst 1), (56, .iadd), (57, .istore 4), (59, .iload 4), (61, .iload_n 3), (62, .if_icmp .ge 80)], [(65, .aload_n 0), (66, .getfield 14), (69, .iload_n 2), (70, .iload 4), (72, .invokevirtual 52), (75, .ifCond .le 4), (78, .return_), (79, .iconst 0), (80, .istore 5), (82, .iload 5), (84, .aload_n 0), (85, .getfield 23), (88, .getfield 31), (91, .invokevirtual 36), (94, .if_icmp .ge 42)], [(97, .aload_n 0), (98, .getfield 14), (101, .iload 5), (103, .iload 4), (105, .invokevirtual 52), (108, .istore 6), (110, .iload 6), (112, .ifCond .le 18), (115, .aload_n 0), (116, .iload 5), (118, .iload 4), (120, .iconst 1), (121, .iadd), (122, .iload 6), (124, .iconst 1), (125, .iadd), (126, .iload_n 3), (127, .invokevirtual 48)], [(130, .iinc 5 1), (133, .goto (-51)), (136, .iinc 4 1), (139, .goto (-80)), (142, .return_)]]
def gm_c203 : List (List (Nat × Instr)) := [[(0, .aload_n 0), (1, .getfield 23), (4, .getfield 31), (7, .astore 5), (9, .aload 5), (11, .iload_n 1), (12, .iconst 0), (13, .invokevirtual 52), (16, .istore 6), (18, .aload_n 0), (19, .getfield 27), (22, .iload_n 1), (23, .iload_n 2), (24, .invokevirtual 56), (27, .aload_n 0), (28, .getfield 27), (31, .iload 4)], [(33, .invokevirtual 61), (36, .istore 7), (38, .iload 7), (40, .iconst (-1)), (41, .if_icmp .ne 4), (44, .return_), (45, .aload_n 0), (46, .getfield 20), (49, .iload_n 1), (50, .iload_n 2), (51, .iload 7), (53, .invokevirtual 65), (56, .iconst 0), (57, .istore 8), (59, .iload 8), (61, .aload 5), (63, .invokevirtual 36)], [(66, .if_icmp .ge 61), (69, .aload 5), (71, .iload 8), (73, .iconst 2), (74, .invokevirtual 52), (77, .iload 6), (79, .if_icmp .ne 42), (82, .aload_n 0), (83, .getfield 14), (86, .iload 8), (88, .iload 7), (90, .invokevirtual 52), (93, .istore 9), (95, .aload_n 0)], [(96, .getfield 14), (99, .iload 8), (101, .iload 7), (103, .iload 9), (105, .ifCond .le 12), (108, .iload 9), (110, .iload_n 3), (111, .invokestatic 69), (114, .goto 4), (117, .iload_n 3), (118, .invokevirtual 65), (121, .iinc 8 1), (124, .goto (-65)), (127, .return_)]]
def gm_c204 : List (List (Nat × Instr)) := [[(0, .iconst 0), (1, .istore_n 2), (2, .iload_n 2), (3, .sipush 300), (6, .if_icmp .ge 23), (9, .aload_n 0), (10, .getfield 14), (13, .iload_n 1), (14, .iload_n 2), (15, .invokevirtual 52), (18, .ifCond .le 5), (21, .iload_n 2), (22, .ireturn), (23, .iinc 2 1), (26, .goto (-24)), (29, .iconst (-1)), (30, .ireturn)]]
def gm_c205 : List (List (Nat × Instr)) := [[(0, .aload_n 0), (1, .getfield 14), (4, .iload_n 1), (5, .iload_n 2), (6, .invokevirtual 52), (9, .ireturn)]]
def gm_c206 : List (List (Nat × Instr)) := [[(0, .aload 4), (2, .iconst 0), (3, .aload_n 0), (4, .iload_n 1), (5, .iload_n 2), (6, .iload_n 3), (7, .invokevirtual 101), (10, .i2l), (11, .lastore), (12, .goto 11), (15, .astore 5), (17, .iconst 1), (18, .ireturn), (19, .astore 5), (21, .iconst 2), (22, .ireturn), (23, .iconst 0), (24, .ireturn)]]
def gm_c207 : List (List (Nat × Instr)) := [[(0, .aload_n 0), (1, .iload_n 1), (2, .invokevirtual 180), (5, .aload_n 0), (6, .iload_n 2), (7, .invokevirtual 180), (10, .aload_n 0), (11, .iload_n 1), (12, .iload_n 2), (13, .invokevirtual 234), (16, .iload_n 3), (17, .ifCond .ge 14), (20, .new 121), (23, .dup), (24, .ldc_w 379), (27, .invokespecial 125), (30, .athrow), (31, .aload_n 0)], [(32, .getfield 70), (35, .iload_n 1), (36, .iload_n 2), (37, .sipush 299), (40, .invokevirtual 370), (43, .aload_n 0), (44, .getfield 70), (47, .iload_n 1), (48, .iload_n 2), (49, .iload_n 3), (50, .invokevirtual 381), (53, .ireturn)]]
def gm_c208 : List (List (Nat × Instr)) := [[(0, .aload_n 0), (1, .iload_n 2), (2, .invokevirtual 74), (5, .istore 4), (7, .iload_n 2), (8, .istore 5), (10, .iload 4), (12, .iconst (-1)), (13, .if_icmp .ne 7), (16, .iconst (-1)), (17, .goto 13), (20, .aload_n 0), (21, .getfield 14), (24, .iload_n 2), (25, .iload 4), (27, .invokevirtual 52), (30, .istore 6)], [(32, .iload_n 3), (33, .iload 6), (35, .if_icmp .le 5), (38, .iconst (-1)), (39, .ireturn), (40, .iload 6), (42, .istore 7), (44, .iload 7), (46, .iload_n 3), (47, .if_icmp .le 45), (50, .iload 7), (52, .iconst 1), (53, .if_icmp .le 39), (56, .aload_n 0), (57, .iload 5), (59, .iload 4), (61, .iload 7), (63, .iconst 1)], [(64, .isub), (65, .invokevirtual 77), (68, .istore 8), (70, .iload 8), (72, .sipush 300), (75, .idiv), (76, .istore 5), (78, .iload 8), (80, .sipush 300), (83, .irem), (84, .istore 4), (86, .iinc 7 (-1)), (89, .goto (-45)), (92, .iload_n 3), (93, .ifCond .ne 7)], [(96, .iload_n 1), (97, .goto 5), (100, .iload 5), (102, .ireturn)]]
def gm_c209 : List (List (Nat × Instr)) := [[(0, .aload_n 0), (1, .getfield 23), (4, .getfield 31), (7, .iload_n 1), (8, .iconst 2), (9, .invokevirtual 52), (12, .istore 4), (14, .iconst 0), (15, .istore 5), (17, .iload 5), (19, .aload_n 0), (20, .getfield 23), (23, .getfield 31), (26, .invokevirtual 36), (29, .if_icmp .ge 90)], [(32, .aload_n 0), (33, .getfield 23), (36, .getfield 31), (39, .iload 5), (41, .iconst 0), (42, .invokevirtual 52), (45, .iload 4), (47, .if_icmp .ne 66), (50, .aload_n 0), (51, .getfield 23), (54, .getfield 44), (57, .istore 6), (59, .iload 6), (61, .iload_n 2), (62, .if_icmp .ge 51)], [(65, .aload_n 0), (66, .getfield 14), (69, .iload 5), (71, .iload 6), (73, .invokevirtual 52), (76, .iload_n 3), (77, .if_icmp .ne 30), (80, .aload_n 0), (81, .getfield 20), (84, .iload 5), (86, .iload 6), (88, .iconst 1), (89, .iadd), (90, .invokevirtual 52), (93, .iload_n 2), (94, .if_icmp .ne 13)], [(97, .iload 5), (99, .sipush 300), (102, .imul), (103, .iload 6), (105, .iadd), (106, .ireturn), (107, .iinc 6 1), (110, .goto (-51)), (113, .iinc 5 1), (116, .goto (-99)), (119, .iconst 0), (120, .ireturn)]]
def gm_c210 : List (List (Nat × Instr)) := [[(0, .aload_n 3), (1, .iconst 0), (2, .aload_n 0), (3, .iload_n 1), (4, .iload_n 2), (5, .invokevirtual 104), (8, .i2l), (9, .lastore), (10, .goto 11), (13, .astore 4), (15, .iconst 1), (16, .ireturn), (17, .astore 4), (19, .iconst 2), (20, .ireturn), (21, .iconst 0), (22, .ireturn)]]
def gm_c211 : List (List (Nat × Instr)) := [[(0, .aload_n 0), (1, .iload_n 1), (2, .invokevirtual 180), (5, .aload_n 0), (6, .iload_n 2), (7, .invokevirtual 160), (10, .aload_n 0), (11, .getfield 70), (14, .iload_n 1), (15, .iconst (-1)), (16, .iload_n 2), (17, .invokevirtual 370), (20, .iconst 1), (21, .iload_n 1), (22, .ishl), (23, .istore_n 3), (24, .iconst 0), (25, .istore 4), (27, .iload 4), (29, .aload_n 0), (30, .getfield 23)], [(33, .getfield 183), (36, .invokevirtual 277), (39, .if_icmp .ge 29), (42, .aload_n 0), (43, .getfield 70), (46, .iload 4), (48, .invokevirtual 373), (51, .iconst (-1)), (52, .if_icmp .eq 10), (55, .iload_n 3), (56, .iconst 1), (57, .iload 4), (59, .ishl), (60, .ior), (61, .istore_n 3), (62, .iinc 4 1)], [(65, .goto (-38)), (68, .iload_n 3), (69, .ireturn)]]
def gm_c212 : List (List (Nat × Instr)) := [[(0, .aload_n 3), (1, .iconst 0), (2, .aload_n 0), (3, .iload_n 1), (4, .iload_n 2), (5, .invokevirtual 107), (8, .i2l), (9, .lastore), (10, .goto 7), (13, .astore 4), (15, .iconst 1), (16, .ireturn), (17, .iconst 0), (18, .ireturn)]]
def gm_c213 : List (List (Nat × Instr)) := [[(0, .aload_n 0), (1, .iload_n 1), (2, .invokevirtual 384), (5, .aload_n 0), (6, .invokevirtual 254), (9, .aload_n 0), (10, .iload_n 1), (11, .invokevirtual 387), (14, .aload_n 0), (15, .getfield 107), (18, .iload_n 1), (19, .iconst 1), (20, .iadd), (21, .invokevirtual 390), (24, .iload_n 1), (25, .iconst 1), (26, .isub), (27, .istore_n 3), (28, .iload_n 3), (29, .ifCond .lt 60)], [(32, .iconst 0), (33, .istore 4), (35, .iload 4), (37, .aload_n 0), (38, .getfield 23), (41, .getfield 351), (44, .if_icmp .ge 39), (47, .aload_n 0), (48, .getfield 107), (51, .iload_n 3), (52, .iload 4), (54, .aload_n 0), (55, .getfield 104), (58, .iload_n 3), (59, .iload 4), (61, .invokevirtual 186)], [(64, .aload_n 0), (65, .iload_n 3), (66, .iconst 1), (67, .iadd), (68, .iload 4), (70, .invokevirtual 393), (73, .iadd), (74, .invokevirtual 250), (77, .iinc 4 1), (80, .goto (-45)), (83, .iinc 3 (-1)), (86, .goto (-58)), (89, .iconst 0), (90, .istore_n 3), (91, .iconst 1), (92, .istore 4), (94, .iload 4)], [(96, .aload_n 0), (97, .getfield 23), (100, .getfield 351), (103, .if_icmp .ge 34), (106, .aload_n 0), (107, .getfield 107), (110, .iconst 0), (111, .iload 4), (113, .invokevirtual 186), (116, .aload_n 0), (117, .getfield 107), (120, .iconst 0), (121, .iload_n 3), (122, .invokevirtual 186), (125, .if_icmp .le 6)], [(128, .iload 4), (130, .istore_n 3), (131, .iinc 4 1), (134, .goto (-40)), (137, .iload_n 2), (138, .ifCond .eq 7), (141, .iload_n 3), (142, .goto 12), (145, .aload_n 0), (146, .getfield 107), (149, .iconst 0), (150, .iload_n 3), (151, .invokevirtual 186), (154, .ireturn)]]
def gm_c214 : List (List (Nat × Instr)) := [[(0, .iload_n 1), (1, .iconst 1), (2, .if_icmp .lt 9), (5, .iload_n 1), (6, .bipush 30), (8, .if_icmp .le 14), (11, .new 121), (14, .dup), (15, .ldc_w 301), (18, .invokespecial 125), (21, .athrow), (22, .return_)]]
def gm_c215 : List (List (Nat × Instr)) := [[(0, .aload_n 0), (1, .getfield 104), (4, .iload_n 1), (5, .invokevirtual 390), (8, .iconst 0), (9, .istore_n 2), (10, .iload_n 2), (11, .aload_n 0), (12, .getfield 97), (15, .invokevirtual 277), (18, .if_icmp .ge 87), (21, .aload_n 0), (22, .getfield 97), (25, .iload_n 2), (26, .iconst 0), (27, .invokevirtual 186), (30, .istore_n 3), (31, .iload_n 3)], [(32, .iconst (-1)), (33, .if_icmp .eq 66), (36, .aload_n 0), (37, .getfield 23), (40, .iload_n 2), (41, .invokevirtual 450), (44, .ifCond .ne 55), (47, .aload_n 0), (48, .getfield 23), (51, .getfield 203), (54, .iload_n 2), (55, .iconst 2), (56, .invokevirtual 186), (59, .istore 4), (61, .aload_n 0), (62, .getfield 104)], [(65, .iload_n 3), (66, .aload_n 0), (67, .getfield 23), (70, .getfield 269), (73, .isub), (74, .iload 4), (76, .aload_n 0), (77, .getfield 104), (80, .iload_n 3), (81, .aload_n 0), (82, .getfield 23), (85, .getfield 269), (88, .isub), (89, .iload 4), (91, .invokevirtual 186), (94, .iconst 1), (95, .iadd)], [(96, .invokevirtual 250), (99, .iinc 2 1), (102, .goto (-92)), (105, .return_)]]
def gm_c216 : List (List (Nat × Instr)) := [[(0, .aload_n 0), (1, .getfield 107), (4, .iload_n 1), (5, .iload_n 2), (6, .iconst 1), (7, .isub), (8, .invokevirtual 186), (11, .aload_n 0), (12, .getfield 107), (15, .iload_n 1), (16, .iload_n 2), (17, .iconst 1), (18, .iadd), (19, .invokevirtual 186), (22, .invokestatic 396), (25, .istore_n 3), (26, .iload_n 3), (27, .aload_n 0), (28, .getfield 107), (31, .iload_n 1)], [(32, .iload_n 2), (33, .invokevirtual 186), (36, .invokestatic 396), (39, .ireturn)]]
def gm_c217 : List (List (Nat × Instr)) := [[(0, .aload_n 3), (1, .iconst 0), (2, .aload_n 0), (3, .iload_n 1), (4, .iload_n 2), (5, .invokevirtual 111), (8, .i2l), (9, .lastore), (10, .goto 7), (13, .astore 4), (15, .iconst 1), (16, .ireturn), (17, .iconst 0), (18, .ireturn)]]
def gm_c218 : List (List (Nat × Instr)) := [[(0, .aload_n 0), (1, .iload_n 1), (2, .invokevirtual 384), (5, .aload_n 0), (6, .invokevirtual 254), (9, .aload_n 0), (10, .iload_n 1), (11, .invokevirtual 387), (14, .iconst 0), (15, .istore_n 3), (16, .iconst 1), (17, .istore 4), (19, .iload 4), (21, .aload_n 0), (22, .getfield 23), (25, .getfield 351), (28, .if_icmp .ge 28), (31, .aload_n 0)], [(32, .iload 4), (34, .iload_n 1), (35, .invokevirtual 399), (38, .aload_n 0), (39, .iload_n 3), (40, .iload_n 1), (41, .invokevirtual 399), (44, .if_icmp .ge 6), (47, .iload 4), (49, .istore_n 3), (50, .iinc 4 1), (53, .goto (-34)), (56, .iload_n 2), (57, .ifCond .eq 12), (60, .aload_n 0), (61, .iload_n 3), (62, .iload_n 1), (63, .invokevirtual 399)], [(66, .goto 4), (69, .iload_n 3), (70, .ireturn)]]
def gm_c219 : List (List (Nat × Instr)) := [[(0, .iconst 0), (1, .istore_n 3), (2, .iconst 0), (3, .istore 4), (5, .iload 4), (7, .aload_n 0), (8, .getfield 23), (11, .getfield 351), (14, .if_icmp .ge 56), (17, .iconst 0), (18, .istore 5), (20, .iconst 0), (21, .istore 6), (23, .iload 6), (25, .iload_n 2), (26, .if_icmp .ge 25), (29, .iload 5), (31, .aload_n 0)], [(32, .getfield 104), (35, .iload 6), (37, .iload 4), (39, .invokevirtual 186), (42, .iadd), (43, .istore 5), (45, .iinc 6 1), (48, .goto (-25)), (51, .iload 4), (53, .iload_n 1), (54, .if_icmp .eq 10), (57, .iload_n 3), (58, .iload 5), (60, .invokestatic 396), (63, .istore_n 3)], [(64, .iinc 4 1), (67, .goto (-62)), (70, .iload_n 3), (71, .ireturn)]]
def gm_c220 : List (List (Nat × Instr)) := [[(0, .aload_n 3), (1, .iconst 0), (2, .aload_n 0), (3, .iload_n 1), (4, .iload_n 2), (5, .invokevirtual 114), (8, .i2l), (9, .lastore), (10, .goto 11), (13, .astore 4), (15, .iconst 1), (16, .ireturn), (17, .astore 4), (19, .iconst 2), (20, .ireturn), (21, .iconst 0), (22, .ireturn)]]
def gm_c221 : List (List (Nat × Instr)) := [[(0, .aload_n 0), (1, .iload_n 1), (2, .invokevirtual 200), (5, .aload_n 0), (6, .iload_n 2), (7, .invokevirtual 200), (10, .aload_n 0), (11, .iload_n 1), (12, .iload_n 2), (13, .invokevirtual 234), (16, .aload_n 0), (17, .iload_n 1), (18, .iload_n 2), (19, .invokevirtual 319), (22, .ifCond .ne 5), (25, .iconst (-1)), (26, .ireturn), (27, .aload_n 0), (28, .iload_n 1), (29, .iload_n 2), (30, .aload_n 0), (31, .getfield 23)], [(34, .getfield 269), (37, .invokevirtual 326), (40, .istore_n 3), (41, .iload_n 3), (42, .istore 4), (44, .iload 4), (46, .sipush 300), (49, .if_icmp .ge 42), (52, .aload_n 0), (53, .invokevirtual 329), (56, .ifCond .ne 5), (59, .iconst (-1)), (60, .ireturn), (61, .aload_n 0), (62, .getfield 58)], [(65, .getfield 223), (68, .aload_n 0), (69, .getfield 62), (72, .getfield 223), (75, .if_icmp .ne 6), (78, .iload 4), (80, .ireturn), (81, .aload_n 0), (82, .invokevirtual 332), (85, .iinc 4 1), (88, .goto (-44)), (91, .iconst (-1)), (92, .ireturn)]]
def gm_c222 : List (List (Nat × Instr)) := [[(0, .aload_n 2), (1, .iconst 0), (2, .aload_n 0), (3, .iload_n 1), (4, .invokevirtual 117), (7, .i2l), (8, .lastore), (9, .goto 6), (12, .astore_n 3), (13, .iconst 1), (14, .ireturn), (15, .iconst 0), (16, .ireturn)]]
def gm_c223 : List (List (Nat × Instr)) := [[(0, .aload_n 0), (1, .iload_n 1), (2, .invokevirtual 160), (5, .aload_n 0), (6, .invokevirtual 254), (9, .aload_n 0), (10, .iload_n 1), (11, .iconst 1), (12, .invokevirtual 315), (15, .ireturn)]]
def gm_c224 : List (List (Nat × Instr)) := [[(0, .aload_n 3), (1, .iconst 0), (2, .aload_n 0), (3, .iload_n 1), (4, .iload_n 2), (5, .invokevirtual 120), (8, .i2l), (9, .lastore), (10, .goto 7), (13, .astore 4), (15, .iconst 1), (16, .ireturn), (17, .iconst 0), (18, .ireturn)]]
def gm_c225 : List (List (Nat × Instr)) := [[(0, .aload_n 0), (1, .iload_n 1), (2, .invokevirtual 160), (5, .aload_n 0), (6, .invokevirtual 254), (9, .iconst 0), (10, .istore_n 3), (11, .iconst 0), (12, .istore 4), (14, .iload 4), (16, .aload_n 0), (17, .getfield 97), (20, .invokevirtual 277), (23, .if_icmp .ge 66), (26, .aload_n 0), (27, .getfield 23), (30, .getfield 203)], [(33, .iload 4), (35, .iconst 2), (36, .invokevirtual 186), (39, .aload_n 0), (40, .getfield 23), (43, .getfield 405), (46, .if_icmp .lt 7), (49, .iconst 1), (50, .goto 4), (53, .iconst 0), (54, .istore 5), (56, .iload 5), (58, .iload_n 2), (59, .if_icmp .ne 24), (62, .aload_n 0), (63, .aload_n 0)], [(64, .getfield 97), (67, .iload 4), (69, .iconst 0), (70, .invokevirtual 186), (73, .iload_n 1), (74, .invokevirtual 408), (77, .ifCond .eq 6), (80, .iinc 3 1), (83, .iinc 4 1), (86, .goto (-72)), (89, .iload_n 3), (90, .ireturn)]]
def gm_c226 : List (List (Nat × Instr)) := [[(0, .aload_n 3), (1, .iconst 0), (2, .aload_n 0), (3, .iload_n 1), (4, .iload_n 2), (5, .invokevirtual 123), (8, .i2l), (9, .lastore), (10, .goto 11), (13, .astore 4), (15, .iconst 1), (16, .ireturn), (17, .astore 4), (19, .iconst 2), (20, .ireturn), (21, .iconst 0), (22, .ireturn)]]
def gm_c227 : List (List (Nat × Instr)) := [[(0, .aload_n 0), (1, .iload_n 1), (2, .invokevirtual 166), (5, .aload_n 0), (6, .iload_n 2), (7, .invokevirtual 160), (10, .aload_n 0), (11, .getfield 58), (14, .iload_n 1), (15, .iconst 0), (16, .iload_n 2), (17, .iconst 0), (18, .invokevirtual 291), (21, .aload_n 0), (22, .getfield 58), (25, .sipush 299), (28, .invokevirtual 295), (31, .istore_n 3)], [(32, .iload_n 3), (33, .iconst (-1)), (34, .if_icmp .ne 7), (37, .iconst (-1)), (38, .goto 6), (41, .iload_n 3), (42, .iload_n 2), (43, .isub), (44, .ireturn)]]
def gm_c228 : List (List (Nat × Instr)) := [[(0, .aload_n 3), (1, .iconst 0), (2, .aload_n 0), (3, .iload_n 1), (4, .iload_n 2), (5, .invokevirtual 126), (8, .i2l), (9, .lastore), (10, .goto 11), (13, .astore 4), (15, .iconst 1), (16, .ireturn), (17, .astore 4), (19, .iconst 2), (20, .ireturn), (21, .iconst 0), (22, .ireturn)]]
def gm_c229 : List (List (Nat × Instr)) := [[(0, .aload_n 0), (1, .iload_n 1), (2, .invokevirtual 169), (5, .aload_n 0), (6, .iload_n 2), (7, .invokevirtual 160), (10, .iconst (-1)), (11, .istore_n 3), (12, .sipush 300), (15, .istore 4), (17, .iconst 0), (18, .istore 5), (20, .iload 5), (22, .aload_n 0), (23, .getfield 23), (26, .getfield 351), (29, .if_icmp .ge 53)], [(32, .aload_n 0), (33, .getfield 58), (36, .iload 5), (38, .iload_n 1), (39, .iload_n 2), (40, .iconst 0), (41, .invokevirtual 291), (44, .aload_n 0), (45, .getfield 58), (48, .sipush 299), (51, .invokevirtual 295), (54, .istore 6), (56, .iload 6), (58, .iconst (-1)), (59, .if_icmp .eq 17), (62, .iload 6)], [(64, .iload 4), (66, .if_icmp .ge 10), (69, .iload 6), (71, .istore 4), (73, .iload 5), (75, .istore_n 3), (76, .iinc 5 1), (79, .goto (-59)), (82, .iload_n 3), (83, .ireturn)]]
def gm_c230 : List (List (Nat × Instr)) := [[(0, .aload_n 2), (1, .iconst 0), (2, .aload_n 0), (3, .iload_n 1), (4, .invokevirtual 129), (7, .i2l), (8, .lastore), (9, .goto 6), (12, .astore_n 3), (13, .iconst 1), (14, .ireturn), (15, .iconst 0), (16, .ireturn)]]
def gm_c231 : List (List (Nat × Instr)) := [[(0, .aload_n 0), (1, .iload_n 1), (2, .invokevirtual 160), (5, .iconst 0), (6, .istore_n 2), (7, .iconst 0), (8, .istore_n 3), (9, .iload_n 3), (10, .aload_n 0), (11, .getfield 23), (14, .getfield 203), (17, .invokevirtual 277), (20, .if_icmp .ge 67), (23, .aload_n 0), (24, .getfield 23), (27, .getfield 203), (30, .iload_n 3), (31, .iconst 3)], [(32, .invokevirtual 186), (35, .iload_n 1), (36, .if_icmp .ge 45), (39, .aload_n 0), (40, .getfield 58), (43, .iload_n 3), (44, .invokevirtual 217), (47, .aload_n 0), (48, .getfield 58), (51, .iload_n 1), (52, .invokevirtual 220), (55, .aload_n 0), (56, .getfield 58), (59, .invokevirtual 411), (62, .ifCond .ne 19)], [(65, .aload_n 0), (66, .getfield 58), (69, .getfield 209), (72, .ifCond .ne 9), (75, .iload_n 2), (76, .iconst 1), (77, .iload_n 3), (78, .ishl), (79, .ior), (80, .istore_n 2), (81, .iinc 3 1), (84, .goto (-75)), (87, .iload_n 2), (88, .ireturn)]]
def gm_c232 : List (List (Nat × Instr)) := [[(0, .aload_n 3), (1, .iconst 0), (2, .aload_n 0), (3, .iload_n 1), (4, .iload_n 2), (5, .invokevirtual 132), (8, .i2l), (9, .lastore), (10, .goto 7), (13, .astore 4), (15, .iconst 1), (16, .ireturn), (17, .iconst 0), (18, .ireturn)]]
def gm_c233 : List (List (Nat × Instr)) := [[(0, .iload_n 2), (1, .ifCond .lt 8), (4, .iload_n 2), (5, .iconst 2), (6, .if_icmp .le 14), (9, .new 195), (12, .dup), (13, .ldc_w 414), (16, .invokespecial 199), (19, .athrow), (20, .aload_n 0), (21, .getfield 23), (24, .getfield 416), (27, .iload_n 1), (28, .iload_n 2), (29, .invokevirtual 186)], [(32, .ireturn)]]
def gm_c234 : List (List (Nat × Instr)) := [[(0, .aload_n 0), (1, .getfield 3), (4, .ireturn)]]
def gm_c235 : List (List (Nat × Instr)) := [[(0, .aload_n 0), (1, .invokespecial 7), (4, .aload_n 0), (5, .sipush 2093), (8, .newarray .int), (10, .putfield 13), (13, .aload_n 0), (14, .sipush 1244), (17, .newarray .int), (19, .putfield 17), (22, .aload_n 0), (23, .sipush 1244), (26, .newarray .int), (28, .putfield 20), (31, .aload_n 0)], [(32, .sipush 4740), (35, .newarray .int), (37, .putfield 23), (40, .aload_n 0), (41, .sipush 400), (44, .newarray .byte), (46, .putfield 26), (49, .aload_n 0), (50, .iconst (-1)), (51, .putfield 30), (54, .aload_n 0), (55, .iconst 5), (56, .newarray .int), (58, .putfield 33), (61, .aload_n 0), (62, .sipush 400)], [(65, .newarray .int), (67, .putfield 36), (70, .aload_n 0), (71, .sipush 300), (74, .newarray .int), (76, .putfield 39), (79, .aload_n 0), (80, .sipush 29700), (83, .newarray .byte), (85, .putfield 42), (88, .aload_n 0), (89, .sipush 300), (92, .newarray .int), (94, .putfield 45)], [(97, .aload_n 0), (98, .sipush 300), (101, .newarray .int), (103, .putfield 48), (106, .aload_n 0), (107, .bipush 24), (109, .newarray .int), (111, .putfield 51), (114, .aload_n 0), (115, .sipush 300), (118, .newarray .int), (120, .putfield 54), (123, .aload_n 0), (124, .sipush 2408), (127, .newarray .int)], [(129, .putfield 57), (132, .aload_n 0), (133, .sipush 2408), (136, .newarray .int), (138, .putfield 60), (141, .aload_n 0), (142, .sipush 2408), (145, .newarray .int), (147, .putfield 63), (150, .aload_n 0), (151, .bipush 6), (153, .newarray .int), (155, .putfield 66), (158, .aload_n 0), (159, .bipush 6)], [(161, .newarray .int), (163, .putfield 69), (166, .aload_n 0), (167, .getfield 13), (170, .iconst 0), (171, .iconst 3), (172, .iastore), (173, .aload_n 0), (174, .getfield 13), (177, .iconst 1), (178, .bipush 40), (180, .iastore), (181, .aload_n 0), (182, .getfield 13), (185, .bipush 10), (187, .bipush 10), (189, .iastore), (190, .aload_n 0), (191, .getfield 13)], [(194, .bipush 11), (196, .iconst 2), (197, .iastore), (198, .aload_n 0), (199, .getfield 13), (202, .bipush 12), (204, .iconst 3), (205, .iastore), (206, .aload_n 0), (207, .getfield 13), (210, .bipush 13), (212, .iconst 1), (213, .iastore), (214, .aload_n 0), (215, .invokevirtual 72), (218, .return_)]]
def gm_c236 : List (List (Nat × Instr)) := [[(0, .aload_n 0), (1, .getfield 13), (4, .bipush 13), (6, .iaload), (7, .istore_n 1), (8, .iconst 0), (9, .istore_n 2), (10, .iload_n 2), (11, .sipush 300), (14, .if_icmp .ge 36), (17, .ldc_w 330), (20, .iload_n 1), (21, .imul), (22, .sipush 12345), (25, .iadd), (26, .istore_n 1), (27, .aload_n 0), (28, .getfield 39), (31, .iload_n 2)], [(32, .iload_n 1), (33, .bipush 16), (35, .ishr), (36, .sipush 32767), (39, .iand), (40, .bipush 10), (42, .irem), (43, .iastore), (44, .iinc 2 1), (47, .goto (-37)), (50, .aload_n 0), (51, .iconst (-1)), (52, .putfield 331), (55, .return_)]]
def gm_c237 : List (List (Nat × Instr)) := [[(0, .aload_n 0), (1, .iconst 0), (2, .putfield 3), (5, .iconst 0), (6, .istore_n 1), (7, .iload_n 1), (8, .sipush 1244), (11, .if_icmp .ge 21), (14, .aload_n 0), (15, .getfield 17), (18, .iload_n 1), (19, .aload_n 0), (20, .getfield 13), (23, .iload_n 1), (24, .iaload), (25, .iastore), (26, .iinc 1 1), (29, .goto (-22))], [(32, .aload_n 0), (33, .iconst 1), (34, .putfield 75), (37, .return_)]]
def gm_c238 : List (List (Nat × Instr)) := [[(0, .aload_n 0), (1, .iconst 0), (2, .putfield 3), (5, .aload_n 0), (6, .getfield 75), (9, .ifCond .ne 5), (12, .iconst 0), (13, .ireturn), (14, .iconst 0), (15, .istore_n 1), (16, .iload_n 1), (17, .sipush 1244), (20, .if_icmp .ge 21), (23, .aload_n 0), (24, .getfield 13), (27, .iload_n 1), (28, .aload_n 0), (29, .getfield 17)], [(32, .iload_n 1), (33, .iaload), (34, .iastore), (35, .iinc 1 1), (38, .goto (-22)), (41, .aload_n 0), (42, .iconst 0), (43, .putfield 79), (46, .aload_n 0), (47, .invokevirtual 72), (50, .iconst 1), (51, .ireturn)]]
def gm_c239 : List (List (Nat × Instr)) := [[(0, .aload_n 0), (1, .iconst 0), (2, .putfield 3), (5, .aload_n 0), (6, .getfield 79), (9, .ifCond .ne 5), (12, .iconst 0), (13, .ireturn), (14, .aload_n 0), (15, .dup), (16, .getfield 79), (19, .iconst 1), (20, .isub), (21, .putfield 79), (24, .iconst 0), (25, .istore_n 1), (26, .iload_n 1), (27, .sipush 395), (30, .if_icmp .ge 30)], [(33, .aload_n 0), (34, .getfield 13), (37, .iload_n 1), (38, .aload_n 0), (39, .getfield 23), (42, .sipush 395), (45, .aload_n 0), (46, .getfield 79), (49, .imul), (50, .iload_n 1), (51, .iadd), (52, .iaload), (53, .iastore), (54, .iinc 1 1), (57, .goto (-31)), (60, .iconst 1), (61, .ireturn)]]
def gm_c240 : List (List (Nat × Instr)) := [[(0, .aload_n 0), (1, .iconst 0), (2, .putfield 3), (5, .aload_n 0), (6, .getfield 103), (9, .bipush 20), (11, .iadd), (12, .sipush 400), (15, .if_icmp .le 5), (18, .iconst (-1)), (19, .ireturn), (20, .aload_n 0), (21, .getfield 33), (24, .iconst 0), (25, .iload_n 1), (26, .iastore), (27, .aload_n 0), (28, .getfield 33), (31, .iconst 1)], [(32, .iload_n 2), (33, .iastore), (34, .aload_n 0), (35, .getfield 33), (38, .iconst 2), (39, .iload_n 3), (40, .iastore), (41, .aload_n 0), (42, .getfield 33), (45, .iconst 3), (46, .iload 4), (48, .iastore), (49, .aload_n 0), (50, .getfield 33), (53, .iconst 4), (54, .iload 5), (56, .iastore), (57, .iconst 0), (58, .istore 6), (60, .iload 6), (62, .bipush 20)], [(64, .if_icmp .ge 42), (67, .aload_n 0), (68, .getfield 26), (71, .aload_n 0), (72, .getfield 103), (75, .iload 6), (77, .iadd), (78, .aload_n 0), (79, .getfield 33), (82, .iload 6), (84, .iconst 4), (85, .idiv), (86, .iaload), (87, .bipush 24), (89, .bipush 8), (91, .iload 6), (93, .iconst 4), (94, .irem), (95, .imul)], [(96, .isub), (97, .ishr), (98, .i2b), (99, .bastore), (100, .iinc 6 1), (103, .goto (-43)), (106, .aload_n 0), (107, .dup), (108, .getfield 103), (111, .bipush 20), (113, .iadd), (114, .putfield 103), (117, .aload_n 0), (118, .getfield 103), (121, .ireturn)]]
def gm_c241 : List (List (Nat × Instr)) := [[(0, .aload_n 0), (1, .iconst 0), (2, .putfield 3), (5, .iload_n 1), (6, .ifCond .lt 11), (9, .iload_n 1), (10, .aload_n 0), (11, .getfield 103), (14, .if_icmp .le 5), (17, .iconst 0), (18, .ireturn), (19, .aload_n 0), (20, .iload_n 1), (21, .putfield 103), (24, .iconst 1), (25, .ireturn)]]
def gm_c242 : List (List (Nat × Instr)) := [[(0, .aload_n 0), (1, .iconst 0), (2, .putfield 3), (5, .aload_n 0), (6, .getfield 30), (9, .ireturn)]]
def gm_c243 : List (List (Nat × Instr)) := [[(0, .iconst 0), (1, .istore_n 1), (2, .iload_n 1), (3, .sipush 1244), (6, .if_icmp .ge 21), (9, .aload_n 0), (10, .getfield 20), (13, .iload_n 1), (14, .aload_n 0), (15, .getfield 13), (18, .iload_n 1), (19, .iaload), (20, .iastore), (21, .iinc 1 1), (24, .goto (-22)), (27, .aload_n 0), (28, .iconst 1), (29, .invokevirtual 296)], [(32, .istore_n 1), (33, .aload_n 0), (34, .iload_n 1), (35, .ifCond .ge 10), (38, .aload_n 0), (39, .getfield 116), (42, .goto 4), (45, .iconst (-1)), (46, .putfield 30), (49, .aload_n 0), (50, .iload_n 1), (51, .ifCond .ge 7), (54, .iconst 1), (55, .goto 4), (58, .iconst 0), (59, .iconst 1), (60, .invokevirtual 300), (63, .ifCond .ne 28)], [(66, .aload_n 0), (67, .aload_n 0), (68, .getfield 13), (71, .bipush 7), (73, .iaload), (74, .bipush 12), (76, .if_icmp .ne 7), (79, .iconst 1), (80, .goto 4), (83, .iconst 0), (84, .iconst 2), (85, .invokevirtual 300), (88, .ifCond .eq 32), (91, .iconst 0), (92, .istore_n 2), (93, .iload_n 2), (94, .sipush 1244)], [(97, .if_icmp .ge 21), (100, .aload_n 0), (101, .getfield 13), (104, .iload_n 2), (105, .aload_n 0), (106, .getfield 20), (109, .iload_n 2), (110, .iaload), (111, .iastore), (112, .iinc 2 1), (115, .goto (-22)), (118, .iconst 0), (119, .ireturn), (120, .aload_n 0), (121, .getfield 13), (124, .bipush 7), (126, .dup2), (127, .iaload)], [(128, .iconst 1), (129, .iadd), (130, .iastore), (131, .aload_n 0), (132, .iconst 0), (133, .putfield 79), (136, .aload_n 0), (137, .invokevirtual 72), (140, .aload_n 0), (141, .getfield 13), (144, .bipush 7), (146, .iaload), (147, .ireturn)]]
def gm_c244 : List (List (Nat × Instr)) := [[(0, .aload_n 0), (1, .invokevirtual 289), (4, .aload_n 0), (5, .iconst 0), (6, .putfield 224), (9, .aload_n 0), (10, .invokevirtual 119), (13, .aload_n 0), (14, .getfield 106), (17, .aload_n 0), (18, .getfield 109), (21, .if_icmp .ne 5), (24, .iconst 0), (25, .ireturn), (26, .iconst 0), (27, .istore_n 2), (28, .aload_n 0), (29, .iload_n 1), (30, .iload_n 2), (31, .invokevirtual 292)], [(34, .ifCond .ne 5), (37, .iconst (-1)), (38, .ireturn), (39, .aload_n 0), (40, .invokevirtual 119), (43, .aload_n 0), (44, .getfield 106), (47, .aload_n 0), (48, .getfield 109), (51, .if_icmp .ne 7), (54, .iload_n 2), (55, .iconst 1), (56, .iadd), (57, .ireturn), (58, .aload_n 0), (59, .bipush 59), (61, .bipush 59), (63, .invokevirtual 112)], [(66, .ifCond .ne 5), (69, .iconst (-1)), (70, .ireturn), (71, .aload_n 0), (72, .dup), (73, .getfield 106), (76, .iconst 1), (77, .iadd), (78, .putfield 106), (81, .iinc 2 1), (84, .goto (-56))]]
def gm_c245 : List (List (Nat × Instr)) := [[(0, .aload_n 0), (1, .iconst 0), (2, .putfield 3), (5, .aload_n 0), (6, .aload_n 0), (7, .getfield 103), (10, .putfield 109), (13, .aload_n 0), (14, .iconst 0), (15, .putfield 103), (18, .aload_n 0), (19, .iconst 0), (20, .putfield 106), (23, .return_)]]
def gm_c246 : List (List (Nat × Instr)) := [[(0, .aload_n 0), (1, .bipush 32), (3, .bipush 32), (5, .invokevirtual 112), (8, .ifCond .eq 16), (11, .aload_n 0), (12, .dup), (13, .getfield 106), (16, .iconst 1), (17, .iadd), (18, .putfield 106), (21, .goto (-21)), (24, .aload_n 0), (25, .aload_n 0), (26, .getfield 106), (29, .putfield 116)], [(32, .return_)]]
def gm_c247 : List (List (Nat × Instr)) := [[(0, .aload_n 0), (1, .getfield 106), (4, .aload_n 0), (5, .getfield 109), (8, .if_icmp .ge 33), (11, .aload_n 0), (12, .getfield 26), (15, .aload_n 0), (16, .getfield 106), (19, .baload), (20, .iload_n 1), (21, .if_icmp .lt 20), (24, .aload_n 0), (25, .getfield 26), (28, .aload_n 0), (29, .getfield 106)], [(32, .baload), (33, .iload_n 2), (34, .if_icmp .gt 7), (37, .iconst 1), (38, .goto 4), (41, .iconst 0), (42, .ireturn)]]
def gm_c248 : List (List (Nat × Instr)) := [[(0, .aload_n 0), (1, .invokevirtual 131), (4, .iload_n 2), (5, .iload_n 1), (6, .ifCond .eq 8), (9, .bipush 14), (11, .goto 5), (14, .bipush 12), (16, .if_icmp .ge 29), (19, .iload_n 1), (20, .ifCond .eq 13), (23, .aload_n 0), (24, .invokevirtual 283), (27, .ifCond .eq 18), (30, .goto 11)], [(33, .aload_n 0), (34, .iload_n 2), (35, .invokevirtual 286), (38, .ifCond .eq 7), (41, .iconst 1), (42, .goto 4), (45, .iconst 0), (46, .ireturn)]]
def gm_c249 : List (List (Nat × Instr)) := [[(0, .aload_n 0), (1, .invokevirtual 119), (4, .aload_n 0), (5, .bipush 97), (7, .bipush 122), (9, .invokevirtual 112), (12, .ifCond .eq 16), (15, .aload_n 0), (16, .dup), (17, .getfield 106), (20, .iconst 1), (21, .iadd), (22, .putfield 106), (25, .goto (-21)), (28, .return_)]]
def gm_c250 : List (List (Nat × Instr)) := [[(0, .aload_n 0), (1, .ldc 181), (3, .invokevirtual 134), (6, .ifCond .eq 8), (9, .aload_n 0), (10, .invokevirtual 182), (13, .ireturn), (14, .aload_n 0), (15, .ldc 185), (17, .invokevirtual 134), (20, .ifCond .eq 8), (23, .aload_n 0), (24, .invokevirtual 187), (27, .ireturn), (28, .aload_n 0), (29, .ldc 190), (31, .invokevirtual 134)], [(34, .ifCond .eq 8), (37, .aload_n 0), (38, .invokevirtual 192), (41, .ireturn), (42, .aload_n 0), (43, .ldc 195), (45, .invokevirtual 134), (48, .ifCond .eq 8), (51, .aload_n 0), (52, .invokevirtual 197), (55, .ireturn), (56, .aload_n 0), (57, .ldc 200), (59, .invokevirtual 134), (62, .ifCond .eq 8)], [(65, .aload_n 0), (66, .invokevirtual 202), (69, .ireturn), (70, .aload_n 0), (71, .ldc 205), (73, .invokevirtual 134), (76, .ifCond .eq 8), (79, .aload_n 0), (80, .invokevirtual 207), (83, .ireturn), (84, .aload_n 0), (85, .ldc 210), (87, .invokevirtual 134), (90, .ifCond .eq 8), (93, .aload_n 0), (94, .invokevirtual 212)], [(97, .ireturn), (98, .aload_n 0), (99, .ldc 215), (101, .invokevirtual 134), (104, .ifCond .eq 8), (107, .aload_n 0), (108, .invokevirtual 217), (111, .ireturn), (112, .aload_n 0), (113, .ldc 220), (115, .invokevirtual 134), (118, .istore_n 1), (119, .iload_n 1), (120, .ifCond .ne 14), (123, .aload_n 0), (124, .ldc 222), (126, .invokevirtual 134)], [(129, .ifCond .ne 5), (132, .iconst 0), (133, .ireturn), (134, .aload_n 0), (135, .iconst 0), (136, .iload_n 1), (137, .ifCond .eq 10), (140, .aload_n 0), (141, .invokevirtual 86), (144, .goto 6), (147, .sipush 9999), (150, .invokevirtual 142), (153, .istore_n 2), (154, .aload_n 0), (155, .getfield 13), (158, .iload_n 1), (159, .ifCond .eq 8)], [(162, .bipush 12), (164, .goto 5), (167, .bipush 13), (169, .iload_n 2), (170, .iastore), (171, .iload_n 2), (172, .ifCond .lt 7), (175, .iconst 1), (176, .goto 4), (179, .iconst 0), (180, .ireturn)]]
def gm_c251 : List (List (Nat × Instr)) := [[(0, .aload_n 0), (1, .getfield 106), (4, .aload_n 0), (5, .getfield 116), (8, .isub), (9, .aload_n 1), (10, .invokevirtual 122), (13, .if_icmp .ne 7), (16, .iconst 1), (17, .goto 4), (20, .iconst 0), (21, .istore_n 2), (22, .iconst 0), (23, .istore_n 3), (24, .iload_n 2), (25, .ifCond .eq 42), (28, .iload_n 3), (29, .aload_n 1), (30, .invokevirtual 122)], [(33, .if_icmp .ge 34), (36, .aload_n 0), (37, .getfield 26), (40, .aload_n 0), (41, .getfield 116), (44, .iload_n 3), (45, .iadd), (46, .baload), (47, .aload_n 1), (48, .iload_n 3), (49, .invokevirtual 127), (52, .if_icmp .ne 7), (55, .iconst 1), (56, .goto 4), (59, .iconst 0), (60, .istore_n 2), (61, .iinc 3 1)], [(64, .goto (-40)), (67, .iload_n 2), (68, .ireturn)]]
def gm_c252 : List (List (Nat × Instr)) := [[(0, .aload_n 0), (1, .invokevirtual 145), (4, .ifCond .ne 5), (7, .iconst 0), (8, .ireturn), (9, .aload_n 0), (10, .iconst 1), (11, .bipush 6), (13, .invokevirtual 142), (16, .istore_n 1), (17, .iload_n 1), (18, .ifCond .ge 5), (21, .iconst 0), (22, .ireturn), (23, .aload_n 0), (24, .getfield 13), (27, .iconst 0), (28, .iload_n 1), (29, .iastore), (30, .aload_n 0), (31, .getfield 13)], [(34, .bipush 12), (36, .iload_n 1), (37, .iastore), (38, .iconst 1), (39, .ireturn)]]
def gm_c253 : List (List (Nat × Instr)) := [[(0, .aload_n 0), (1, .getfield 13), (4, .iconst 2), (5, .iaload), (6, .aload_n 0), (7, .invokevirtual 97), (10, .iadd), (11, .aload_n 0), (12, .invokevirtual 100), (15, .iadd), (16, .aload_n 0), (17, .getfield 13), (20, .iconst 5), (21, .iaload), (22, .iadd), (23, .aload_n 0), (24, .getfield 13), (27, .bipush 6), (29, .iaload), (30, .iadd), (31, .ifCond .ne 7)], [(34, .iconst 1), (35, .goto 4), (38, .iconst 0), (39, .ireturn)]]
def gm_c254 : List (List (Nat × Instr)) := [[(0, .aload_n 0), (1, .getfield 13), (4, .iconst 3), (5, .iaload), (6, .ireturn)]]
def gm_c255 : List (List (Nat × Instr)) := [[(0, .aload_n 0), (1, .getfield 13), (4, .iconst 4), (5, .iaload), (6, .ireturn)]]
def gm_c256 : List (List (Nat × Instr)) := [[(0, .aload_n 0), (1, .iload_n 1), (2, .iload_n 2), (3, .iconst 4), (4, .invokevirtual 138), (7, .ireturn)]]
def gm_c257 : List (List (Nat × Instr)) := [[(0, .aload_n 0), (1, .invokevirtual 119), (4, .iconst 0), (5, .istore 4), (7, .aload_n 0), (8, .bipush 48), (10, .bipush 57), (12, .invokevirtual 112), (15, .ifCond .eq 54), (18, .aload_n 0), (19, .getfield 106), (22, .aload_n 0), (23, .getfield 116), (26, .isub), (27, .iload_n 3), (28, .if_icmp .ge 24), (31, .bipush 10)], [(33, .iload 4), (35, .imul), (36, .aload_n 0), (37, .getfield 26), (40, .aload_n 0), (41, .getfield 106), (44, .baload), (45, .iadd), (46, .bipush 48), (48, .isub), (49, .goto 5), (52, .iload 4), (54, .istore 4), (56, .aload_n 0), (57, .dup), (58, .getfield 106), (61, .iconst 1), (62, .iadd), (63, .putfield 106)], [(66, .goto (-59)), (69, .aload_n 0), (70, .getfield 106), (73, .aload_n 0), (74, .getfield 116), (77, .if_icmp .eq 28), (80, .aload_n 0), (81, .getfield 106), (84, .aload_n 0), (85, .getfield 116), (88, .isub), (89, .iload_n 3), (90, .if_icmp .gt 15), (93, .iload 4), (95, .iload_n 1)], [(96, .if_icmp .lt 9), (99, .iload 4), (101, .iload_n 2), (102, .if_icmp .le 7), (105, .iconst (-1)), (106, .goto 5), (109, .iload 4), (111, .ireturn)]]
def gm_c258 : List (List (Nat × Instr)) := [[(0, .aload_n 0), (1, .invokevirtual 145), (4, .ifCond .ne 5), (7, .iconst 0), (8, .ireturn), (9, .aload_n 0), (10, .bipush 10), (12, .bipush 99), (14, .invokevirtual 142), (17, .istore_n 1), (18, .iload_n 1), (19, .ifCond .ge 5), (22, .iconst 0), (23, .ireturn), (24, .aload_n 0), (25, .getfield 13), (28, .iconst 1), (29, .iload_n 1), (30, .iastore), (31, .aload_n 0)], [(32, .getfield 13), (35, .bipush 10), (37, .bipush 10), (39, .iastore), (40, .iconst 1), (41, .ireturn)]]
def gm_c259 : List (List (Nat × Instr)) := [[(0, .aload_n 0), (1, .getfield 13), (4, .iconst 2), (5, .iaload), (6, .istore_n 1), (7, .iload_n 1), (8, .bipush 8), (10, .if_icmp .ne 5), (13, .iconst 0), (14, .ireturn), (15, .bipush 15), (17, .bipush 7), (19, .iload_n 1), (20, .imul), (21, .iadd), (22, .istore_n 2), (23, .iload_n 1), (24, .ifCond .ne 12), (27, .aload_n 0), (28, .iconst 0), (29, .iconst 0), (30, .invokevirtual 142)], [(33, .goto 24), (36, .aload_n 0), (37, .aload_n 0), (38, .getfield 13), (41, .iload_n 2), (42, .bipush 7), (44, .isub), (45, .iaload), (46, .iconst 1), (47, .iadd), (48, .aload_n 0), (49, .invokevirtual 94), (52, .iconst 1), (53, .isub), (54, .invokevirtual 142), (57, .istore_n 3), (58, .iload_n 3), (59, .ifCond .lt 13), (62, .aload_n 0), (63, .iload_n 2)], [(64, .iconst 1), (65, .iadd), (66, .invokevirtual 149), (69, .ifCond .ne 5), (72, .iconst 0), (73, .ireturn), (74, .aload_n 0), (75, .getfield 13), (78, .iload_n 2), (79, .iload_n 3), (80, .iastore), (81, .aload_n 0), (82, .getfield 13), (85, .iconst 2), (86, .dup2), (87, .iaload), (88, .iconst 1), (89, .iadd), (90, .iastore), (91, .iconst 1), (92, .ireturn)]]
def gm_c260 : List (List (Nat × Instr)) := [[(0, .aload_n 0), (1, .getfield 13), (4, .iconst 1), (5, .iaload), (6, .ireturn)]]
def gm_c261 : List (List (Nat × Instr)) := [[(0, .iconst 0), (1, .istore_n 2), (2, .iload_n 2), (3, .aload_n 0), (4, .invokevirtual 86), (7, .if_icmp .ge 32), (10, .aload_n 0), (11, .iconst 0), (12, .bipush 20), (14, .invokevirtual 142), (17, .istore_n 3), (18, .iload_n 3), (19, .ifCond .ge 5), (22, .iconst 0), (23, .ireturn), (24, .aload_n 0), (25, .getfield 13), (28, .iload_n 1), (29, .iload_n 2), (30, .iadd), (31, .iload_n 3)], [(32, .iastore), (33, .iinc 2 1), (36, .goto (-34)), (39, .iconst 1), (40, .ireturn)]]
def gm_c262 : List (List (Nat × Instr)) := [[(0, .aload_n 0), (1, .getfield 13), (4, .iconst 0), (5, .iaload), (6, .ireturn)]]
def gm_c263 : List (List (Nat × Instr)) := [[(0, .aload_n 0), (1, .invokevirtual 153), (4, .istore_n 1), (5, .iload_n 1), (6, .ifCond .ge 7), (9, .iconst (-1)), (10, .goto 12), (13, .aload_n 0), (14, .ldc 156), (16, .iconst 0), (17, .bipush 9), (19, .invokevirtual 158), (22, .istore_n 2), (23, .iload_n 2), (24, .ifCond .ge 5), (27, .iconst 0), (28, .ireturn), (29, .aload_n 0), (30, .getfield 13)], [(33, .bipush 10), (35, .iload_n 1), (36, .iastore), (37, .aload_n 0), (38, .getfield 13), (41, .bipush 11), (43, .iload_n 2), (44, .iastore), (45, .iconst 1), (46, .ireturn)]]
def gm_c264 : List (List (Nat × Instr)) := [[(0, .aload_n 0), (1, .iconst 0), (2, .aload_n 0), (3, .invokevirtual 94), (6, .iconst 1), (7, .isub), (8, .invokevirtual 142), (11, .ireturn)]]
def gm_c265 : List (List (Nat × Instr)) := [[(0, .aload_n 0), (1, .invokevirtual 131), (4, .aload_n 0), (5, .aload_n 1), (6, .invokevirtual 134), (9, .ifCond .eq 12), (12, .aload_n 0), (13, .iload_n 2), (14, .iload_n 3), (15, .invokevirtual 142), (18, .goto 4), (21, .iconst (-1)), (22, .ireturn)]]
def gm_c266 : List (List (Nat × Instr)) := [[(0, .bipush 71), (2, .iconst 3), (3, .aload_n 0), (4, .getfield 13), (7, .iconst 5), (8, .iaload), (9, .imul), (10, .iadd), (11, .istore_n 1), (12, .aload_n 0), (13, .getfield 13), (16, .iconst 5), (17, .iaload), (18, .bipush 8), (20, .if_icmp .ne 5), (23, .iconst 0), (24, .ireturn), (25, .aload_n 0), (26, .aload_n 0), (27, .invokevirtual 162), (30, .sipush 299)], [(33, .invokevirtual 142), (36, .istore_n 2), (37, .iload_n 2), (38, .ifCond .ge 7), (41, .iconst (-1)), (42, .goto 7), (45, .aload_n 0), (46, .invokevirtual 153), (49, .istore_n 3), (50, .iload_n 3), (51, .ifCond .ge 7), (54, .iconst (-1)), (55, .goto 10), (58, .aload_n 0), (59, .iconst 1), (60, .bipush 20), (62, .invokevirtual 142)], [(65, .istore 4), (67, .iload 4), (69, .ifCond .ge 5), (72, .iconst 0), (73, .ireturn), (74, .aload_n 0), (75, .getfield 13), (78, .iload_n 1), (79, .iload_n 2), (80, .iastore), (81, .aload_n 0), (82, .getfield 13), (85, .iload_n 1), (86, .iconst 1), (87, .iadd), (88, .iload_n 3), (89, .iastore), (90, .aload_n 0), (91, .getfield 13), (94, .iload_n 1), (95, .iconst 2)], [(96, .iadd), (97, .iload 4), (99, .iastore), (100, .aload_n 0), (101, .getfield 13), (104, .iconst 5), (105, .dup2), (106, .iaload), (107, .iconst 1), (108, .iadd), (109, .iastore), (110, .iconst 1), (111, .ireturn)]]
def gm_c267 : List (List (Nat × Instr)) := [[(0, .aload_n 0), (1, .getfield 13), (4, .bipush 9), (6, .iaload), (7, .ireturn)]]
def gm_c268 : List (List (Nat × Instr)) := [[(0, .bipush 95), (2, .iconst 3), (3, .aload_n 0), (4, .invokevirtual 97), (7, .imul), (8, .iadd), (9, .istore_n 1), (10, .aload_n 0), (11, .invokevirtual 97), (14, .bipush 8), (16, .if_icmp .ne 5), (19, .iconst 0), (20, .ireturn), (21, .aload_n 0), (22, .invokevirtual 165), (25, .istore_n 2), (26, .iload_n 2), (27, .ifCond .ge 7), (30, .iconst (-1)), (31, .goto 7)], [(34, .aload_n 0), (35, .invokevirtual 153), (38, .istore_n 3), (39, .iload_n 3), (40, .ifCond .ge 5), (43, .iconst 0), (44, .ireturn), (45, .iconst (-1)), (46, .istore 4), (48, .aload_n 0), (49, .ldc 168), (51, .invokevirtual 170), (54, .ifCond .eq 16), (57, .aload_n 0), (58, .invokevirtual 165), (61, .istore 4), (63, .iload 4)], [(65, .ifCond .ge 5), (68, .iconst 0), (69, .ireturn), (70, .aload_n 0), (71, .getfield 13), (74, .iload_n 1), (75, .iload_n 2), (76, .iastore), (77, .aload_n 0), (78, .getfield 13), (81, .iload_n 1), (82, .iconst 1), (83, .iadd), (84, .iload_n 3), (85, .iastore), (86, .aload_n 0), (87, .getfield 13), (90, .iload_n 1), (91, .iconst 2), (92, .iadd), (93, .iload 4), (95, .iastore)], [(96, .aload_n 0), (97, .getfield 13), (100, .iconst 3), (101, .dup2), (102, .iaload), (103, .iconst 1), (104, .iadd), (105, .iastore), (106, .iconst 1), (107, .ireturn)]]
def gm_c269 : List (List (Nat × Instr)) := [[(0, .aload_n 0), (1, .iconst 0), (2, .aload_n 0), (3, .invokevirtual 86), (6, .iconst 1), (7, .isub), (8, .invokevirtual 142), (11, .ireturn)]]
def gm_c270 : List (List (Nat × Instr)) := [[(0, .aload_n 0), (1, .invokevirtual 131), (4, .aload_n 0), (5, .aload_n 1), (6, .invokevirtual 134), (9, .ifCond .eq 5), (12, .iconst 1), (13, .ireturn), (14, .aload_n 0), (15, .aload_n 0), (16, .getfield 116), (19, .putfield 106), (22, .iconst 0), (23, .ireturn)]]
def gm_c271 : List (List (Nat × Instr)) := [[(0, .aload_n 0), (1, .invokevirtual 100), (4, .bipush 24), (6, .if_icmp .ne 5), (9, .iconst 0), (10, .ireturn), (11, .aload_n 0), (12, .invokevirtual 165), (15, .istore_n 1), (16, .iload_n 1), (17, .ifCond .ge 7), (20, .iconst (-1)), (21, .goto 7), (24, .aload_n 0), (25, .invokevirtual 153), (28, .istore_n 2), (29, .iload_n 2), (30, .ifCond .lt 11)], [(33, .aload_n 0), (34, .iconst (-1)), (35, .iconst (-1)), (36, .iload_n 1), (37, .iload_n 2), (38, .invokevirtual 177), (41, .iload_n 2), (42, .ifCond .lt 7), (45, .iconst 1), (46, .goto 4), (49, .iconst 0), (50, .ireturn)]]
def gm_c272 : List (List (Nat × Instr)) := [[(0, .aload_n 0), (1, .invokevirtual 100), (4, .istore 5), (6, .aload_n 0), (7, .iload 5), (9, .iconst 0), (10, .iload_n 1), (11, .invokevirtual 173), (14, .aload_n 0), (15, .iload 5), (17, .iconst 1), (18, .iload_n 2), (19, .invokevirtual 173), (22, .aload_n 0), (23, .iload 5), (25, .iconst 2), (26, .iload_n 3), (27, .invokevirtual 173), (30, .aload_n 0), (31, .iload 5)], [(33, .iconst 3), (34, .aload_n 0), (35, .invokevirtual 162), (38, .invokevirtual 173), (41, .aload_n 0), (42, .iload 5), (44, .iconst 4), (45, .iload 4), (47, .invokevirtual 173), (50, .aload_n 0), (51, .iload 5), (53, .iconst 5), (54, .iconst (-1)), (55, .invokevirtual 173), (58, .aload_n 0), (59, .iload 5), (61, .bipush 6), (63, .iconst (-1))], [(64, .invokevirtual 173), (67, .aload_n 0), (68, .getfield 13), (71, .iconst 4), (72, .dup2), (73, .iaload), (74, .iconst 1), (75, .iadd), (76, .iastore), (77, .return_)]]
def gm_c273 : List (List (Nat × Instr)) := [[(0, .aload_n 0), (1, .getfield 13), (4, .bipush 119), (6, .bipush 7), (8, .iload_n 1), (9, .imul), (10, .iadd), (11, .iload_n 2), (12, .iadd), (13, .iload_n 3), (14, .iastore), (15, .return_)]]
def gm_c274 : List (List (Nat × Instr)) := [[(0, .aload_n 0), (1, .getfield 13), (4, .bipush 6), (6, .iaload), (7, .istore_n 1), (8, .iload_n 1), (9, .bipush 6), (11, .if_icmp .eq 18), (14, .aload_n 0), (15, .sipush 287), (18, .bipush 6), (20, .iload_n 1), (21, .imul), (22, .iadd), (23, .invokevirtual 149), (26, .ifCond .ne 5), (29, .iconst 0), (30, .ireturn), (31, .aload_n 0)], [(32, .getfield 13), (35, .bipush 6), (37, .dup2), (38, .iaload), (39, .iconst 1), (40, .iadd), (41, .iastore), (42, .iconst 1), (43, .ireturn)]]
def gm_c275 : List (List (Nat × Instr)) := [[(0, .sipush 1245), (3, .iconst 4), (4, .iload_n 1), (5, .imul), (6, .iadd), (7, .istore_n 2), (8, .aload_n 0), (9, .getfield 13), (12, .iload_n 2), (13, .aload_n 0), (14, .ldc_w 275), (17, .invokevirtual 134), (20, .ifCond .eq 7), (23, .iconst 0), (24, .goto 32), (27, .aload_n 0), (28, .ldc_w 277), (31, .invokevirtual 134)], [(34, .ifCond .eq 7), (37, .iconst 1), (38, .goto 18), (41, .aload_n 0), (42, .ldc_w 279), (45, .invokevirtual 134), (48, .ifCond .eq 7), (51, .iconst 2), (52, .goto 4), (55, .iconst (-1)), (56, .iastore), (57, .aload_n 0), (58, .getfield 13), (61, .iload_n 2), (62, .iaload), (63, .ifCond .ge 5)], [(66, .iconst 0), (67, .ireturn), (68, .aload_n 0), (69, .getfield 13), (72, .iload_n 2), (73, .iconst 1), (74, .iadd), (75, .aload_n 0), (76, .getfield 13), (79, .iload_n 2), (80, .iaload), (81, .iconst 2), (82, .if_icmp .ne 7), (85, .iconst 1), (86, .goto 11), (89, .aload_n 0), (90, .iconst 0), (91, .bipush 20), (93, .iconst 3), (94, .invokevirtual 138)], [(97, .iastore), (98, .aload_n 0), (99, .getfield 13), (102, .iload_n 2), (103, .iconst 1), (104, .iadd), (105, .iaload), (106, .ifCond .ge 5), (109, .iconst 0), (110, .ireturn), (111, .aload_n 0), (112, .getfield 13), (115, .iload_n 2), (116, .iconst 2), (117, .iadd), (118, .aload_n 0), (119, .getfield 224), (122, .iastore), (123, .aload_n 0), (124, .iconst 0), (125, .putfield 251)], [(128, .aload_n 0), (129, .ldc_w 281), (132, .invokevirtual 170), (135, .ifCond .eq 12), (138, .aload_n 0), (139, .invokevirtual 253), (142, .ifCond .ne 5), (145, .iconst 0), (146, .ireturn), (147, .aload_n 0), (148, .getfield 13), (151, .iload_n 2), (152, .iconst 3), (153, .iadd), (154, .aload_n 0), (155, .getfield 224), (158, .iastore), (159, .iconst 1)], [(160, .ireturn)]]
def gm_c276 : List (List (Nat × Instr)) := [[(0, .aload_n 0), (1, .invokevirtual 270), (4, .ifCond .ne 5), (7, .iconst 0), (8, .ireturn), (9, .aload_n 0), (10, .ldc_w 273), (13, .invokevirtual 170), (16, .ifCond .eq 22), (19, .aload_n 0), (20, .invokevirtual 270), (23, .ifCond .ne 5), (26, .iconst 0), (27, .ireturn), (28, .aload_n 0), (29, .bipush 16), (31, .iconst 0)], [(32, .invokevirtual 227), (35, .goto (-26)), (38, .iconst 1), (39, .ireturn)]]
def gm_c277 : List (List (Nat × Instr)) := [[(0, .aload_n 0), (1, .invokevirtual 258), (4, .ifCond .ne 5), (7, .iconst 0), (8, .ireturn), (9, .aload_n 0), (10, .ldc_w 268), (13, .invokevirtual 170), (16, .ifCond .eq 22), (19, .aload_n 0), (20, .invokevirtual 258), (23, .ifCond .ne 5), (26, .iconst 0), (27, .ireturn), (28, .aload_n 0), (29, .bipush 15), (31, .iconst 0)], [(32, .invokevirtual 227), (35, .goto (-26)), (38, .iconst 1), (39, .ireturn)]]
def gm_c278 : List (List (Nat × Instr)) := [[(0, .aload_n 0), (1, .bipush 40), (3, .invokevirtual 248), (6, .ifCond .eq 50), (9, .aload_n 0), (10, .getfield 251), (13, .bipush 6), (15, .if_icmp .ne 5), (18, .iconst 0), (19, .ireturn), (20, .aload_n 0), (21, .dup), (22, .getfield 251), (25, .iconst 1), (26, .iadd), (27, .putfield 251), (30, .aload_n 0), (31, .invokevirtual 253)], [(34, .ifCond .ne 5), (37, .iconst 0), (38, .ireturn), (39, .aload_n 0), (40, .dup), (41, .getfield 251), (44, .iconst 1), (45, .isub), (46, .putfield 251), (49, .aload_n 0), (50, .bipush 41), (52, .invokevirtual 248), (55, .ireturn), (56, .aload_n 0), (57, .ldc_w 256), (60, .invokevirtual 170), (63, .ifCond .eq 52)], [(66, .aload_n 0), (67, .getfield 251), (70, .bipush 6), (72, .if_icmp .ne 5), (75, .iconst 0), (76, .ireturn), (77, .aload_n 0), (78, .dup), (79, .getfield 251), (82, .iconst 1), (83, .iadd), (84, .putfield 251), (87, .aload_n 0), (88, .invokevirtual 258), (91, .ifCond .ne 5), (94, .iconst 0), (95, .ireturn)], [(96, .aload_n 0), (97, .dup), (98, .getfield 251), (101, .iconst 1), (102, .isub), (103, .putfield 251), (106, .aload_n 0), (107, .bipush 14), (109, .iconst 0), (110, .invokevirtual 227), (113, .iconst 1), (114, .ireturn), (115, .aload_n 0), (116, .ldc_w 261), (119, .invokevirtual 170), (122, .istore_n 1), (123, .iload_n 1), (124, .ifCond .ne 13), (127, .aload_n 0)], [(128, .ldc_w 263), (131, .invokevirtual 170), (134, .ifCond .eq 21), (137, .aload_n 0), (138, .iload_n 1), (139, .ifCond .eq 8), (142, .bipush 8), (144, .goto 5), (147, .bipush 9), (149, .iconst 0), (150, .invokevirtual 227), (153, .iconst 1), (154, .ireturn), (155, .aload_n 0), (156, .invokevirtual 265), (159, .ifCond .ne 5)], [(162, .iconst 0), (163, .ireturn), (164, .aload_n 0), (165, .bipush 60), (167, .invokevirtual 248), (170, .istore_n 2), (171, .iload_n 2), (172, .ifCond .ne 12), (175, .aload_n 0), (176, .bipush 62), (178, .invokevirtual 248), (181, .ifCond .eq 10), (184, .aload_n 0), (185, .invokevirtual 265), (188, .ifCond .ne 5), (191, .iconst 0)], [(192, .ireturn), (193, .aload_n 0), (194, .iload_n 2), (195, .ifCond .eq 8), (198, .bipush 12), (200, .goto 5), (203, .bipush 13), (205, .iconst 0), (206, .invokevirtual 227), (209, .iconst 1), (210, .ireturn)]]
def gm_c279 : List (List (Nat × Instr)) := [[(0, .aload_n 0), (1, .invokevirtual 119), (4, .aload_n 0), (5, .iload_n 1), (6, .iload_n 1), (7, .invokevirtual 112), (10, .ifCond .ne 5), (13, .iconst 0), (14, .ireturn), (15, .aload_n 0), (16, .dup), (17, .getfield 106), (20, .iconst 1), (21, .iadd), (22, .putfield 106), (25, .iconst 1), (26, .ireturn)]]
def gm_c280 : List (List (Nat × Instr)) := [[(0, .aload_n 0), (1, .getfield 13), (4, .sipush 1293), (7, .iconst 2), (8, .aload_n 0), (9, .getfield 224), (12, .imul), (13, .iadd), (14, .iload_n 1), (15, .iastore), (16, .aload_n 0), (17, .getfield 13), (20, .sipush 1293), (23, .iconst 2), (24, .aload_n 0), (25, .getfield 224), (28, .imul), (29, .iadd), (30, .iconst 1), (31, .iadd)], [(32, .iload_n 2), (33, .iastore), (34, .aload_n 0), (35, .dup), (36, .getfield 224), (39, .iconst 1), (40, .iadd), (41, .putfield 224), (44, .return_)]]
def gm_c281 : List (List (Nat × Instr)) := [[(0, .aload_n 0), (1, .invokevirtual 245), (4, .ifCond .ne 5), (7, .iconst 0), (8, .ireturn), (9, .aload_n 0), (10, .bipush 43), (12, .invokevirtual 248), (15, .ifCond .eq 22), (18, .aload_n 0), (19, .invokevirtual 245), (22, .ifCond .ne 5), (25, .iconst 0), (26, .ireturn), (27, .aload_n 0), (28, .bipush 11), (30, .iconst 0), (31, .invokevirtual 227)], [(34, .goto (-25)), (37, .iconst 1), (38, .ireturn)]]
def gm_c282 : List (List (Nat × Instr)) := [[(0, .aload_n 0), (1, .invokevirtual 131), (4, .aload_n 0), (5, .getfield 106), (8, .aload_n 0), (9, .getfield 116), (12, .if_icmp .ne 23), (15, .aload_n 0), (16, .iconst 0), (17, .sipush 999), (20, .iconst 3), (21, .invokevirtual 138), (24, .istore_n 1), (25, .aload_n 0), (26, .bipush 10), (28, .iload_n 1), (29, .invokevirtual 227)], [(32, .goto 117), (35, .aload_n 0), (36, .ldc 231), (38, .invokevirtual 134), (41, .ifCond .eq 7), (44, .iconst 0), (45, .goto 97), (48, .aload_n 0), (49, .ldc 233), (51, .invokevirtual 134), (54, .ifCond .eq 7), (57, .iconst 1), (58, .goto 84), (61, .aload_n 0), (62, .ldc 235)], [(64, .invokevirtual 134), (67, .ifCond .eq 7), (70, .iconst 2), (71, .goto 71), (74, .aload_n 0), (75, .ldc 237), (77, .invokevirtual 134), (80, .ifCond .eq 7), (83, .iconst 3), (84, .goto 58), (87, .aload_n 0), (88, .ldc 239), (90, .invokevirtual 134), (93, .ifCond .eq 7)], [(96, .iconst 4), (97, .goto 45), (100, .aload_n 0), (101, .ldc 205), (103, .invokevirtual 134), (106, .ifCond .eq 7), (109, .iconst 5), (110, .goto 32), (113, .aload_n 0), (114, .ldc 241), (116, .invokevirtual 134), (119, .ifCond .eq 8), (122, .bipush 6), (124, .goto 18), (127, .aload_n 0)], [(128, .ldc 243), (130, .invokevirtual 134), (133, .ifCond .eq 8), (136, .bipush 7), (138, .goto 4), (141, .iconst (-1)), (142, .istore_n 1), (143, .aload_n 0), (144, .iload_n 1), (145, .iconst 0), (146, .invokevirtual 227), (149, .iload_n 1), (150, .ifCond .lt 7), (153, .iconst 1), (154, .goto 4), (157, .iconst 0), (158, .ireturn)]]
def gm_c283 : List (List (Nat × Instr)) := [[(0, .iload_n 1), (1, .ifCond .eq 8), (4, .aload_n 0), (5, .iload_n 2), (6, .putfield 3), (9, .iload_n 1), (10, .ireturn)]]
def gm_c284 : List (List (Nat × Instr)) := [[(0, .aload_n 0), (1, .iconst 0), (2, .invokevirtual 296), (5, .istore_n 1), (6, .aload_n 0), (7, .iload_n 1), (8, .ifCond .ge 10), (11, .aload_n 0), (12, .getfield 116), (15, .goto 4), (18, .iconst (-1)), (19, .putfield 30), (22, .aload_n 0), (23, .iload_n 1), (24, .ifCond .ge 7), (27, .iconst 1), (28, .goto 4), (31, .iconst 0)], [(32, .iconst 1), (33, .invokevirtual 300), (36, .ifCond .eq 5), (39, .iconst 0), (40, .ireturn), (41, .aload_n 0), (42, .getfield 13), (45, .sipush 1244), (48, .iload_n 1), (49, .iastore), (50, .iconst 0), (51, .istore_n 2), (52, .iload_n 2), (53, .sipush 849), (56, .if_icmp .ge 29), (59, .aload_n 0), (60, .getfield 13), (63, .sipush 395)], [(66, .iload_n 2), (67, .iadd), (68, .aload_n 0), (69, .getfield 13), (72, .sipush 1244), (75, .iload_n 2), (76, .iadd), (77, .iaload), (78, .iastore), (79, .iinc 2 1), (82, .goto (-30)), (85, .aload_n 0), (86, .getfield 13), (89, .bipush 8), (91, .iconst 1), (92, .iastore), (93, .aload_n 0), (94, .iconst 0), (95, .putfield 79)], [(98, .aload_n 0), (99, .invokevirtual 72), (102, .iload_n 1), (103, .ireturn)]]
def gm_c285 : List (List (Nat × Instr)) := [[(0, .aload_n 0), (1, .iconst 0), (2, .putfield 3), (5, .aload_n 0), (6, .iload_n 1), (7, .invokestatic 353), (10, .iconst 1), (11, .invokevirtual 300), (14, .ifCond .eq 7), (17, .iconst 0), (18, .goto 9), (21, .aload_n 0), (22, .getfield 39), (25, .iload_n 1), (26, .iaload), (27, .ireturn)]]
def gm_c286 : List (List (Nat × Instr)) := [[(0, .iload_n 0), (1, .iconst 0), (2, .sipush 299), (5, .invokestatic 90), (8, .ifCond .ne 7), (11, .iconst 1), (12, .goto 4), (15, .iconst 0), (16, .ireturn)]]
def gm_c287 : List (List (Nat × Instr)) := [[(0, .iload_n 0), (1, .iload_n 1), (2, .if_icmp .lt 12), (5, .iload_n 0), (6, .iload_n 2), (7, .if_icmp .gt 7), (10, .iconst 1), (11, .goto 4), (14, .iconst 0), (15, .ireturn)]]
def gm_c288 : List (List (Nat × Instr)) := [[(0, .aload_n 0), (1, .iconst 0), (2, .putfield 3), (5, .aload_n 0), (6, .aload_n 0), (7, .iload_n 1), (8, .invokevirtual 356), (11, .ifCond .ne 11), (14, .aload_n 0), (15, .iload_n 2), (16, .invokevirtual 359), (19, .ifCond .eq 7), (22, .iconst 1), (23, .goto 4), (26, .iconst 0), (27, .iconst 1), (28, .invokevirtual 300), (31, .ifCond .eq 7)], [(34, .iconst 0), (35, .goto 9), (38, .aload_n 0), (39, .iload_n 1), (40, .iload_n 2), (41, .invokevirtual 338), (44, .ireturn)]]
def gm_c289 : List (List (Nat × Instr)) := [[(0, .iload_n 1), (1, .iconst 0), (2, .aload_n 0), (3, .invokevirtual 86), (6, .iconst 1), (7, .isub), (8, .invokestatic 90), (11, .ifCond .ne 7), (14, .iconst 1), (15, .goto 4), (18, .iconst 0), (19, .ireturn)]]
def gm_c290 : List (List (Nat × Instr)) := [[(0, .iload_n 1), (1, .iconst 0), (2, .aload_n 0), (3, .invokevirtual 94), (6, .iconst 1), (7, .isub), (8, .invokestatic 90), (11, .ifCond .ne 7), (14, .iconst 1), (15, .goto 4), (18, .iconst 0), (19, .ireturn)]]
def gm_c291 : List (List (Nat × Instr)) := [[(0, .iconst 0), (1, .istore_n 3), (2, .iconst 0), (3, .istore 4), (5, .iload 4), (7, .aload_n 0), (8, .getfield 13), (11, .iconst 2), (12, .iaload), (13, .if_icmp .ge 48), (16, .aload_n 0), (17, .getfield 13), (20, .bipush 15), (22, .bipush 7), (24, .iload 4), (26, .imul), (27, .iadd), (28, .iaload), (29, .iload_n 2), (30, .if_icmp .gt 23)], [(33, .aload_n 0), (34, .getfield 13), (37, .bipush 15), (39, .bipush 7), (41, .iload 4), (43, .imul), (44, .iadd), (45, .iconst 1), (46, .iadd), (47, .iload_n 1), (48, .iadd), (49, .iaload), (50, .goto 4), (53, .iload_n 3), (54, .istore_n 3), (55, .iinc 4 1), (58, .goto (-53)), (61, .iload_n 3), (62, .ireturn)]]
def gm_c292 : List (List (Nat × Instr)) := [[(0, .aload_n 0), (1, .iconst 0), (2, .putfield 3), (5, .aload_n 0), (6, .aload_n 0), (7, .iload_n 1), (8, .invokevirtual 356), (11, .ifCond .ne 11), (14, .aload_n 0), (15, .iload_n 2), (16, .invokevirtual 359), (19, .ifCond .eq 7), (22, .iconst 1), (23, .goto 4), (26, .iconst 0), (27, .iconst 1), (28, .invokevirtual 300), (31, .ifCond .ne 15)], [(34, .aload_n 0), (35, .iload_n 3), (36, .invokestatic 353), (39, .iconst 2), (40, .invokevirtual 300), (43, .ifCond .eq 7), (46, .iconst 0), (47, .goto 10), (50, .aload_n 0), (51, .iload_n 1), (52, .iload_n 2), (53, .iload_n 3), (54, .invokevirtual 362), (57, .ireturn)]]
def gm_c293 : List (List (Nat × Instr)) := [[(0, .aload_n 0), (1, .iload_n 1), (2, .invokevirtual 334), (5, .iload_n 2), (6, .sipush 300), (9, .imul), (10, .iload_n 3), (11, .iadd), (12, .istore 4), (14, .aload_n 0), (15, .getfield 42), (18, .iload 4), (20, .baload), (21, .ifCond .le 13), (24, .aload_n 0), (25, .getfield 42), (28, .iload 4), (30, .baload), (31, .iconst 1)], [(32, .isub), (33, .ireturn), (34, .aload_n 0), (35, .iload_n 1), (36, .putfield 303), (39, .aload_n 0), (40, .iload_n 2), (41, .putfield 306), (44, .aload_n 0), (45, .iload_n 3), (46, .putfield 309), (49, .aload_n 0), (50, .aload_n 0), (51, .iload_n 1), (52, .iload_n 2), (53, .invokevirtual 338), (56, .putfield 312), (59, .aload_n 0), (60, .iconst 0), (61, .putfield 315)], [(64, .aload_n 0), (65, .iconst 0), (66, .putfield 318), (69, .aload_n 0), (70, .iconst 0), (71, .putfield 321), (74, .iconst 0), (75, .bipush 30), (77, .aload_n 0), (78, .getfield 312), (81, .aload_n 0), (82, .iconst 0), (83, .invokevirtual 341), (86, .iadd), (87, .aload_n 0), (88, .iconst 1), (89, .invokevirtual 341), (92, .isub), (93, .invokestatic 345)], [(96, .invokestatic 350), (99, .istore 5), (101, .aload_n 0), (102, .getfield 42), (105, .iload 4), (107, .iload 5), (109, .iconst 1), (110, .iadd), (111, .i2b), (112, .bastore), (113, .iload 5), (115, .ireturn)]]
def gm_c294 : List (List (Nat × Instr)) := [[(0, .iload_n 1), (1, .aload_n 0), (2, .getfield 331), (5, .if_icmp .ne 4), (8, .return_), (9, .aload_n 0), (10, .iload_n 1), (11, .putfield 331), (14, .iconst 0), (15, .istore_n 2), (16, .iload_n 2), (17, .aload_n 0), (18, .getfield 42), (21, .arraylength), (22, .if_icmp .ge 16), (25, .aload_n 0), (26, .getfield 42), (29, .iload_n 2), (30, .iconst 0), (31, .bastore)], [(32, .iinc 2 1), (35, .goto (-19)), (38, .return_)]]
def gm_c295 : List (List (Nat × Instr)) := [[(0, .iconst 0), (1, .istore_n 2), (2, .iconst 0), (3, .istore_n 3), (4, .aload_n 0), (5, .getfield 13), (8, .bipush 8), (10, .iaload), (11, .iconst 1), (12, .if_icmp .ne 66), (15, .iload_n 3), (16, .aload_n 0), (17, .getfield 13), (20, .sipush 395), (23, .iaload), (24, .if_icmp .ge 54), (27, .iload_n 2), (28, .aload_n 0), (29, .getfield 13)], [(32, .sipush 396), (35, .iconst 4), (36, .iload_n 3), (37, .imul), (38, .iadd), (39, .iaload), (40, .iload_n 1), (41, .if_icmp .ne 28), (44, .aload_n 0), (45, .iload_n 3), (46, .invokevirtual 327), (49, .ifCond .eq 20), (52, .aload_n 0), (53, .getfield 13), (56, .sipush 396), (59, .iconst 4), (60, .iload_n 3), (61, .imul), (62, .iadd), (63, .iconst 1)], [(64, .iadd), (65, .iaload), (66, .goto 4), (69, .iconst 0), (70, .iadd), (71, .istore_n 2), (72, .iinc 3 1), (75, .goto (-71)), (78, .iload_n 2), (79, .ireturn)]]
def gm_c296 : List (List (Nat × Instr)) := [[(0, .iconst 0), (1, .istore_n 2), (2, .sipush 396), (5, .iconst 4), (6, .iload_n 1), (7, .imul), (8, .iadd), (9, .istore_n 3), (10, .aload_n 0), (11, .getfield 13), (14, .iload_n 3), (15, .iconst 2), (16, .iadd), (17, .iaload), (18, .istore 4), (20, .iload 4), (22, .aload_n 0), (23, .getfield 13), (26, .iload_n 3), (27, .iconst 3), (28, .iadd), (29, .iaload), (30, .if_icmp .ge 229)], [(33, .aload_n 0), (34, .getfield 13), (37, .sipush 444), (40, .iconst 2), (41, .iload 4), (43, .imul), (44, .iadd), (45, .iaload), (46, .istore 5), (48, .iload 5), (50, .bipush 10), (52, .if_icmp .gt 36), (55, .aload_n 0), (56, .getfield 36), (59, .iload_n 2), (60, .aload_n 0), (61, .iload 5), (63, .aload_n 0)], [(64, .getfield 13), (67, .sipush 444), (70, .iconst 2), (71, .iload 4), (73, .imul), (74, .iadd), (75, .iconst 1), (76, .iadd), (77, .iaload), (78, .invokevirtual 324), (81, .iastore), (82, .iinc 2 1), (85, .goto 168), (88, .iload 5), (90, .bipush 14), (92, .if_icmp .ne 24), (95, .aload_n 0)], [(96, .getfield 36), (99, .iload_n 2), (100, .iconst 1), (101, .isub), (102, .iconst 1), (103, .aload_n 0), (104, .getfield 36), (107, .iload_n 2), (108, .iconst 1), (109, .isub), (110, .iaload), (111, .isub), (112, .iastore), (113, .goto 140), (116, .iinc 2 (-1)), (119, .aload_n 0), (120, .getfield 36), (123, .iload_n 2), (124, .iconst 1), (125, .isub), (126, .iaload), (127, .istore 6)], [(129, .aload_n 0), (130, .getfield 36), (133, .iload_n 2), (134, .iaload), (135, .istore 7), (137, .iload 5), (139, .bipush 12), (141, .if_icmp .ne 18), (144, .iload 6), (146, .iload 7), (148, .if_icmp .ge 7), (151, .iconst 1), (152, .goto 66), (155, .iconst 0), (156, .goto 62), (159, .iload 5)], [(161, .bipush 13), (163, .if_icmp .ne 18), (166, .iload 6), (168, .iload 7), (170, .if_icmp .le 7), (173, .iconst 1), (174, .goto 44), (177, .iconst 0), (178, .goto 40), (181, .iload 5), (183, .bipush 15), (185, .if_icmp .ne 20), (188, .iload 6), (190, .iload 7)], [(192, .iadd), (193, .iconst 2), (194, .if_icmp .ne 7), (197, .iconst 1), (198, .goto 20), (201, .iconst 0), (202, .goto 16), (205, .iload 6), (207, .iload 7), (209, .iadd), (210, .ifCond .le 7), (213, .iconst 1), (214, .goto 4), (217, .iconst 0), (218, .istore 8), (220, .aload_n 0), (221, .getfield 36)], [(224, .iload_n 2), (225, .iconst 1), (226, .isub), (227, .iload 5), (229, .bipush 11), (231, .if_icmp .ne 11), (234, .iload 6), (236, .iload 7), (238, .iadd), (239, .goto 13), (242, .iload 8), (244, .ifCond .eq 7), (247, .iconst 1), (248, .goto 4), (251, .iconst 0), (252, .iastore), (253, .iinc 4 1)], [(256, .goto (-236)), (259, .iload_n 2), (260, .ifCond .eq 13), (263, .aload_n 0), (264, .getfield 36), (267, .iconst 0), (268, .iaload), (269, .iconst 1), (270, .if_icmp .ne 7), (273, .iconst 1), (274, .goto 4), (277, .iconst 0), (278, .ireturn)]]
def gm_c297 : List (List (Nat × Instr)) := [[(0, .iload_n 1), (1, .tableswitch 146 0 9 #[55, 60, 65, 70, 80, 85, 90, 95, 100, 126])], [(56, .aload_n 0), (57, .getfield 303), (60, .ireturn), (61, .aload_n 0), (62, .getfield 306)], [(65, .ireturn), (66, .aload_n 0), (67, .getfield 309), (70, .ireturn), (71, .aload_n 0), (72, .getfield 39), (75, .aload_n 0), (76, .getfield 309), (79, .iaload), (80, .ireturn), (81, .aload_n 0), (82, .getfield 312), (85, .ireturn), (86, .aload_n 0), (87, .getfield 315), (90, .ireturn), (91, .aload_n 0), (92, .getfield 318), (95, .ireturn)], [(96, .aload_n 0), (97, .getfield 321), (100, .ireturn), (101, .aload_n 0), (102, .getfield 303), (105, .ifCond .eq 16), (108, .aload_n 0), (109, .getfield 303), (112, .aload_n 0), (113, .invokevirtual 86), (116, .iconst 1), (117, .isub), (118, .if_icmp .ne 7), (121, .iconst 1), (122, .goto 4), (125, .iconst 0), (126, .ireturn), (127, .aload_n 0)], [(128, .getfield 303), (131, .aload_n 0), (132, .getfield 13), (135, .bipush 12), (137, .iaload), (138, .if_icmp .ge 7), (141, .iconst 1), (142, .goto 4), (145, .iconst 0), (146, .ireturn), (147, .iload_n 2), (148, .ireturn)]]
def gm_c298 : List (List (Nat × Instr)) := [[(0, .aload_n 0), (1, .iconst 0), (2, .putfield 3), (5, .aload_n 0), (6, .aload_n 0), (7, .iload_n 1), (8, .invokevirtual 393), (11, .iconst 1), (12, .invokevirtual 300), (15, .ifCond .ne 25), (18, .aload_n 0), (19, .iload_n 2), (20, .iconst 0), (21, .iconst 5), (22, .invokestatic 90), (25, .ifCond .ne 7), (28, .iconst 1), (29, .goto 4)], [(32, .iconst 0), (33, .iconst 2), (34, .invokevirtual 300), (37, .ifCond .eq 5), (40, .iconst 0), (41, .ireturn), (42, .iload_n 2), (43, .iconst 3), (44, .if_icmp .ge 12), (47, .aload_n 0), (48, .iload_n 1), (49, .iload_n 2), (50, .invokevirtual 396), (53, .goto 9), (56, .aload_n 0), (57, .iload_n 1), (58, .iload_n 2), (59, .invokevirtual 399), (62, .ireturn)]]
def gm_c299 : List (List (Nat × Instr)) := [[(0, .iload_n 1), (1, .iconst 0), (2, .aload_n 0), (3, .invokevirtual 97), (6, .iconst 1), (7, .isub), (8, .invokestatic 90), (11, .ifCond .ne 7), (14, .iconst 1), (15, .goto 4), (18, .iconst 0), (19, .ireturn)]]
def gm_c300 : List (List (Nat × Instr)) := [[(0, .aload_n 0), (1, .getfield 13), (4, .bipush 95), (6, .iconst 3), (7, .iload_n 1), (8, .imul), (9, .iadd), (10, .iload_n 2), (11, .iadd), (12, .iaload), (13, .ireturn)]]
def gm_c301 : List (List (Nat × Instr)) := [[(0, .iconst 0), (1, .istore_n 3), (2, .iconst 0), (3, .istore 4), (5, .iload 4), (7, .aload_n 0), (8, .invokevirtual 100), (11, .if_icmp .ge 97), (14, .iload_n 2), (15, .iconst 3), (16, .if_icmp .ne 22), (19, .aload_n 0), (20, .iload 4), (22, .iconst 0), (23, .invokevirtual 82), (26, .iload_n 1), (27, .if_icmp .ne 7), (30, .iconst 1), (31, .goto 56)], [(34, .iconst 0), (35, .goto 52), (38, .iload_n 2), (39, .iconst 4), (40, .if_icmp .ne 22), (43, .aload_n 0), (44, .iload 4), (46, .iconst 5), (47, .invokevirtual 82), (50, .iload_n 1), (51, .if_icmp .ne 7), (54, .iconst 1), (55, .goto 32), (58, .iconst 0), (59, .goto 28), (62, .aload_n 0), (63, .iload 4)], [(65, .iconst 1), (66, .invokevirtual 82), (69, .iload_n 1), (70, .if_icmp .ne 16), (73, .aload_n 0), (74, .iload 4), (76, .invokevirtual 390), (79, .ifCond .eq 7), (82, .iconst 1), (83, .goto 4), (86, .iconst 0), (87, .istore 5), (89, .iload_n 3), (90, .iload 5), (92, .ifCond .eq 7), (95, .iconst 1)], [(96, .goto 4), (99, .iconst 0), (100, .iadd), (101, .istore_n 3), (102, .iinc 4 1), (105, .goto (-100)), (108, .iload_n 3), (109, .ireturn)]]
def gm_c302 : List (List (Nat × Instr)) := [[(0, .aload_n 0), (1, .getfield 13), (4, .bipush 119), (6, .bipush 7), (8, .iload_n 1), (9, .imul), (10, .iadd), (11, .iload_n 2), (12, .iadd), (13, .iaload), (14, .ireturn)]]
def gm_c303 : List (List (Nat × Instr)) := [[(0, .aload_n 0), (1, .iload_n 1), (2, .invokevirtual 374), (5, .ifCond .ne 12), (8, .aload_n 0), (9, .iload_n 1), (10, .iconst 5), (11, .invokevirtual 82), (14, .ifCond .lt 5), (17, .iconst 0), (18, .ireturn), (19, .aload_n 0), (20, .iload_n 1), (21, .invokevirtual 387), (24, .istore_n 2), (25, .iload_n 2), (26, .ifCond .lt 15), (29, .iload_n 2), (30, .aload_n 0), (31, .invokevirtual 162)], [(34, .if_icmp .gt 7), (37, .iconst 1), (38, .goto 4), (41, .iconst 0), (42, .ireturn)]]
def gm_c304 : List (List (Nat × Instr)) := [[(0, .aload_n 0), (1, .iload_n 1), (2, .iconst 0), (3, .invokevirtual 82), (6, .ifCond .ge 7), (9, .iconst 1), (10, .goto 4), (13, .iconst 0), (14, .ireturn)]]
def gm_c305 : List (List (Nat × Instr)) := [[(0, .aload_n 0), (1, .iload_n 1), (2, .iconst (-1)), (3, .invokevirtual 381), (6, .aload_n 0), (7, .getfield 368), (10, .ireturn)]]
def gm_c306 : List (List (Nat × Instr)) := [[(0, .aload_n 0), (1, .aload_n 0), (2, .iload_n 1), (3, .iconst 2), (4, .invokevirtual 82), (7, .aload_n 0), (8, .iload_n 1), (9, .iconst 4), (10, .invokevirtual 82), (13, .aload_n 0), (14, .iload_n 1), (15, .iconst 3), (16, .invokevirtual 82), (19, .aload_n 0), (20, .iload_n 1), (21, .invokevirtual 374), (24, .iload_n 2), (25, .invokevirtual 377), (28, .return_)]]
def gm_c307 : List (List (Nat × Instr)) := [[(0, .iconst 0), (1, .istore 6), (3, .iload 6), (5, .iload_n 3), (6, .if_icmp .ge 25), (9, .aload_n 0), (10, .getfield 45), (13, .iload 6), (15, .iconst (-1)), (16, .iastore), (17, .aload_n 0), (18, .getfield 48), (21, .iload 6), (23, .iconst (-1)), (24, .iastore), (25, .iinc 6 1), (28, .goto (-25)), (31, .iload_n 2)], [(32, .istore 6), (34, .iconst 0), (35, .istore 7), (37, .aload_n 0), (38, .iconst (-1)), (39, .putfield 368), (42, .aload_n 0), (43, .iconst 0), (44, .putfield 365), (47, .iload_n 3), (48, .istore 8), (50, .iload 8), (52, .sipush 300), (55, .if_icmp .ge 158), (58, .aload_n 0), (59, .getfield 45), (62, .iload 8)], [(64, .iload 6), (66, .aload_n 0), (67, .invokevirtual 94), (70, .invokestatic 345), (73, .iastore), (74, .aload_n 0), (75, .getfield 48), (78, .iload 8), (80, .iload 7), (82, .iastore), (83, .aload_n 0), (84, .aload_n 0), (85, .getfield 368), (88, .ifCond .ge 17), (91, .iload 6), (93, .aload_n 0), (94, .invokevirtual 94)], [(97, .if_icmp .lt 8), (100, .iload 8), (102, .goto 7), (105, .aload_n 0), (106, .getfield 368), (109, .putfield 368), (112, .aload_n 0), (113, .getfield 368), (116, .ifCond .ge 91), (119, .iload 8), (121, .sipush 299), (124, .if_icmp .ne 6), (127, .goto 80)], [(130, .iload 4), (132, .ifCond .eq 7), (135, .iconst 0), (136, .goto 47), (139, .iload 6), (141, .aload_n 0), (142, .getfield 13), (145, .bipush 10), (147, .iaload), (148, .if_icmp .ge 21), (151, .bipush 99), (153, .iload 7), (155, .aload_n 0), (156, .getfield 13), (159, .bipush 11)], [(161, .iaload), (162, .iadd), (163, .invokestatic 345), (166, .goto 17), (169, .iconst 0), (170, .iload 7), (172, .aload_n 0), (173, .getfield 39), (176, .iload 8), (178, .iaload), (179, .isub), (180, .invokestatic 350), (183, .istore 7), (185, .aload_n 0), (186, .iload 6), (188, .aload_n 0), (189, .iload_n 1), (190, .iload 6)], [(192, .iload 8), (194, .invokevirtual 362), (197, .iadd), (198, .iload 8), (200, .iload 5), (202, .invokevirtual 371), (205, .istore 6), (207, .iinc 8 1), (210, .goto (-160)), (213, .return_)]]
def gm_c308 : List (List (Nat × Instr)) := [[(0, .iload_n 1), (1, .istore 4), (3, .iconst 0), (4, .istore 5), (6, .iload 5), (8, .aload_n 0), (9, .getfield 13), (12, .iconst 5), (13, .iaload), (14, .if_icmp .ge 84), (17, .bipush 71), (19, .iconst 3), (20, .iload 5), (22, .imul), (23, .iadd), (24, .istore 6), (26, .iload 5), (28, .iload_n 3), (29, .if_icmp .eq 63)], [(32, .aload_n 0), (33, .getfield 13), (36, .iload 6), (38, .iaload), (39, .iload_n 2), (40, .if_icmp .ne 52), (43, .iload 4), (45, .aload_n 0), (46, .getfield 13), (49, .iload 6), (51, .iconst 1), (52, .iadd), (53, .iaload), (54, .if_icmp .ge 6), (57, .goto 35), (60, .iload 4), (62, .aload_n 0), (63, .getfield 13)], [(66, .iload 6), (68, .iconst 2), (69, .iadd), (70, .iaload), (71, .iadd), (72, .istore 4), (74, .aload_n 0), (75, .dup), (76, .getfield 365), (79, .aload_n 0), (80, .getfield 13), (83, .iload 6), (85, .iconst 2), (86, .iadd), (87, .iaload), (88, .iadd), (89, .putfield 365), (92, .iinc 5 1), (95, .goto (-89))], [(98, .iload 4), (100, .ireturn)]]
def gm_c309 : List (List (Nat × Instr)) := [[(0, .aload_n 0), (1, .iconst 0), (2, .putfield 3), (5, .aload_n 0), (6, .aload_n 0), (7, .iload_n 1), (8, .invokevirtual 405), (11, .iconst 1), (12, .invokevirtual 300), (15, .ifCond .ne 26), (18, .aload_n 0), (19, .iload_n 2), (20, .iconst 0), (21, .bipush 9), (23, .invokestatic 90), (26, .ifCond .ne 7), (29, .iconst 1), (30, .goto 4)], [(33, .iconst 0), (34, .iconst 2), (35, .invokevirtual 300), (38, .ifCond .eq 5), (41, .iconst 0), (42, .ireturn), (43, .iload_n 2), (44, .bipush 7), (46, .if_icmp .ge 10), (49, .aload_n 0), (50, .iload_n 1), (51, .iload_n 2), (52, .invokevirtual 82), (55, .ireturn), (56, .aload_n 0), (57, .iload_n 1), (58, .invokevirtual 387), (61, .istore_n 3), (62, .iload_n 2), (63, .bipush 7)], [(65, .if_icmp .ne 7), (68, .iload_n 3), (69, .goto 31), (72, .iload_n 2), (73, .bipush 8), (75, .if_icmp .ne 20), (78, .iload_n 3), (79, .ifCond .ge 7), (82, .iconst (-1)), (83, .goto 17), (86, .aload_n 0), (87, .getfield 48), (90, .iload_n 3), (91, .iaload), (92, .goto 8), (95, .aload_n 0)], [(96, .iload_n 1), (97, .invokevirtual 408), (100, .ireturn)]]
def gm_c310 : List (List (Nat × Instr)) := [[(0, .iload_n 1), (1, .iconst 0), (2, .aload_n 0), (3, .invokevirtual 100), (6, .iconst 1), (7, .isub), (8, .invokestatic 90), (11, .ifCond .ne 7), (14, .iconst 1), (15, .goto 4), (18, .iconst 0), (19, .ireturn)]]
def gm_c311 : List (List (Nat × Instr)) := [[(0, .iconst 0), (1, .istore_n 2), (2, .iload_n 2), (3, .sipush 300), (6, .if_icmp .ge 20), (9, .aload_n 0), (10, .iload_n 1), (11, .iload_n 2), (12, .invokevirtual 402), (15, .ifCond .eq 5), (18, .iload_n 2), (19, .ireturn), (20, .iinc 2 1), (23, .goto (-21)), (26, .iconst (-1)), (27, .ireturn)]]
def gm_c312 : List (List (Nat × Instr)) := [[(0, .iload_n 2), (1, .aload_n 0), (2, .iload_n 1), (3, .iconst 3), (4, .invokevirtual 82), (7, .if_icmp .le 24), (10, .aload_n 0), (11, .iload_n 2), (12, .invokevirtual 384), (15, .ifCond .eq 16), (18, .aload_n 0), (19, .getfield 48), (22, .iload_n 2), (23, .iaload), (24, .ifCond .ne 7), (27, .iconst 1), (28, .goto 4), (31, .iconst 0)], [(32, .ireturn)]]
def gm_c313 : List (List (Nat × Instr)) := [[(0, .aload_n 0), (1, .getfield 45), (4, .iload_n 1), (5, .iaload), (6, .ifCond .lt 20), (9, .aload_n 0), (10, .getfield 45), (13, .iload_n 1), (14, .iaload), (15, .aload_n 0), (16, .invokevirtual 94), (19, .if_icmp .ge 7), (22, .iconst 1), (23, .goto 4), (26, .iconst 0), (27, .ireturn)]]
def gm_c314 : List (List (Nat × Instr)) := [[(0, .aload_n 0), (1, .iconst 0), (2, .putfield 3), (5, .aload_n 0), (6, .aload_n 0), (7, .iload_n 1), (8, .invokevirtual 405), (11, .iconst 1), (12, .invokevirtual 300), (15, .ifCond .ne 15), (18, .aload_n 0), (19, .iload_n 2), (20, .invokestatic 353), (23, .iconst 2), (24, .invokevirtual 300), (27, .ifCond .eq 5), (30, .iconst 0), (31, .ireturn)], [(32, .aload_n 0), (33, .iload_n 1), (34, .iconst (-1)), (35, .invokevirtual 381), (38, .aload_n 0), (39, .getfield 45), (42, .iload_n 2), (43, .iaload), (44, .ireturn)]]
def gm_c315 : List (List (Nat × Instr)) := [[(0, .aload_n 0), (1, .iconst 0), (2, .putfield 3), (5, .aload_n 0), (6, .aload_n 0), (7, .iload_n 1), (8, .invokevirtual 405), (11, .iconst 1), (12, .invokevirtual 300), (15, .ifCond .ne 15), (18, .aload_n 0), (19, .iload_n 2), (20, .invokestatic 353), (23, .iconst 2), (24, .invokevirtual 300), (27, .ifCond .eq 5), (30, .iconst 0), (31, .ireturn)], [(32, .aload_n 0), (33, .iload_n 1), (34, .iconst (-1)), (35, .invokevirtual 381), (38, .aload_n 0), (39, .getfield 48), (42, .iload_n 2), (43, .iaload), (44, .ireturn)]]
def gm_c316 : List (List (Nat × Instr)) := [[(0, .aload_n 0), (1, .iconst 0), (2, .putfield 3), (5, .aload_n 0), (6, .aload_n 0), (7, .iload_n 1), (8, .invokevirtual 393), (11, .ifCond .ne 11), (14, .aload_n 0), (15, .iload_n 2), (16, .invokevirtual 393), (19, .ifCond .eq 7), (22, .iconst 1), (23, .goto 4), (26, .iconst 0), (27, .iconst 1), (28, .invokevirtual 300), (31, .ifCond .ne 43)], [(34, .aload_n 0), (35, .iload_n 1), (36, .iload_n 2), (37, .if_icmp .ne 7), (40, .iconst 1), (41, .goto 4), (44, .iconst 0), (45, .iconst 2), (46, .invokevirtual 300), (49, .ifCond .ne 25), (52, .aload_n 0), (53, .aload_n 0), (54, .invokevirtual 100), (57, .bipush 24), (59, .if_icmp .ne 7), (62, .iconst 1), (63, .goto 4)], [(66, .iconst 0), (67, .iconst 3), (68, .invokevirtual 300), (71, .ifCond .eq 5), (74, .iconst 0), (75, .ireturn), (76, .aload_n 0), (77, .invokevirtual 411), (80, .aload_n 0), (81, .iload_n 1), (82, .iload_n 2), (83, .aload_n 0), (84, .iload_n 1), (85, .iconst 0), (86, .invokevirtual 396), (89, .aload_n 0), (90, .iload_n 1), (91, .iconst 1), (92, .invokevirtual 396), (95, .invokevirtual 177)], [(98, .aload_n 0), (99, .invokevirtual 100), (102, .iconst 1), (103, .isub), (104, .ireturn)]]
def gm_c317 : List (List (Nat × Instr)) := [[(0, .aload_n 0), (1, .getfield 79), (4, .bipush 12), (6, .if_icmp .ne 37), (9, .iconst 0), (10, .istore_n 1), (11, .iload_n 1), (12, .sipush 4345), (15, .if_icmp .ge 25), (18, .aload_n 0), (19, .getfield 23), (22, .iload_n 1), (23, .aload_n 0), (24, .getfield 23), (27, .iload_n 1), (28, .sipush 395), (31, .iadd)], [(32, .iaload), (33, .iastore), (34, .iinc 1 1), (37, .goto (-26)), (40, .goto 13), (43, .aload_n 0), (44, .dup), (45, .getfield 79), (48, .iconst 1), (49, .iadd), (50, .putfield 79), (53, .iconst 0), (54, .istore_n 1), (55, .iload_n 1), (56, .sipush 395), (59, .if_icmp .ge 32), (62, .aload_n 0), (63, .getfield 23)], [(66, .sipush 395), (69, .aload_n 0), (70, .getfield 79), (73, .iconst 1), (74, .isub), (75, .imul), (76, .iload_n 1), (77, .iadd), (78, .aload_n 0), (79, .getfield 13), (82, .iload_n 1), (83, .iaload), (84, .iastore), (85, .iinc 1 1), (88, .goto (-33)), (91, .return_)]]
def gm_c318 : List (List (Nat × Instr)) := [[(0, .aload_n 0), (1, .iconst 0), (2, .putfield 3), (5, .aload_n 0), (6, .aload_n 0), (7, .iload_n 1), (8, .invokevirtual 393), (11, .ifCond .ne 16), (14, .iload_n 2), (15, .iconst (-1)), (16, .if_icmp .eq 15), (19, .aload_n 0), (20, .iload_n 2), (21, .invokevirtual 356), (24, .ifCond .eq 7), (27, .iconst 1), (28, .goto 4), (31, .iconst 0)], [(32, .iconst 1), (33, .invokevirtual 300), (36, .ifCond .eq 5), (39, .iconst 0), (40, .ireturn), (41, .aload_n 0), (42, .invokevirtual 411), (45, .aload_n 0), (46, .iload_n 1), (47, .iconst 2), (48, .invokevirtual 396), (51, .istore_n 3), (52, .aload_n 0), (53, .getfield 13), (56, .bipush 95), (58, .iconst 3), (59, .iload_n 1), (60, .imul), (61, .iadd), (62, .iconst 2), (63, .iadd)], [(64, .iload_n 2), (65, .iastore), (66, .iload_n 3), (67, .ireturn)]]
def gm_c319 : List (List (Nat × Instr)) := [[(0, .aload_n 0), (1, .iconst 0), (2, .putfield 3), (5, .aload_n 0), (6, .aload_n 0), (7, .iload_n 1), (8, .invokevirtual 405), (11, .iconst 1), (12, .invokevirtual 300), (15, .ifCond .ne 24), (18, .aload_n 0), (19, .aload_n 0), (20, .iload_n 1), (21, .invokevirtual 390), (24, .ifCond .ne 7), (27, .iconst 1), (28, .goto 4), (31, .iconst 0)], [(32, .iconst 2), (33, .invokevirtual 300), (36, .ifCond .eq 5), (39, .iconst 0), (40, .ireturn), (41, .aload_n 0), (42, .invokevirtual 411), (45, .aload_n 0), (46, .iload_n 1), (47, .aload_n 0), (48, .iload_n 1), (49, .iconst 1), (50, .invokevirtual 82), (53, .invokevirtual 414), (56, .aload_n 0), (57, .invokevirtual 162), (60, .aload_n 0), (61, .iload_n 1), (62, .iconst 3), (63, .invokevirtual 82)], [(66, .isub), (67, .ireturn)]]
def gm_c320 : List (List (Nat × Instr)) := [[(0, .aload_n 0), (1, .iload_n 1), (2, .iconst 5), (3, .iload_n 2), (4, .invokevirtual 173), (7, .aload_n 0), (8, .iload_n 1), (9, .bipush 6), (11, .aload_n 0), (12, .invokevirtual 162), (15, .invokevirtual 173), (18, .sipush 323), (21, .iconst 3), (22, .aload_n 0), (23, .getfield 13), (26, .bipush 14), (28, .iaload), (29, .imul), (30, .iadd), (31, .istore_n 3)], [(32, .aload_n 0), (33, .getfield 13), (36, .iload_n 3), (37, .aload_n 0), (38, .invokevirtual 162), (41, .iastore), (42, .aload_n 0), (43, .getfield 13), (46, .iload_n 3), (47, .iconst 1), (48, .iadd), (49, .iload_n 1), (50, .iastore), (51, .aload_n 0), (52, .getfield 13), (55, .iload_n 3), (56, .iconst 2), (57, .iadd), (58, .iload_n 2), (59, .iastore), (60, .aload_n 0), (61, .getfield 13)], [(64, .bipush 14), (66, .dup2), (67, .iaload), (68, .iconst 1), (69, .iadd), (70, .iastore), (71, .return_)]]
def gm_c321 : List (List (Nat × Instr)) := [[(0, .aload_n 0), (1, .iconst 0), (2, .putfield 3), (5, .aload_n 0), (6, .iload_n 1), (7, .iconst 1), (8, .bipush 50), (10, .invokestatic 90), (13, .ifCond .eq 15), (16, .aload_n 0), (17, .invokevirtual 162), (20, .iload_n 1), (21, .iadd), (22, .sipush 299), (25, .if_icmp .le 7), (28, .iconst 1), (29, .goto 4)], [(32, .iconst 0), (33, .iconst 1), (34, .invokevirtual 300), (37, .ifCond .eq 5), (40, .iconst 0), (41, .ireturn), (42, .aload_n 0), (43, .invokevirtual 411), (46, .iconst 0), (47, .istore_n 2), (48, .iconst 0), (49, .istore_n 3), (50, .iload_n 3), (51, .iload_n 1), (52, .if_icmp .ge 16), (55, .iload_n 2), (56, .aload_n 0), (57, .invokevirtual 423), (60, .iadd), (61, .istore_n 2), (62, .iinc 3 1)], [(65, .goto (-15)), (68, .iload_n 2), (69, .ireturn)]]
def gm_c322 : List (List (Nat × Instr)) := [[(0, .aload_n 0), (1, .getfield 13), (4, .bipush 9), (6, .dup2), (7, .iaload), (8, .iconst 1), (9, .iadd), (10, .iastore), (11, .iconst 0), (12, .istore_n 1), (13, .iconst 0), (14, .istore_n 2), (15, .iload_n 2), (16, .aload_n 0), (17, .invokevirtual 100), (20, .if_icmp .ge 43), (23, .aload_n 0), (24, .iload_n 2), (25, .invokevirtual 390), (28, .ifCond .eq 11), (31, .aload_n 0)], [(32, .iload_n 2), (33, .invokevirtual 420), (36, .goto 4), (39, .iconst (-1)), (40, .istore_n 3), (41, .iload_n 3), (42, .ifCond .ge 6), (45, .goto 12), (48, .aload_n 0), (49, .iload_n 2), (50, .iload_n 3), (51, .invokevirtual 414), (54, .iinc 1 1), (57, .iinc 2 1), (60, .goto (-45)), (63, .iload_n 1)], [(64, .ireturn)]]
def gm_c323 : List (List (Nat × Instr)) := [[(0, .aload_n 0), (1, .iload_n 1), (2, .iconst 2), (3, .invokevirtual 82), (6, .istore_n 2), (7, .aload_n 0), (8, .aload_n 0), (9, .iload_n 1), (10, .iconst 1), (11, .invokevirtual 82), (14, .iconst 2), (15, .invokevirtual 396), (18, .iload_n 2), (19, .if_icmp .ne 10), (22, .aload_n 0), (23, .iload_n 1), (24, .iconst 1), (25, .invokevirtual 82), (28, .ireturn), (29, .iconst 0), (30, .istore_n 3), (31, .iload_n 3)], [(32, .aload_n 0), (33, .invokevirtual 97), (36, .if_icmp .ge 30), (39, .aload_n 0), (40, .iload_n 3), (41, .iconst 2), (42, .invokevirtual 396), (45, .iload_n 2), (46, .if_icmp .ne 14), (49, .aload_n 0), (50, .iload_n 3), (51, .iload_n 1), (52, .invokevirtual 417), (55, .ifCond .eq 5), (58, .iload_n 3), (59, .ireturn), (60, .iinc 3 1), (63, .goto (-32))], [(66, .iconst (-1)), (67, .ireturn)]]
def gm_c324 : List (List (Nat × Instr)) := [[(0, .aload_n 0), (1, .aload_n 0), (2, .iload_n 2), (3, .iconst 2), (4, .invokevirtual 82), (7, .putfield 303), (10, .aload_n 0), (11, .aload_n 0), (12, .invokevirtual 94), (15, .putfield 306), (18, .aload_n 0), (19, .aload_n 0), (20, .invokevirtual 162), (23, .putfield 309), (26, .aload_n 0), (27, .iconst 0), (28, .putfield 312), (31, .aload_n 0)], [(32, .iload_n 1), (33, .putfield 315), (36, .aload_n 0), (37, .aload_n 0), (38, .invokevirtual 162), (41, .aload_n 0), (42, .iload_n 2), (43, .iconst 3), (44, .invokevirtual 82), (47, .isub), (48, .putfield 318), (51, .aload_n 0), (52, .aload_n 0), (53, .getfield 48), (56, .aload_n 0), (57, .getfield 368), (60, .iaload), (61, .putfield 321)], [(64, .aload_n 0), (65, .iconst 2), (66, .invokevirtual 341), (69, .ifCond .le 7), (72, .iconst 1), (73, .goto 4), (76, .iconst 0), (77, .ireturn)]]
def gm_c325 : List (List (Nat × Instr)) := [[(0, .aload_n 0), (1, .iconst 0), (2, .putfield 3), (5, .aload_n 0), (6, .aload_n 0), (7, .iload_n 1), (8, .invokevirtual 356), (11, .iconst 1), (12, .invokevirtual 300), (15, .ifCond .ne 61), (18, .aload_n 0), (19, .iload_n 2), (20, .invokestatic 353), (23, .ifCond .ne 18), (26, .iload_n 3), (27, .invokestatic 353), (30, .ifCond .ne 11)], [(33, .iload_n 2), (34, .aload_n 0), (35, .invokevirtual 162), (38, .if_icmp .ge 7), (41, .iconst 1), (42, .goto 4), (45, .iconst 0), (46, .iconst 2), (47, .invokevirtual 300), (50, .ifCond .ne 26), (53, .aload_n 0), (54, .iload 4), (56, .iconst 0), (57, .iconst 2), (58, .invokestatic 90), (61, .ifCond .ne 7)], [(64, .iconst 1), (65, .goto 4), (68, .iconst 0), (69, .iconst 3), (70, .invokevirtual 300), (73, .ifCond .eq 5), (76, .iconst 0), (77, .ireturn), (78, .iconst 0), (79, .istore 5), (81, .iconst (-1)), (82, .istore 6), (84, .iconst (-1)), (85, .istore 7), (87, .iconst 0), (88, .istore 8), (90, .iload 8), (92, .aload_n 0), (93, .invokevirtual 94)], [(96, .if_icmp .ge 45), (99, .aload_n 0), (100, .iload_n 1), (101, .iload 8), (103, .iload_n 2), (104, .invokevirtual 425), (107, .iload_n 3), (108, .if_icmp .eq 6), (111, .goto 24), (114, .iload 5), (116, .ifCond .ne 8), (119, .iload 8), (121, .goto 5), (124, .iload 6), (126, .istore 6)], [(128, .iload 8), (130, .istore 7), (132, .iinc 5 1), (135, .iinc 8 1), (138, .goto (-48)), (141, .iload 4), (143, .ifCond .ne 8), (146, .iload 5), (148, .goto 16), (151, .iload 4), (153, .iconst 1), (154, .if_icmp .ne 8), (157, .iload 6), (159, .goto 5)], [(162, .iload 7), (164, .ireturn)]]
def gm_c326 : List (List (Nat × Instr)) := [[(0, .aload_n 0), (1, .iload_n 1), (2, .iload_n 2), (3, .iload_n 3), (4, .iconst 0), (5, .iconst (-1)), (6, .invokevirtual 377), (9, .aload_n 0), (10, .getfield 368), (13, .ireturn)]]
def gm_c327 : List (List (Nat × Instr)) := [[(0, .aload_n 0), (1, .iconst 0), (2, .putfield 3), (5, .aload_n 0), (6, .aload_n 0), (7, .iload_n 1), (8, .invokevirtual 393), (11, .iconst 1), (12, .invokevirtual 300), (15, .ifCond .ne 15), (18, .aload_n 0), (19, .iload_n 2), (20, .invokestatic 353), (23, .iconst 2), (24, .invokevirtual 300), (27, .ifCond .eq 5), (30, .iconst 0), (31, .ireturn)], [(32, .sipush 299), (35, .istore_n 3), (36, .iload_n 3), (37, .aload_n 0), (38, .invokevirtual 162), (41, .if_icmp .lt 41), (44, .aload_n 0), (45, .aload_n 0), (46, .iload_n 1), (47, .iconst 0), (48, .invokevirtual 396), (51, .aload_n 0), (52, .iload_n 1), (53, .iconst 1), (54, .invokevirtual 396), (57, .iload_n 3), (58, .invokevirtual 425), (61, .istore 4), (63, .iload 4)], [(65, .ifCond .lt 11), (68, .iload 4), (70, .iload_n 2), (71, .if_icmp .gt 5), (74, .iload_n 3), (75, .ireturn), (76, .iinc 3 (-1)), (79, .goto (-43)), (82, .iconst (-1)), (83, .ireturn)]]
def gm_c328 : List (List (Nat × Instr)) := [[(0, .aload_n 0), (1, .iconst 0), (2, .putfield 3), (5, .aload_n 0), (6, .aload_n 0), (7, .iload_n 1), (8, .invokevirtual 356), (11, .iconst 1), (12, .invokevirtual 300), (15, .ifCond .ne 27), (18, .aload_n 0), (19, .iload_n 2), (20, .iconst 1), (21, .sipush 299), (24, .invokestatic 90), (27, .ifCond .ne 7), (30, .iconst 1), (31, .goto 4)], [(34, .iconst 0), (35, .iconst 2), (36, .invokevirtual 300), (39, .ifCond .eq 5), (42, .iconst 0), (43, .ireturn), (44, .iconst 0), (45, .istore_n 3), (46, .iload_n 3), (47, .aload_n 0), (48, .invokevirtual 94), (51, .if_icmp .ge 39), (54, .aload_n 0), (55, .iload_n 1), (56, .iload_n 3), (57, .aload_n 0), (58, .invokevirtual 162), (61, .invokevirtual 425)], [(64, .istore 4), (66, .iload 4), (68, .ifCond .lt 16), (71, .iload 4), (73, .aload_n 0), (74, .invokevirtual 162), (77, .iload_n 2), (78, .iadd), (79, .if_icmp .gt 5), (82, .iload_n 3), (83, .ireturn), (84, .iinc 3 1), (87, .goto (-41)), (90, .iconst (-1)), (91, .ireturn)]]
def gm_c329 : List (List (Nat × Instr)) := [[(0, .aload_n 0), (1, .iconst 0), (2, .putfield 3), (5, .aload_n 0), (6, .aload_n 0), (7, .iload_n 1), (8, .invokevirtual 405), (11, .ifCond .ne 19), (14, .iload_n 2), (15, .iconst 0), (16, .aload_n 0), (17, .getfield 13), (20, .iconst 5), (21, .iaload), (22, .iconst 1), (23, .isub), (24, .invokestatic 90), (27, .ifCond .ne 7), (30, .iconst 1), (31, .goto 4)], [(34, .iconst 0), (35, .iconst 1), (36, .invokevirtual 300), (39, .ifCond .eq 5), (42, .iconst 0), (43, .ireturn), (44, .aload_n 0), (45, .iload_n 1), (46, .iload_n 2), (47, .invokevirtual 381), (50, .aload_n 0), (51, .getfield 368), (54, .ireturn)]]
def gm_c330 : List (List (Nat × Instr)) := [[(0, .aload_n 0), (1, .iconst 0), (2, .putfield 3), (5, .aload_n 0), (6, .aload_n 0), (7, .iload_n 1), (8, .invokevirtual 405), (11, .iconst 1), (12, .invokevirtual 300), (15, .ifCond .eq 5), (18, .iconst 0), (19, .ireturn), (20, .aload_n 0), (21, .iload_n 1), (22, .iconst (-1)), (23, .invokevirtual 381), (26, .aload_n 0), (27, .getfield 365), (30, .ireturn)]]
def gm_c331 : List (List (Nat × Instr)) := [[(0, .aload_n 0), (1, .iconst 0), (2, .putfield 3), (5, .iconst 0), (6, .istore_n 1), (7, .iconst 0), (8, .istore_n 2), (9, .iload_n 2), (10, .aload_n 0), (11, .invokevirtual 100), (14, .if_icmp .ge 27), (17, .iload_n 1), (18, .aload_n 0), (19, .iload_n 2), (20, .invokevirtual 387), (23, .ifCond .ge 9), (26, .iconst 1), (27, .iload_n 2), (28, .ishl), (29, .goto 4)], [(32, .iconst 0), (33, .ior), (34, .istore_n 1), (35, .iinc 2 1), (38, .goto (-29)), (41, .iload_n 1), (42, .ireturn)]]
def gm_c332 : List (List (Nat × Instr)) := [[(0, .aload_n 0), (1, .iconst 0), (2, .putfield 3), (5, .aload_n 0), (6, .invokevirtual 428), (9, .iconst (-1)), (10, .istore_n 2), (11, .iconst 0), (12, .istore_n 3), (13, .iconst 0), (14, .istore 4), (16, .iload 4), (18, .sipush 300), (21, .if_icmp .ge 34), (24, .aload_n 0), (25, .iload 4), (27, .iconst (-1)), (28, .iconst 0), (29, .invokevirtual 431)], [(32, .istore 5), (34, .iload 5), (36, .iload_n 3), (37, .if_icmp .gt 6), (40, .goto 9), (43, .iload 4), (45, .istore_n 2), (46, .iload 5), (48, .istore_n 3), (49, .iinc 4 1), (52, .goto (-36)), (55, .iload_n 1), (56, .ifCond .eq 7), (59, .iload_n 3), (60, .goto 4), (63, .iload_n 2)], [(64, .ireturn)]]
def gm_c333 : List (List (Nat × Instr)) := [[(0, .iconst 0), (1, .istore_n 1), (2, .iload_n 1), (3, .aload_n 0), (4, .invokevirtual 100), (7, .if_icmp .ge 20), (10, .aload_n 0), (11, .getfield 51), (14, .iload_n 1), (15, .aload_n 0), (16, .iload_n 1), (17, .invokevirtual 387), (20, .iastore), (21, .iinc 1 1), (24, .goto (-22)), (27, .return_)]]
def gm_c334 : List (List (Nat × Instr)) := [[(0, .iconst 0), (1, .istore 4), (3, .iconst 0), (4, .istore 5), (6, .iload 5), (8, .aload_n 0), (9, .invokevirtual 100), (12, .if_icmp .ge 58), (15, .iload 4), (17, .aload_n 0), (18, .getfield 51), (21, .iload 5), (23, .iaload), (24, .iload_n 1), (25, .if_icmp .ne 35), (28, .iload_n 2), (29, .ifCond .lt 14)], [(32, .aload_n 0), (33, .iload 5), (35, .iconst 2), (36, .invokevirtual 82), (39, .iload_n 2), (40, .if_icmp .ne 20), (43, .iload_n 3), (44, .ifCond .ne 12), (47, .aload_n 0), (48, .iload 5), (50, .invokevirtual 374), (53, .ifCond .ne 7), (56, .iconst 1), (57, .goto 4), (60, .iconst 0), (61, .iadd), (62, .istore 4)], [(64, .iinc 5 1), (67, .goto (-61)), (70, .iload 4), (72, .ireturn)]]
def gm_c335 : List (List (Nat × Instr)) := [[(0, .aload_n 0), (1, .iconst 0), (2, .putfield 3), (5, .aload_n 0), (6, .aload_n 0), (7, .iload_n 1), (8, .invokevirtual 405), (11, .iconst 1), (12, .invokevirtual 300), (15, .ifCond .eq 5), (18, .iconst 0), (19, .ireturn), (20, .aload_n 0), (21, .iload_n 1), (22, .iconst (-1)), (23, .invokevirtual 381), (26, .aload_n 0), (27, .invokevirtual 438), (30, .iconst 0), (31, .istore_n 2)], [(32, .iconst 0), (33, .istore_n 3), (34, .iload_n 3), (35, .aload_n 0), (36, .invokevirtual 100), (39, .if_icmp .ge 68), (42, .iload_n 3), (43, .iload_n 1), (44, .if_icmp .eq 57), (47, .aload_n 0), (48, .iload_n 3), (49, .iconst 2), (50, .invokevirtual 82), (53, .aload_n 0), (54, .iload_n 1), (55, .iconst 2), (56, .invokevirtual 82), (59, .if_icmp .eq 6), (62, .goto 39)], [(65, .aload_n 0), (66, .iload_n 3), (67, .iconst (-1)), (68, .invokevirtual 381), (71, .iload_n 2), (72, .aload_n 0), (73, .aload_n 0), (74, .iload_n 3), (75, .iconst 3), (76, .invokevirtual 82), (79, .aload_n 0), (80, .iload_n 1), (81, .iconst 3), (82, .invokevirtual 82), (85, .invokestatic 350), (88, .invokevirtual 441), (91, .ifCond .eq 7), (94, .iconst 1), (95, .goto 4)], [(98, .iconst 0), (99, .iadd), (100, .istore_n 2), (101, .iinc 3 1), (104, .goto (-70)), (107, .iload_n 2), (108, .ireturn)]]
def gm_c336 : List (List (Nat × Instr)) := [[(0, .iconst 0), (1, .istore_n 1), (2, .iload_n 1), (3, .sipush 300), (6, .if_icmp .ge 21), (9, .aload_n 0), (10, .getfield 54), (13, .iload_n 1), (14, .aload_n 0), (15, .getfield 45), (18, .iload_n 1), (19, .iaload), (20, .iastore), (21, .iinc 1 1), (24, .goto (-22)), (27, .return_)]]
def gm_c337 : List (List (Nat × Instr)) := [[(0, .aload_n 0), (1, .iload_n 1), (2, .invokevirtual 384), (5, .ifCond .eq 26), (8, .aload_n 0), (9, .iload_n 1), (10, .invokevirtual 435), (13, .ifCond .eq 18), (16, .aload_n 0), (17, .getfield 54), (20, .iload_n 1), (21, .iaload), (22, .aload_n 0), (23, .getfield 45), (26, .iload_n 1), (27, .iaload), (28, .if_icmp .lt 5), (31, .iconst 0)], [(32, .ireturn), (33, .iload_n 1), (34, .iconst 1), (35, .iadd), (36, .istore_n 2), (37, .iload_n 2), (38, .sipush 300), (41, .if_icmp .ge 42), (44, .aload_n 0), (45, .iload_n 2), (46, .invokevirtual 384), (49, .ifCond .eq 28), (52, .aload_n 0), (53, .iload_n 2), (54, .invokevirtual 435), (57, .ifCond .eq 20), (60, .aload_n 0), (61, .getfield 54)], [(64, .iload_n 2), (65, .iaload), (66, .aload_n 0), (67, .getfield 45), (70, .iload_n 2), (71, .iaload), (72, .if_icmp .le 5), (75, .iconst 1), (76, .ireturn), (77, .iinc 2 1), (80, .goto (-43)), (83, .iconst 0), (84, .ireturn)]]
def gm_c338 : List (List (Nat × Instr)) := [[(0, .aload_n 0), (1, .getfield 54), (4, .iload_n 1), (5, .iaload), (6, .ifCond .lt 20), (9, .aload_n 0), (10, .getfield 54), (13, .iload_n 1), (14, .iaload), (15, .aload_n 0), (16, .invokevirtual 94), (19, .if_icmp .ge 7), (22, .iconst 1), (23, .goto 4), (26, .iconst 0), (27, .ireturn)]]
def gm_c339 : List (List (Nat × Instr)) := [[(0, .aload_n 0), (1, .iconst 0), (2, .putfield 3), (5, .aload_n 0), (6, .aload_n 0), (7, .iload_n 1), (8, .invokevirtual 356), (11, .iconst 1), (12, .invokevirtual 300), (15, .ifCond .ne 33), (18, .aload_n 0), (19, .iload_n 2), (20, .invokestatic 353), (23, .ifCond .ne 13), (26, .iload_n 3), (27, .iconst 0), (28, .bipush 99), (30, .invokestatic 90)], [(33, .ifCond .ne 7), (36, .iconst 1), (37, .goto 4), (40, .iconst 0), (41, .iconst 2), (42, .invokevirtual 300), (45, .ifCond .eq 5), (48, .iconst 0), (49, .ireturn), (50, .iconst 0), (51, .istore 4), (53, .iconst 0), (54, .istore 5), (56, .iload 5), (58, .aload_n 0), (59, .invokevirtual 97), (62, .if_icmp .ge 34)], [(65, .iload 4), (67, .aload_n 0), (68, .iload 5), (70, .iload_n 1), (71, .iload_n 2), (72, .iload_n 3), (73, .invokevirtual 444), (76, .ifCond .lt 10), (79, .iconst 1), (80, .iload 5), (82, .ishl), (83, .goto 4), (86, .iconst 0), (87, .ior), (88, .istore 4), (90, .iinc 5 1), (93, .goto (-37))], [(96, .iload 4), (98, .ireturn)]]
def gm_c340 : List (List (Nat × Instr)) := [[(0, .iload_n 3), (1, .iconst 1), (2, .isub), (3, .istore 5), (5, .iload 5), (7, .ifCond .lt 50), (10, .aload_n 0), (11, .iload_n 1), (12, .iconst 0), (13, .invokevirtual 396), (16, .iload_n 2), (17, .if_icmp .ne 40), (20, .aload_n 0), (21, .iload_n 2), (22, .aload_n 0), (23, .iload_n 1), (24, .iconst 1), (25, .invokevirtual 396), (28, .iload 5), (30, .invokevirtual 425)], [(33, .iload_n 3), (34, .if_icmp .ne 17), (37, .aload_n 0), (38, .getfield 48), (41, .iload_n 3), (42, .iaload), (43, .iload 4), (45, .if_icmp .ne 6), (48, .iload 5), (50, .ireturn), (51, .iinc 5 (-1)), (54, .goto (-49)), (57, .iconst (-1)), (58, .ireturn)]]
def gm_c341 : List (List (Nat × Instr)) := [[(0, .aload_n 0), (1, .iconst 0), (2, .putfield 3), (5, .aload_n 0), (6, .aload_n 0), (7, .iload_n 1), (8, .invokevirtual 393), (11, .ifCond .ne 11), (14, .aload_n 0), (15, .iload_n 2), (16, .invokevirtual 356), (19, .ifCond .eq 7), (22, .iconst 1), (23, .goto 4), (26, .iconst 0), (27, .iconst 1), (28, .invokevirtual 300), (31, .ifCond .ne 34)], [(34, .aload_n 0), (35, .iload_n 3), (36, .invokestatic 353), (39, .ifCond .ne 14), (42, .iload 4), (44, .iconst 0), (45, .bipush 99), (47, .invokestatic 90), (50, .ifCond .ne 7), (53, .iconst 1), (54, .goto 4), (57, .iconst 0), (58, .iconst 2), (59, .invokevirtual 300), (62, .ifCond .eq 5)], [(65, .iconst 0), (66, .ireturn), (67, .aload_n 0), (68, .iload_n 1), (69, .iload_n 2), (70, .iload_n 3), (71, .iload 4), (73, .invokevirtual 444), (76, .ireturn)]]
def gm_c342 : List (List (Nat × Instr)) := [[(0, .aload_n 0), (1, .iconst 0), (2, .putfield 3), (5, .aload_n 0), (6, .aload_n 0), (7, .iload_n 1), (8, .invokevirtual 448), (11, .ifCond .ne 11), (14, .aload_n 0), (15, .iload_n 2), (16, .invokevirtual 356), (19, .ifCond .eq 7), (22, .iconst 1), (23, .goto 4), (26, .iconst 0), (27, .iconst 1), (28, .invokevirtual 300), (31, .ifCond .eq 7)], [(34, .iconst 0), (35, .goto 9), (38, .aload_n 0), (39, .iload_n 1), (40, .iload_n 2), (41, .invokevirtual 451), (44, .ireturn)]]
def gm_c343 : List (List (Nat × Instr)) := [[(0, .iload_n 1), (1, .iconst 0), (2, .aload_n 0), (3, .getfield 13), (6, .bipush 6), (8, .iaload), (9, .iconst 1), (10, .isub), (11, .invokestatic 90), (14, .ifCond .ne 7), (17, .iconst 1), (18, .goto 4), (21, .iconst 0), (22, .ireturn)]]
def gm_c344 : List (List (Nat × Instr)) := [[(0, .aload_n 0), (1, .getfield 13), (4, .sipush 287), (7, .bipush 6), (9, .iload_n 1), (10, .imul), (11, .iadd), (12, .iload_n 2), (13, .iadd), (14, .iaload), (15, .ireturn)]]
def gm_c345 : List (List (Nat × Instr)) := [[(0, .aload_n 0), (1, .iconst 0), (2, .putfield 3), (5, .aload_n 0), (6, .aload_n 0), (7, .iload_n 1), (8, .invokevirtual 448), (11, .ifCond .ne 11), (14, .aload_n 0), (15, .iload_n 2), (16, .invokevirtual 448), (19, .ifCond .eq 7), (22, .iconst 1), (23, .goto 4), (26, .iconst 0), (27, .iconst 1), (28, .invokevirtual 300), (31, .ifCond .ne 17)], [(34, .aload_n 0), (35, .iload_n 1), (36, .iload_n 2), (37, .iload_n 3), (38, .invokevirtual 457), (41, .ifCond .eq 7), (44, .iconst 1), (45, .goto 4), (48, .iconst 0), (49, .ireturn)]]
def gm_c346 : List (List (Nat × Instr)) := [[(0, .iconst 0), (1, .istore 4), (3, .iconst 0), (4, .istore 5), (6, .iload 5), (8, .aload_n 0), (9, .invokevirtual 86), (12, .if_icmp .ge 47), (15, .iload 4), (17, .ifCond .ne 29), (20, .iload_n 3), (21, .iload 5), (23, .invokestatic 454), (26, .ifCond .eq 24), (29, .aload_n 0), (30, .iload_n 1), (31, .iload 5)], [(33, .invokevirtual 451), (36, .aload_n 0), (37, .iload_n 2), (38, .iload 5), (40, .invokevirtual 451), (43, .if_icmp .eq 7), (46, .iconst 1), (47, .goto 4), (50, .iconst 0), (51, .istore 4), (53, .iinc 5 1), (56, .goto (-50)), (59, .iload 4), (61, .ireturn)]]
def gm_c347 : List (List (Nat × Instr)) := [[(0, .iload_n 0), (1, .iload_n 1), (2, .ishr), (3, .iconst 1), (4, .iand), (5, .iconst 1), (6, .if_icmp .ne 7), (9, .iconst 1), (10, .goto 4), (13, .iconst 0), (14, .ireturn)]]
def gm_c348 : List (List (Nat × Instr)) := [[(0, .aload_n 0), (1, .iconst 0), (2, .putfield 3), (5, .iconst (-1)), (6, .istore_n 1), (7, .iconst 0), (8, .istore_n 2), (9, .iload_n 2), (10, .iconst 1), (11, .aload_n 0), (12, .invokevirtual 86), (15, .ishl), (16, .if_icmp .ge 99), (19, .iload_n 1), (20, .ifCond .lt 14), (23, .iload_n 2), (24, .invokestatic 460), (27, .iload_n 1), (28, .invokestatic 460), (31, .if_icmp .ge 7)], [(34, .iconst 1), (35, .goto 4), (38, .iconst 0), (39, .istore_n 3), (40, .iconst 0), (41, .istore 4), (43, .iload 4), (45, .aload_n 0), (46, .getfield 13), (49, .bipush 6), (51, .iaload), (52, .if_icmp .ge 47), (55, .iconst 0), (56, .istore 5), (58, .iload 5), (60, .iload 4), (62, .if_icmp .ge 31)], [(65, .iload_n 3), (66, .ifCond .eq 19), (69, .aload_n 0), (70, .iload 4), (72, .iload 5), (74, .iload_n 2), (75, .invokevirtual 457), (78, .ifCond .eq 7), (81, .iconst 1), (82, .goto 4), (85, .iconst 0), (86, .istore_n 3), (87, .iinc 5 1), (90, .goto (-32)), (93, .iinc 4 1)], [(96, .goto (-53)), (99, .iload_n 3), (100, .ifCond .eq 7), (103, .iload_n 2), (104, .goto 4), (107, .iload_n 1), (108, .istore_n 1), (109, .iinc 2 1), (112, .goto (-103)), (115, .iload_n 1), (116, .ireturn)]]
def gm_c349 : List (List (Nat × Instr)) := [[(0, .aload_n 0), (1, .invokevirtual 289), (4, .aload_n 0), (5, .getfield 109), (8, .iconst 2), (9, .irem), (10, .ifCond .ne 7), (13, .iconst 1), (14, .goto 4), (17, .iconst 0), (18, .istore_n 1), (19, .iconst 0), (20, .istore_n 2), (21, .iload_n 2), (22, .iconst 1), (23, .iadd), (24, .aload_n 0), (25, .getfield 109), (28, .if_icmp .ge 49), (31, .iload_n 1)], [(32, .ifCond .eq 45), (35, .aload_n 0), (36, .aload_n 0), (37, .getfield 26), (40, .iload_n 2), (41, .baload), (42, .invokevirtual 356), (45, .ifCond .ne 24), (48, .aload_n 0), (49, .getfield 26), (52, .iload_n 2), (53, .iconst 1), (54, .iadd), (55, .baload), (56, .iconst 0), (57, .bipush 20), (59, .invokestatic 90), (62, .ifCond .eq 7)], [(65, .iconst 1), (66, .goto 4), (69, .iconst 0), (70, .istore_n 1), (71, .iinc 2 2), (74, .goto (-53)), (77, .aload_n 0), (78, .iload_n 1), (79, .ifCond .ne 7), (82, .iconst 1), (83, .goto 4), (86, .iconst 0), (87, .iconst 1), (88, .invokevirtual 300), (91, .ifCond .eq 5), (94, .iconst 0), (95, .ireturn)], [(96, .iconst 1), (97, .aload_n 0), (98, .getfield 13), (101, .bipush 6), (103, .iaload), (104, .ishl), (105, .iconst 1), (106, .isub), (107, .istore_n 2), (108, .iconst 0), (109, .istore_n 3), (110, .iload_n 3), (111, .aload_n 0), (112, .getfield 13), (115, .bipush 6), (117, .iaload), (118, .if_icmp .ge 59), (121, .iconst 0), (122, .istore 4), (124, .iload 4), (126, .aload_n 0), (127, .getfield 109)], [(130, .if_icmp .ge 41), (133, .aload_n 0), (134, .iload_n 3), (135, .aload_n 0), (136, .getfield 26), (139, .iload 4), (141, .baload), (142, .invokevirtual 451), (145, .aload_n 0), (146, .getfield 26), (149, .iload 4), (151, .iconst 1), (152, .iadd), (153, .baload), (154, .if_icmp .eq 11), (157, .iload_n 2), (158, .iconst 1), (159, .iload_n 3)], [(160, .ishl), (161, .iconst (-1)), (162, .ixor), (163, .iand), (164, .istore_n 2), (165, .iinc 4 2), (168, .goto (-44)), (171, .iinc 3 1), (174, .goto (-64)), (177, .iload_n 2), (178, .ireturn)]]
def gm_c350 : List (List (Nat × Instr)) := [[(0, .aload_n 0), (1, .iconst 0), (2, .putfield 3), (5, .aload_n 0), (6, .aload_n 0), (7, .iload_n 1), (8, .invokevirtual 393), (11, .ifCond .ne 11), (14, .aload_n 0), (15, .iload_n 2), (16, .invokevirtual 393), (19, .ifCond .eq 7), (22, .iconst 1), (23, .goto 4), (26, .iconst 0), (27, .iconst 1), (28, .invokevirtual 300), (31, .ifCond .ne 21)], [(34, .aload_n 0), (35, .iload_n 1), (36, .iload_n 2), (37, .if_icmp .ne 7), (40, .iconst 1), (41, .goto 4), (44, .iconst 0), (45, .iconst 2), (46, .invokevirtual 300), (49, .ifCond .eq 5), (52, .iconst 0), (53, .ireturn), (54, .aload_n 0), (55, .iload_n 1), (56, .invokevirtual 471), (59, .aload_n 0), (60, .iload_n 2), (61, .invokevirtual 474)], [(64, .istore 4), (66, .iload 4), (68, .ifCond .lt 7), (71, .iload_n 3), (72, .ifCond .ne 8), (75, .iload 4), (77, .goto 14), (80, .aload_n 0), (81, .getfield 60), (84, .iload_n 2), (85, .iload 4), (87, .invokestatic 465), (90, .iaload), (91, .ireturn)]]
def gm_c351 : List (List (Nat × Instr)) := [[(0, .iconst 0), (1, .istore_n 2), (2, .iload_n 2), (3, .aload_n 0), (4, .getfield 57), (7, .arraylength), (8, .if_icmp .ge 34), (11, .aload_n 0), (12, .getfield 57), (15, .iload_n 2), (16, .sipush 1000), (19, .iastore), (20, .aload_n 0), (21, .getfield 60), (24, .iload_n 2), (25, .sipush 1000), (28, .iastore), (29, .aload_n 0), (30, .getfield 63)], [(33, .iload_n 2), (34, .iconst (-1)), (35, .iastore), (36, .iinc 2 1), (39, .goto (-37)), (42, .aload_n 0), (43, .getfield 57), (46, .iload_n 1), (47, .aload_n 0), (48, .invokevirtual 162), (51, .invokestatic 465), (54, .iconst 1), (55, .iastore), (56, .aload_n 0), (57, .invokevirtual 162), (60, .istore_n 2), (61, .iload_n 2), (62, .sipush 299)], [(65, .if_icmp .gt 179), (68, .iconst 0), (69, .istore_n 3), (70, .iload_n 3), (71, .aload_n 0), (72, .invokevirtual 97), (75, .if_icmp .ge 163), (78, .aload_n 0), (79, .getfield 57), (82, .iload_n 3), (83, .iload_n 2), (84, .invokestatic 465), (87, .iaload), (88, .istore 4), (90, .iload 4), (92, .sipush 1000), (95, .if_icmp .ne 6)], [(98, .goto 134), (101, .aload_n 0), (102, .aload_n 0), (103, .iload_n 3), (104, .iconst 0), (105, .invokevirtual 396), (108, .aload_n 0), (109, .iload_n 3), (110, .iconst 1), (111, .invokevirtual 396), (114, .iload_n 2), (115, .invokevirtual 425), (118, .istore 5), (120, .aload_n 0), (121, .getfield 63), (124, .iload_n 3), (125, .iload_n 2), (126, .invokestatic 465)], [(129, .iload 5), (131, .iastore), (132, .iconst 0), (133, .istore 6), (135, .iload 6), (137, .aload_n 0), (138, .invokevirtual 97), (141, .if_icmp .ge 91), (144, .iload 5), (146, .ifCond .lt 86), (149, .aload_n 0), (150, .iload 6), (152, .iload_n 3), (153, .invokevirtual 468), (156, .ifCond .ne 6), (159, .goto 67)], [(162, .aload_n 0), (163, .getfield 60), (166, .iload 6), (168, .iload 5), (170, .invokestatic 465), (173, .aload_n 0), (174, .getfield 60), (177, .iload 6), (179, .iload 5), (181, .invokestatic 465), (184, .iaload), (185, .iload 4), (187, .invokestatic 345), (190, .iastore), (191, .aload_n 0)], [(192, .getfield 57), (195, .iload 6), (197, .iload 5), (199, .iconst 1), (200, .iadd), (201, .invokestatic 465), (204, .aload_n 0), (205, .getfield 57), (208, .iload 6), (210, .iload 5), (212, .iconst 1), (213, .iadd), (214, .invokestatic 465), (217, .iaload), (218, .iload 4), (220, .iconst 1), (221, .iadd), (222, .invokestatic 345)], [(225, .iastore), (226, .iinc 6 1), (229, .goto (-94)), (232, .iinc 3 1), (235, .goto (-165)), (238, .iinc 2 1), (241, .goto (-180)), (244, .return_)]]
def gm_c352 : List (List (Nat × Instr)) := [[(0, .sipush 301), (3, .iload_n 0), (4, .imul), (5, .iload_n 1), (6, .iadd), (7, .ireturn)]]
def gm_c353 : List (List (Nat × Instr)) := [[(0, .aload_n 0), (1, .iload_n 1), (2, .iconst 2), (3, .invokevirtual 396), (6, .aload_n 0), (7, .iload_n 2), (8, .iconst 0), (9, .invokevirtual 396), (12, .if_icmp .ne 7), (15, .iconst 1), (16, .goto 4), (19, .iconst 0), (20, .ireturn)]]
def gm_c354 : List (List (Nat × Instr)) := [[(0, .iconst 0), (1, .istore_n 2), (2, .iload_n 2), (3, .sipush 300), (6, .if_icmp .ge 27), (9, .aload_n 0), (10, .getfield 60), (13, .iload_n 1), (14, .iload_n 2), (15, .invokestatic 465), (18, .iaload), (19, .sipush 1000), (22, .if_icmp .ge 5), (25, .iload_n 2), (26, .ireturn), (27, .iinc 2 1), (30, .goto (-28))], [(33, .iconst (-1)), (34, .ireturn)]]
def gm_c355 : List (List (Nat × Instr)) := [[(0, .aload_n 0), (1, .iconst 0), (2, .putfield 3), (5, .aload_n 0), (6, .aload_n 0), (7, .iload_n 1), (8, .invokevirtual 393), (11, .ifCond .ne 11), (14, .aload_n 0), (15, .iload_n 2), (16, .invokevirtual 393), (19, .ifCond .eq 7), (22, .iconst 1), (23, .goto 4), (26, .iconst 0), (27, .iconst 1), (28, .invokevirtual 300), (31, .ifCond .ne 25)], [(34, .aload_n 0), (35, .iload_n 1), (36, .iload_n 2), (37, .if_icmp .eq 7), (40, .iload_n 3), (41, .ifCond .ge 7), (44, .iconst 1), (45, .goto 4), (48, .iconst 0), (49, .iconst 2), (50, .invokevirtual 300), (53, .ifCond .eq 5), (56, .iconst 0), (57, .ireturn), (58, .aload_n 0), (59, .iload_n 1), (60, .invokevirtual 471), (63, .aload_n 0)], [(64, .iload_n 2), (65, .invokevirtual 474), (68, .istore 4), (70, .iload 4), (72, .ifCond .lt 18), (75, .iload_n 3), (76, .aload_n 0), (77, .getfield 60), (80, .iload_n 2), (81, .iload 4), (83, .invokestatic 465), (86, .iaload), (87, .if_icmp .le 5), (90, .iconst (-1)), (91, .ireturn), (92, .iload_n 2), (93, .istore 5), (95, .aload_n 0)], [(96, .getfield 60), (99, .iload_n 2), (100, .iload 4), (102, .invokestatic 465), (105, .iaload), (106, .istore 6), (108, .iload 6), (110, .iload_n 3), (111, .if_icmp .le 29), (114, .aload_n 0), (115, .iload 5), (117, .iload 4), (119, .iload 6), (121, .invokevirtual 480), (124, .istore 5), (126, .aload_n 0), (127, .getfield 477)], [(130, .iconst 1), (131, .isub), (132, .istore 4), (134, .iinc 6 (-1)), (137, .goto (-29)), (140, .iload 5), (142, .ireturn)]]
def gm_c356 : List (List (Nat × Instr)) := [[(0, .iconst 0), (1, .istore 4), (3, .iload 4), (5, .aload_n 0), (6, .invokevirtual 97), (9, .if_icmp .ge 81), (12, .aload_n 0), (13, .invokevirtual 162), (16, .istore 5), (18, .iload 5), (20, .iload_n 2), (21, .if_icmp .ge 63), (24, .aload_n 0), (25, .iload_n 1), (26, .iload 4), (28, .invokevirtual 468), (31, .ifCond .eq 47)], [(34, .aload_n 0), (35, .getfield 57), (38, .iload 4), (40, .iload 5), (42, .invokestatic 465), (45, .iaload), (46, .iload_n 3), (47, .if_icmp .ne 31), (50, .aload_n 0), (51, .getfield 63), (54, .iload 4), (56, .iload 5), (58, .invokestatic 465), (61, .iaload), (62, .iload_n 2), (63, .if_icmp .eq 6)], [(66, .goto 12), (69, .aload_n 0), (70, .iload 5), (72, .putfield 477), (75, .iload 4), (77, .ireturn), (78, .iinc 5 1), (81, .goto (-63)), (84, .iinc 4 1), (87, .goto (-84)), (90, .iconst (-1)), (91, .ireturn)]]
def gm_c357 : List (List (Nat × Instr)) := [[(0, .aload_n 0), (1, .iconst 0), (2, .putfield 3), (5, .aload_n 0), (6, .aload_n 0), (7, .iload_n 1), (8, .invokevirtual 393), (11, .iconst 1), (12, .invokevirtual 300), (15, .ifCond .ne 15), (18, .aload_n 0), (19, .iload_n 2), (20, .invokestatic 353), (23, .iconst 2), (24, .invokevirtual 300), (27, .ifCond .eq 5), (30, .iconst 0), (31, .ireturn)], [(32, .aload_n 0), (33, .iload_n 1), (34, .invokevirtual 471), (37, .iconst 1), (38, .iload_n 1), (39, .ishl), (40, .istore_n 3), (41, .iconst 0), (42, .istore 4), (44, .iload 4), (46, .aload_n 0), (47, .invokevirtual 97), (50, .if_icmp .ge 39), (53, .aload_n 0), (54, .iload 4), (56, .invokevirtual 474), (59, .istore 5), (61, .iload_n 3), (62, .iload 5)], [(64, .ifCond .lt 16), (67, .iload 5), (69, .iload_n 2), (70, .if_icmp .gt 10), (73, .iconst 1), (74, .iload 4), (76, .ishl), (77, .goto 4), (80, .iconst 0), (81, .ior), (82, .istore_n 3), (83, .iinc 4 1), (86, .goto (-42)), (89, .iload_n 3), (90, .ireturn)]]
def gm_c358 : List (List (Nat × Instr)) := [[(0, .aload_n 0), (1, .iconst 0), (2, .putfield 3), (5, .aload_n 0), (6, .iload_n 1), (7, .iconst 1), (8, .bipush 30), (10, .invokestatic 90), (13, .ifCond .ne 7), (16, .iconst 1), (17, .goto 4), (20, .iconst 0), (21, .iconst 1), (22, .invokevirtual 300), (25, .ifCond .eq 5), (28, .iconst 0), (29, .ireturn), (30, .aload_n 0), (31, .iload_n 1)], [(32, .invokevirtual 483), (35, .iconst 0), (36, .istore_n 3), (37, .iconst 1), (38, .istore 4), (40, .iload 4), (42, .aload_n 0), (43, .invokevirtual 86), (46, .if_icmp .ge 32), (49, .aload_n 0), (50, .getfield 66), (53, .iload 4), (55, .iaload), (56, .aload_n 0), (57, .getfield 66), (60, .iload_n 3), (61, .iaload), (62, .if_icmp .le 8)], [(65, .iload 4), (67, .goto 4), (70, .iload_n 3), (71, .istore_n 3), (72, .iinc 4 1), (75, .goto (-35)), (78, .iload_n 2), (79, .ifCond .eq 7), (82, .iload_n 3), (83, .goto 9), (86, .aload_n 0), (87, .getfield 66), (90, .iload_n 3), (91, .iaload), (92, .ireturn)]]
def gm_c359 : List (List (Nat × Instr)) := [[(0, .aload_n 0), (1, .invokevirtual 428), (4, .iconst 0), (5, .istore_n 2), (6, .iload_n 2), (7, .bipush 6), (9, .if_icmp .ge 16), (12, .aload_n 0), (13, .getfield 66), (16, .iload_n 2), (17, .iconst 0), (18, .iastore), (19, .iinc 2 1), (22, .goto (-16)), (25, .aload_n 0), (26, .invokevirtual 162), (29, .iload_n 1), (30, .iadd), (31, .iconst 1)], [(32, .isub), (33, .istore_n 2), (34, .iload_n 2), (35, .aload_n 0), (36, .invokevirtual 162), (39, .if_icmp .lt 145), (42, .iconst 0), (43, .istore_n 3), (44, .iload_n 3), (45, .aload_n 0), (46, .invokevirtual 86), (49, .if_icmp .ge 101), (52, .aload_n 0), (53, .getfield 66), (56, .iload_n 3), (57, .iaload), (58, .istore 4), (60, .iload_n 2), (61, .aload_n 0), (62, .invokevirtual 162)], [(65, .iload_n 1), (66, .iadd), (67, .iconst 1), (68, .isub), (69, .if_icmp .ge 22), (72, .iload_n 3), (73, .ifCond .le 18), (76, .iload 4), (78, .aload_n 0), (79, .getfield 66), (82, .iload_n 3), (83, .iconst 1), (84, .isub), (85, .iaload), (86, .invokestatic 350), (89, .istore 4), (91, .iload_n 2), (92, .aload_n 0), (93, .invokevirtual 162)], [(96, .iload_n 1), (97, .iadd), (98, .iconst 1), (99, .isub), (100, .if_icmp .ge 28), (103, .iload_n 3), (104, .iconst 1), (105, .iadd), (106, .aload_n 0), (107, .invokevirtual 86), (110, .if_icmp .ge 18), (113, .iload 4), (115, .aload_n 0), (116, .getfield 66), (119, .iload_n 3), (120, .iconst 1), (121, .iadd), (122, .iaload), (123, .invokestatic 350), (126, .istore 4)], [(128, .aload_n 0), (129, .getfield 69), (132, .iload_n 3), (133, .iload 4), (135, .aload_n 0), (136, .iload_n 2), (137, .iload_n 3), (138, .iconst 0), (139, .invokevirtual 431), (142, .iadd), (143, .iastore), (144, .iinc 3 1), (147, .goto (-103)), (150, .iconst 0), (151, .istore_n 3), (152, .iload_n 3), (153, .aload_n 0), (154, .invokevirtual 86), (157, .if_icmp .ge 21)], [(160, .aload_n 0), (161, .getfield 66), (164, .iload_n 3), (165, .aload_n 0), (166, .getfield 69), (169, .iload_n 3), (170, .iaload), (171, .iastore), (172, .iinc 3 1), (175, .goto (-23)), (178, .iinc 2 (-1)), (181, .goto (-147)), (184, .return_)]]
def gm_c360 : List (List (Nat × Instr)) := [[(0, .aload_n 0), (1, .iconst 0), (2, .putfield 3), (5, .aload_n 0), (6, .iload_n 1), (7, .iconst 1), (8, .bipush 30), (10, .invokestatic 90), (13, .ifCond .ne 7), (16, .iconst 1), (17, .goto 4), (20, .iconst 0), (21, .iconst 1), (22, .invokevirtual 300), (25, .ifCond .eq 5), (28, .iconst 0), (29, .ireturn), (30, .aload_n 0), (31, .invokevirtual 428)], [(34, .iconst 0), (35, .istore_n 3), (36, .iload_n 3), (37, .aload_n 0), (38, .invokevirtual 86), (41, .if_icmp .ge 56), (44, .aload_n 0), (45, .getfield 66), (48, .iload_n 3), (49, .iconst 0), (50, .iastore), (51, .aload_n 0), (52, .invokevirtual 162), (55, .istore 4), (57, .iload 4), (59, .aload_n 0), (60, .invokevirtual 162), (63, .iload_n 1)], [(64, .iadd), (65, .if_icmp .ge 26), (68, .aload_n 0), (69, .getfield 66), (72, .iload_n 3), (73, .dup2), (74, .iaload), (75, .aload_n 0), (76, .iload 4), (78, .iload_n 3), (79, .iconst 0), (80, .invokevirtual 431), (83, .iadd), (84, .iastore), (85, .iinc 4 1), (88, .goto (-31)), (91, .iinc 3 1), (94, .goto (-58))], [(97, .iconst (-1)), (98, .istore_n 3), (99, .iconst 0), (100, .istore 4), (102, .iconst 0), (103, .istore 5), (105, .iload 5), (107, .aload_n 0), (108, .invokevirtual 86), (111, .if_icmp .ge 77), (114, .iconst 0), (115, .istore 6), (117, .iconst 0), (118, .istore 7), (120, .iload 7), (122, .aload_n 0), (123, .invokevirtual 86), (126, .if_icmp .ge 35)], [(129, .iload 7), (131, .iload 5), (133, .if_icmp .ne 8), (136, .iload 6), (138, .goto 15), (141, .iload 6), (143, .aload_n 0), (144, .getfield 66), (147, .iload 7), (149, .iaload), (150, .invokestatic 350), (153, .istore 6), (155, .iinc 7 1), (158, .goto (-38))], [(161, .iload_n 3), (162, .ifCond .lt 13), (165, .iload 6), (167, .iload 4), (169, .if_icmp .lt 6), (172, .goto 10), (175, .iload 5), (177, .istore_n 3), (178, .iload 6), (180, .istore 4), (182, .iinc 5 1), (185, .goto (-80)), (188, .iload_n 2), (189, .ifCond .eq 8)], [(192, .iload 4), (194, .goto 4), (197, .iload_n 3), (198, .ireturn)]]
def gm_c361 : List (List (Nat × Instr)) := [[(0, .aload_n 0), (1, .iconst 0), (2, .putfield 3), (5, .aload_n 0), (6, .aload_n 0), (7, .iload_n 1), (8, .invokevirtual 405), (11, .ifCond .ne 11), (14, .aload_n 0), (15, .iload_n 2), (16, .invokevirtual 405), (19, .ifCond .eq 7), (22, .iconst 1), (23, .goto 4), (26, .iconst 0), (27, .iconst 1), (28, .invokevirtual 300), (31, .ifCond .ne 21)], [(34, .aload_n 0), (35, .iload_n 1), (36, .iload_n 2), (37, .if_icmp .ne 7), (40, .iconst 1), (41, .goto 4), (44, .iconst 0), (45, .iconst 2), (46, .invokevirtual 300), (49, .ifCond .eq 5), (52, .iconst 0), (53, .ireturn), (54, .aload_n 0), (55, .iload_n 1), (56, .iconst 2), (57, .invokevirtual 82), (60, .aload_n 0), (61, .iload_n 2), (62, .iconst 2), (63, .invokevirtual 82)], [(66, .if_icmp .eq 5), (69, .iconst (-1)), (70, .ireturn), (71, .aload_n 0), (72, .iload_n 1), (73, .iconst (-1)), (74, .invokevirtual 381), (77, .aload_n 0), (78, .invokevirtual 438), (81, .aload_n 0), (82, .iload_n 2), (83, .iconst (-1)), (84, .invokevirtual 381), (87, .aload_n 0), (88, .invokevirtual 162), (91, .istore_n 3), (92, .iload_n 3), (93, .sipush 300)], [(96, .if_icmp .ge 42), (99, .aload_n 0), (100, .iload_n 3), (101, .invokevirtual 384), (104, .ifCond .eq 28), (107, .aload_n 0), (108, .iload_n 3), (109, .invokevirtual 435), (112, .ifCond .eq 20), (115, .aload_n 0), (116, .getfield 45), (119, .iload_n 3), (120, .iaload), (121, .aload_n 0), (122, .getfield 54), (125, .iload_n 3), (126, .iaload), (127, .if_icmp .ne 5)], [(130, .iload_n 3), (131, .ireturn), (132, .iinc 3 1), (135, .goto (-43)), (138, .iconst (-1)), (139, .ireturn)]]
def gm_c362 : List (List (Nat × Instr)) := [[(0, .aload_n 0), (1, .iconst 0), (2, .putfield 3), (5, .aload_n 0), (6, .iload_n 1), (7, .invokestatic 353), (10, .iconst 1), (11, .invokevirtual 300), (14, .ifCond .eq 5), (17, .iconst 0), (18, .ireturn), (19, .aload_n 0), (20, .invokevirtual 428), (23, .aload_n 0), (24, .iload_n 1), (25, .iconst (-1)), (26, .iconst 1), (27, .invokevirtual 431), (30, .ireturn)]]
def gm_c363 : List (List (Nat × Instr)) := [[(0, .aload_n 0), (1, .iconst 0), (2, .putfield 3), (5, .aload_n 0), (6, .invokevirtual 428), (9, .iload_n 1), (10, .istore_n 2), (11, .iconst 0), (12, .istore_n 3), (13, .iload_n 3), (14, .sipush 300), (17, .if_icmp .ge 55), (20, .iload_n 1), (21, .ifCond .lt 51), (24, .iconst 0), (25, .istore 4), (27, .iload 4), (29, .aload_n 0), (30, .invokevirtual 100)], [(33, .if_icmp .ge 33), (36, .aload_n 0), (37, .getfield 51), (40, .iload 4), (42, .iaload), (43, .iload_n 3), (44, .if_icmp .eq 6), (47, .goto 13), (50, .iload_n 2), (51, .ifCond .ne 6), (54, .iload 4), (56, .ireturn), (57, .iinc 2 (-1)), (60, .iinc 4 1), (63, .goto (-36))], [(66, .iinc 3 1), (69, .goto (-56)), (72, .iconst (-1)), (73, .ireturn)]]
def gm_c364 : List (List (Nat × Instr)) := [[(0, .aload_n 0), (1, .iconst 0), (2, .putfield 3), (5, .aload_n 0), (6, .iload_n 1), (7, .invokestatic 353), (10, .iconst 1), (11, .invokevirtual 300), (14, .ifCond .eq 5), (17, .iconst 0), (18, .ireturn), (19, .aload_n 0), (20, .invokevirtual 428), (23, .iconst 0), (24, .istore_n 3), (25, .iconst 0), (26, .istore 4), (28, .iload 4), (30, .aload_n 0), (31, .invokevirtual 100)], [(34, .if_icmp .ge 64), (37, .iload_n 3), (38, .aload_n 0), (39, .getfield 51), (42, .iload 4), (44, .iaload), (45, .ifCond .lt 44), (48, .aload_n 0), (49, .getfield 51), (52, .iload 4), (54, .iaload), (55, .iload_n 1), (56, .if_icmp .gt 33), (59, .aload_n 0), (60, .iload 4), (62, .iconst 2), (63, .invokevirtual 82)], [(66, .aload_n 0), (67, .getfield 13), (70, .bipush 12), (72, .iaload), (73, .if_icmp .lt 7), (76, .iconst 1), (77, .goto 4), (80, .iconst 0), (81, .iload_n 2), (82, .if_icmp .ne 7), (85, .iconst 1), (86, .goto 4), (89, .iconst 0), (90, .iadd), (91, .istore_n 3), (92, .iinc 4 1), (95, .goto (-67))], [(98, .iload_n 3), (99, .ireturn)]]
def gm_c365 : List (List (Nat × Instr)) := [[(0, .aload_n 0), (1, .iconst 0), (2, .putfield 3), (5, .aload_n 0), (6, .aload_n 0), (7, .iload_n 1), (8, .invokevirtual 356), (11, .iconst 1), (12, .invokevirtual 300), (15, .ifCond .ne 15), (18, .aload_n 0), (19, .iload_n 2), (20, .invokestatic 353), (23, .iconst 2), (24, .invokevirtual 300), (27, .ifCond .eq 5), (30, .iconst 0), (31, .ireturn)], [(32, .aload_n 0), (33, .iload_n 1), (34, .iconst 0), (35, .iload_n 2), (36, .invokevirtual 425), (39, .istore_n 3), (40, .iload_n 3), (41, .ifCond .ge 7), (44, .iconst (-1)), (45, .goto 6), (48, .iload_n 3), (49, .iload_n 2), (50, .isub), (51, .ireturn)]]
def gm_c366 : List (List (Nat × Instr)) := [[(0, .aload_n 0), (1, .iconst 0), (2, .putfield 3), (5, .aload_n 0), (6, .aload_n 0), (7, .iload_n 1), (8, .invokevirtual 359), (11, .iconst 1), (12, .invokevirtual 300), (15, .ifCond .ne 15), (18, .aload_n 0), (19, .iload_n 2), (20, .invokestatic 353), (23, .iconst 2), (24, .invokevirtual 300), (27, .ifCond .eq 5), (30, .iconst 0), (31, .ireturn)], [(32, .iconst (-1)), (33, .istore_n 3), (34, .sipush 1000), (37, .istore 4), (39, .iconst 0), (40, .istore 5), (42, .iload 5), (44, .aload_n 0), (45, .invokevirtual 86), (48, .if_icmp .ge 41), (51, .aload_n 0), (52, .iload 5), (54, .iload_n 1), (55, .iload_n 2), (56, .invokevirtual 425), (59, .istore 6), (61, .iload 6), (63, .ifCond .lt 20)], [(66, .iload 6), (68, .iload 4), (70, .if_icmp .lt 6), (73, .goto 10), (76, .iload 5), (78, .istore_n 3), (79, .iload 6), (81, .istore 4), (83, .iinc 5 1), (86, .goto (-44)), (89, .iload_n 3), (90, .ireturn)]]
def gm_c367 : List (List (Nat × Instr)) := [[(0, .aload_n 0), (1, .iconst 0), (2, .putfield 3), (5, .aload_n 0), (6, .iload_n 1), (7, .invokestatic 353), (10, .iconst 1), (11, .invokevirtual 300), (14, .ifCond .eq 5), (17, .iconst 0), (18, .ireturn), (19, .iconst 0), (20, .istore_n 2), (21, .iconst 0), (22, .istore_n 3), (23, .iload_n 3), (24, .aload_n 0), (25, .invokevirtual 100), (28, .if_icmp .ge 34), (31, .aload_n 0)], [(32, .iload_n 3), (33, .iconst (-1)), (34, .invokevirtual 381), (37, .iload_n 2), (38, .aload_n 0), (39, .iload_n 3), (40, .iload_n 1), (41, .invokevirtual 402), (44, .ifCond .eq 9), (47, .iconst 1), (48, .iload_n 3), (49, .ishl), (50, .goto 4), (53, .iconst 0), (54, .ior), (55, .istore_n 2), (56, .iinc 3 1), (59, .goto (-36)), (62, .iload_n 2), (63, .ireturn)]]
def gm_c368 : List (List (Nat × Instr)) := [[(0, .aload_n 0), (1, .iconst 0), (2, .putfield 3), (5, .aload_n 0), (6, .iload_n 2), (7, .iconst 0), (8, .iconst 2), (9, .invokestatic 90), (12, .ifCond .ne 7), (15, .iconst 1), (16, .goto 4), (19, .iconst 0), (20, .iconst 1), (21, .invokevirtual 300), (24, .ifCond .eq 5), (27, .iconst 0), (28, .ireturn), (29, .iload_n 1), (30, .iconst 0), (31, .aload_n 0)], [(32, .getfield 13), (35, .bipush 14), (37, .iaload), (38, .iconst 1), (39, .isub), (40, .invokestatic 90), (43, .ifCond .eq 20), (46, .aload_n 0), (47, .getfield 13), (50, .sipush 323), (53, .iconst 3), (54, .iload_n 1), (55, .imul), (56, .iadd), (57, .iload_n 2), (58, .iadd), (59, .iaload), (60, .goto 4), (63, .iconst (-1))], [(64, .ireturn)]]
def gm_c369 : List (List (Nat × Instr)) := [[(0, .aload_n 0), (1, .iconst 0), (2, .putfield 3), (5, .iconst 0), (6, .istore_n 2), (7, .iload_n 1), (8, .tableswitch 174 8 17 #[56, 174, 174, 174, 174, 174, 80, 88, 122, 169])], [], [(64, .aload_n 0), (65, .getfield 13), (68, .bipush 8), (70, .iaload), (71, .iconst 1), (72, .if_icmp .ne 14), (75, .aload_n 0), (76, .getfield 13), (79, .sipush 395), (82, .iaload), (83, .goto 4), (86, .iconst (-1)), (87, .ireturn), (88, .aload_n 0), (89, .getfield 13), (92, .bipush 14), (94, .iaload), (95, .ireturn)], [(96, .iconst 0), (97, .istore_n 3), (98, .iload_n 3), (99, .aload_n 0), (100, .invokevirtual 100), (103, .if_icmp .ge 25), (106, .iload_n 2), (107, .aload_n 0), (108, .iload_n 3), (109, .invokevirtual 390), (112, .ifCond .eq 7), (115, .iconst 1), (116, .goto 4), (119, .iconst 0), (120, .iadd), (121, .istore_n 2), (122, .iinc 3 1), (125, .goto (-27))], [(128, .iload_n 2), (129, .ireturn), (130, .iconst 0), (131, .istore_n 3), (132, .iload_n 3), (133, .aload_n 0), (134, .invokevirtual 100), (137, .if_icmp .ge 38), (140, .aload_n 0), (141, .iload_n 3), (142, .invokevirtual 387), (145, .istore 4), (147, .iload_n 2), (148, .iload 4), (150, .ifCond .lt 12), (153, .iload 4), (155, .aload_n 0), (156, .invokevirtual 162), (159, .if_icmp .le 7)], [(162, .iconst 1), (163, .goto 4), (166, .iconst 0), (167, .iadd), (168, .istore_n 2), (169, .iinc 3 1), (172, .goto (-40)), (175, .iload_n 2), (176, .ireturn), (177, .aload_n 0), (178, .getfield 79), (181, .ireturn), (182, .iload_n 1), (183, .iconst 0), (184, .bipush 13), (186, .invokestatic 90), (189, .ifCond .eq 12)], [(192, .aload_n 0), (193, .getfield 13), (196, .iload_n 1), (197, .iaload), (198, .goto 4), (201, .iconst (-1)), (202, .ireturn)]]
def gm_cdl : List (List (List (Nat × Instr))) := [gm_c0, gm_c1, gm_c2, gm_c3, gm_c4, gm_c5, gm_c6, gm_c7, gm_c8, gm_c9, gm_c10, gm_c11, gm_c12, gm_c13, gm_c14, gm_c15, gm_c16, gm_c17, gm_c18, gm_c19, gm_c20, gm_c21, gm_c22, gm_c23, gm_c24, gm_c25, gm_c26, gm_c27, gm_c28, gm_c29, gm_c30, gm_c31, gm_c32, gm_c33, gm_c34, gm_c35, gm_c36, gm_c37, gm_c38, gm_c39, gm_c40, gm_c41, gm_c42, gm_c43, gm_c44, gm_c45, gm_c46, gm_c47, gm_c48, gm_c49, gm_c50, gm_c51, gm_c52, gm_c53, gm_c54, gm_c55, gm_c56, gm_c57, gm_c58, gm_c59, gm_c60, gm_c61, gm_c62, gm_c63, gm_c64, gm_c65, gm_c66, gm_c67, gm_c68, gm_c69, gm_c70, gm_c71, gm_c72, gm_c73, gm_c74, gm_c75, gm_c76, gm_c77, gm_c78, gm_c79, gm_c80, gm_c81, gm_c82, gm_c83, gm_c84, gm_c85, gm_c86, gm_c87, gm_c88, gm_c89, gm_c90, gm_c91, gm_c92, gm_c93, gm_c94, gm_c95, gm_c96, gm_c97, gm_c98, gm_c99, gm_c100, gm_c101, gm_c102, gm_c103, gm_c104, gm_c105, gm_c106, gm_c107, gm_c108, gm_c109, gm_c110, gm_c111, gm_c112, gm_c113, gm_c114, gm_c115, gm_c116, gm_c117, gm_c118, gm_c119, gm_c120, gm_c121, gm_c122, gm_c123, gm_c124, gm_c125, gm_c126, gm_c127, gm_c128, gm_c129, gm_c130, gm_c131, gm_c132, gm_c133, gm_c134, gm_c135, gm_c136, gm_c137, gm_c138, gm_c139, gm_c140, gm_c141, gm_c142, gm_c143, gm_c144, gm_c145, gm_c146, gm_c147, gm_c148, gm_c149, gm_c150, gm_c151, gm_c152, gm_c153, gm_c154, gm_c155, gm_c156, gm_c157, gm_c158, gm_c159, gm_c160, gm_c161, gm_c162, gm_c163, gm_c164, gm_c165, gm_c166, gm_c167, gm_c168, gm_c169, gm_c170, gm_c171, gm_c172, gm_c173, gm_c174, gm_c175, gm_c176, gm_c177, gm_c178, gm_c179, gm_c180, gm_c181, gm_c182, gm_c183, gm_c184, gm_c185, gm_c186, gm_c187, gm_c188, gm_c189, gm_c190, gm_c191, gm_c192, gm_c193, gm_c194, gm_c195, gm_c196, gm_c197, gm_c198, gm_c199, gm_c200, gm_c201, gm_c202, gm_c203, gm_c204, gm_c205, gm_c206, gm_c207, gm_c208, gm_c209, gm_c210, gm_c211, gm_c212, gm_c213, gm_c214, gm_c215, gm_c216, gm_c217, gm_c218, gm_c219, gm_c220, gm_c221, gm_c222, gm_c223, gm_c224, gm_c225, gm_c226, gm_c227, gm_c228, gm_c229, gm_c230, gm_c231, gm_c232, gm_c233, gm_c234, gm_c235, gm_c236, gm_c237, gm_c238, gm_c239, gm_c240, gm_c241, gm_c242, gm_c243, gm_c244, gm_c245, gm_c246, gm_c247, gm_c248, gm_c249, gm_c250, gm_c251, gm_c252, gm_c253, gm_c254, gm_c255, gm_c256, gm_c257, gm_c258, gm_c259, gm_c260, gm_c261, gm_c262, gm_c263, gm_c264, gm_c265, gm_c266, gm_c267, gm_c268, gm_c269, gm_c270, gm_c271, gm_c272, gm_c273, gm_c274, gm_c275, gm_c276, gm_c277, gm_c278, gm_c279, gm_c280, gm_c281, gm_c282, gm_c283, gm_c284, gm_c285, gm_c286, gm_c287, gm_c288, gm_c289, gm_c290, gm_c291, gm_c292, gm_c293, gm_c294, gm_c295, gm_c296, gm_c297, gm_c298, gm_c299, gm_c300, gm_c301, gm_c302, gm_c303, gm_c304, gm_c305, gm_c306, gm_c307, gm_c308, gm_c309, gm_c310, gm_c311, gm_c312, gm_c313, gm_c314, gm_c315, gm_c316, gm_c317, gm_c318, gm_c319, gm_c320, gm_c321, gm_c322, gm_c323, gm_c324, gm_c325, gm_c326, gm_c327, gm_c328, gm_c329, gm_c330, gm_c331, gm_c332, gm_c333, gm_c334, gm_c335, gm_c336, gm_c337, gm_c338, gm_c339, gm_c340, gm_c341, gm_c342, gm_c343, gm_c344, gm_c345, gm_c346, gm_c347, gm_c348, gm_c349, gm_c350, gm_c351, gm_c352, gm_c353, gm_c354, gm_c355, gm_c356, gm_c357, gm_c358, gm_c359, gm_c360, gm_c361, gm_c362, gm_c363, gm_c364, gm_c365, gm_c366, gm_c367, gm_c368, gm_c369]
def gm_cd (mi : Nat) : List (List (Nat × Instr)) := (gm_cdl[mi]?).getD []
def gm_at (mi pc : Nat) : Option Instr := (((gm_cd mi)[pc / 32]?).getD []).lookup pc
def gm_ck1 (b : ByteArray) (q : Nat × Instr) : Bool := match decode b q.1 with | .ok x => decide (x.1 = q.2) && (gm_sw q.2 || decide (x.2 = gm_len q.2)) | .error _ => false
def gm_ckm (b : ByteArray) (l : List (List (Nat × Instr))) : Bool := l.all fun r => r.all (gm_ck1 b)
theorem gm_ka0 : ((List.range 40).drop 0).all (fun mi => gm_ckm (gm_bc mi) (gm_cd mi)) = true := by decide +kernel
theorem gm_ka40 : ((List.range 80).drop 40).all (fun mi => gm_ckm (gm_bc mi) (gm_cd mi)) = true := by decide +kernel
theorem gm_ka80 : ((List.range 120).drop 80).all (fun mi => gm_ckm (gm_bc mi) (gm_cd mi)) = true := by decide +kernel
theorem gm_ka120 : ((List.range 160).drop 120).all (fun mi => gm_ckm (gm_bc mi) (gm_cd mi)) = true := by decide +kernel
theorem gm_ka160 : ((List.range 200).drop 160).all (fun mi => gm_ckm (gm_bc mi) (gm_cd mi)) = true := by decide +kernel
theorem gm_ka200 : ((List.range 240).drop 200).all (fun mi => gm_ckm (gm_bc mi) (gm_cd mi)) = true := by decide +kernel
theorem gm_ka240 : ((List.range 280).drop 240).all (fun mi => gm_ckm (gm_bc mi) (gm_cd mi)) = true := by decide +kernel
theorem gm_ka280 : ((List.range 320).drop 280).all (fun mi => gm_ckm (gm_bc mi) (gm_cd mi)) = true := by decide +kernel
theorem gm_ka320 : ((List.range 360).drop 320).all (fun mi => gm_ckm (gm_bc mi) (gm_cd mi)) = true := by decide +kernel
theorem gm_ka360 : ((List.range 370).drop 360).all (fun mi => gm_ckm (gm_bc mi) (gm_cd mi)) = true := by decide +kernel
theorem gm_ka_all {mi : Nat} (h : mi < 370) : gm_ckm (gm_bc mi) (gm_cd mi) = true := by
  have key : ∀ a z : Nat, ((List.range z).drop a).all (fun mi => gm_ckm (gm_bc mi) (gm_cd mi)) = true → a ≤ mi → mi < z → gm_ckm (gm_bc mi) (gm_cd mi) = true := by
    intro a z h1 h2 h3
    refine List.all_eq_true.mp h1 mi ?_
    refine List.mem_iff_getElem?.mpr ⟨mi - a, ?_⟩
    rw [List.getElem?_drop, List.getElem?_range (by omega)]
    congr 1; omega
  rcases Nat.lt_or_ge mi 40 with h40 | h40
  · exact key 0 40 gm_ka0 (by omega) (by omega)
  rcases Nat.lt_or_ge mi 80 with h80 | h80
  · exact key 40 80 gm_ka40 (by omega) (by omega)
  rcases Nat.lt_or_ge mi 120 with h120 | h120
  · exact key 80 120 gm_ka80 (by omega) (by omega)
  rcases Nat.lt_or_ge mi 160 with h160 | h160
  · exact key 120 160 gm_ka120 (by omega) (by omega)
  rcases Nat.lt_or_ge mi 200 with h200 | h200
  · exact key 160 200 gm_ka160 (by omega) (by omega)
  rcases Nat.lt_or_ge mi 240 with h240 | h240
  · exact key 200 240 gm_ka200 (by omega) (by omega)
  rcases Nat.lt_or_ge mi 280 with h280 | h280
  · exact key 240 280 gm_ka240 (by omega) (by omega)
  rcases Nat.lt_or_ge mi 320 with h320 | h320
  · exact key 280 320 gm_ka280 (by omega) (by omega)
  rcases Nat.lt_or_ge mi 360 with h360 | h360
  · exact key 320 360 gm_ka320 (by omega) (by omega)
  exact key 360 370 gm_ka360 (by omega) (by omega)
end
section
/-- String constants: class, place in its pool, text, number; lengths; bytes -/
def gm_sr_ : List (String × Nat × String × Nat) := [("GlacierMail$LawReader", 82, "fast", 0), ("GlacierMail$LawReader", 87, "slow", 1), ("GlacierMail$LawReader", 89, "open", 2), ("GlacierMail$LawReader", 65, "if", 3), ("GlacierMail$LawReader", 100, "not", 4), ("GlacierMail$LawReader", 109, "side", 5), ("GlacierMail$LawReader", 111, "first", 6), ("GlacierMail$LawReader", 122, "lane", 7), ("GlacierMail$LawReader", 124, "row", 8), ("GlacierMail$LawReader", 126, "year", 9), ("GlacierMail$LawReader", 128, "heat", 10), ("GlacierMail$LawReader", 130, "speed", 11), ("GlacierMail$LawReader", 132, "person", 12), ("GlacierMail$LawReader", 134, "age", 13), ("GlacierMail$LawReader", 136, "deep", 14), ("GlacierMail$LawReader", 96, "and", 15), ("GlacierMail$LawReader", 98, "or", 16), ("GlacierMail$ValleyReader", 19, "lanes", 17), ("GlacierMail$ValleyReader", 31, "last", 18), ("GlacierMail$ValleyReader", 36, "section", 19), ("GlacierMail$ValleyReader", 41, "snow", 20), ("GlacierMail$ValleyReader", 131, "fall", 21), ("GlacierMail$ValleyReader", 46, "stripe", 22), ("GlacierMail$ValleyReader", 51, "seed", 23), ("GlacierMail$ValleyReader", 56, "flood", 24), ("GlacierMail$ValleyReader", 61, "person", 25), ("GlacierMail$ValleyReader", 152, "watch", 26), ("GlacierMail$ValleyReader", 66, "rock", 27), ("GlacierMail$ValleyReader", 71, "table", 28), ("GlacierMail", 123, "the text of the valley is wrong", 29), ("GlacierMail", 133, "there are twelve texts", 30), ("GlacierMail", 140, "the text of the law is wrong", 31), ("GlacierMail", 458, "that year is none", 32), ("GlacierMail", 455, "there is no such one", 33), ("GlacierMail", 197, "a person has no such thing", 34), ("GlacierMail", 215, "a letter has no such thing", 35), ("GlacierMail", 462, "both are one", 36), ("GlacierMail", 241, "there are twenty-four letters", 37), ("GlacierMail", 263, "it does not wait", 38), ("GlacierMail", 272, "there are not so many years", 39), ("GlacierMail", 287, "that year has gone by", 40), ("GlacierMail", 289, "throws have no such thing", 41), ("GlacierMail", 301, "so many years are none", 42), ("GlacierMail", 460, "nothing lies so deep", 43), ("GlacierMail", 365, "the tape holds no readings", 44), ("GlacierMail", 379, "no throw is below the first", 45), ("GlacierMail", 414, "an opening has no such thing", 46), ("GlacierMailModel", 181, "lanes", 47), ("GlacierMailModel", 185, "last", 48), ("GlacierMailModel", 190, "section", 49), ("GlacierMailModel", 195, "snow", 50), ("GlacierMailModel", 156, "fall", 51), ("GlacierMailModel", 200, "flood", 52), ("GlacierMailModel", 205, "person", 53), ("GlacierMailModel", 168, "watch", 54), ("GlacierMailModel", 210, "rock", 55), ("GlacierMailModel", 215, "table", 56), ("GlacierMailModel", 220, "stripe", 57), ("GlacierMailModel", 222, "seed", 58), ("GlacierMailModel", 275, "fast", 59), ("GlacierMailModel", 277, "slow", 60), ("GlacierMailModel", 279, "open", 61), ("GlacierMailModel", 281, "if", 62), ("GlacierMailModel", 256, "not", 63), ("GlacierMailModel", 261, "side", 64), ("GlacierMailModel", 263, "first", 65), ("GlacierMailModel", 231, "lane", 66), ("GlacierMailModel", 233, "row", 67), ("GlacierMailModel", 235, "year", 68), ("GlacierMailModel", 237, "heat", 69), ("GlacierMailModel", 239, "speed", 70), ("GlacierMailModel", 241, "age", 71), ("GlacierMailModel", 243, "deep", 72), ("GlacierMailModel", 268, "and", 73), ("GlacierMailModel", 273, "or", 74)]
def gm_sl : List Nat := [4, 4, 4, 2, 3, 4, 5, 4, 3, 4, 4, 5, 6, 3, 4, 3, 2, 5, 4, 7, 4, 4, 6, 4, 5, 6, 5, 4, 5, 31, 22, 28, 17, 20, 26, 26, 12, 29, 16, 27, 21, 25, 22, 20, 26, 27, 28, 5, 4, 7, 4, 4, 5, 6, 5, 4, 5, 6, 4, 4, 4, 4, 2, 3, 4, 5, 4, 3, 4, 4, 5, 3, 4, 3, 2]
def gm_sb : List (List Int32) := [[102, 97, 115, 116], [115, 108, 111, 119], [111, 112, 101, 110], [105, 102], [110, 111, 116], [115, 105, 100, 101], [102, 105, 114, 115, 116], [108, 97, 110, 101], [114, 111, 119], [121, 101, 97, 114], [104, 101, 97, 116], [115, 112, 101, 101, 100], [112, 101, 114, 115, 111, 110], [97, 103, 101], [100, 101, 101, 112], [97, 110, 100], [111, 114], [108, 97, 110, 101, 115], [108, 97, 115, 116], [115, 101, 99, 116, 105, 111, 110], [115, 110, 111, 119], [102, 97, 108, 108], [115, 116, 114, 105, 112, 101], [115, 101, 101, 100], [102, 108, 111, 111, 100], [112, 101, 114, 115, 111, 110], [119, 97, 116, 99, 104], [114, 111, 99, 107], [116, 97, 98, 108, 101], [116, 104, 101, 32, 116, 101, 120, 116, 32, 111, 102, 32, 116, 104, 101, 32, 118, 97, 108, 108, 101, 121, 32, 105, 115, 32, 119, 114, 111, 110, 103], [116, 104, 101, 114, 101, 32, 97, 114, 101, 32, 116, 119, 101, 108, 118, 101, 32, 116, 101, 120, 116, 115], [116, 104, 101, 32, 116, 101, 120, 116, 32, 111, 102, 32, 116, 104, 101, 32, 108, 97, 119, 32, 105, 115, 32, 119, 114, 111, 110, 103], [116, 104, 97, 116, 32, 121, 101, 97, 114, 32, 105, 115, 32, 110, 111, 110, 101], [116, 104, 101, 114, 101, 32, 105, 115, 32, 110, 111, 32, 115, 117, 99, 104, 32, 111, 110, 101], [97, 32, 112, 101, 114, 115, 111, 110, 32, 104, 97, 115, 32, 110, 111, 32, 115, 117, 99, 104, 32, 116, 104, 105, 110, 103], [97, 32, 108, 101, 116, 116, 101, 114, 32, 104, 97, 115, 32, 110, 111, 32, 115, 117, 99, 104, 32, 116, 104, 105, 110, 103], [98, 111, 116, 104, 32, 97, 114, 101, 32, 111, 110, 101], [116, 104, 101, 114, 101, 32, 97, 114, 101, 32, 116, 119, 101, 110, 116, 121, 45, 102, 111, 117, 114, 32, 108, 101, 116, 116, 101, 114, 115], [105, 116, 32, 100, 111, 101, 115, 32, 110, 111, 116, 32, 119, 97, 105, 116], [116, 104, 101, 114, 101, 32, 97, 114, 101, 32, 110, 111, 116, 32, 115, 111, 32, 109, 97, 110, 121, 32, 121, 101, 97, 114, 115], [116, 104, 97, 116, 32, 121, 101, 97, 114, 32, 104, 97, 115, 32, 103, 111, 110, 101, 32, 98, 121], [116, 104, 114, 111, 119, 115, 32, 104, 97, 118, 101, 32, 110, 111, 32, 115, 117, 99, 104, 32, 116, 104, 105, 110, 103], [115, 111, 32, 109, 97, 110, 121, 32, 121, 101, 97, 114, 115, 32, 97, 114, 101, 32, 110, 111, 110, 101], [110, 111, 116, 104, 105, 110, 103, 32, 108, 105, 101, 115, 32, 115, 111, 32, 100, 101, 101, 112], [116, 104, 101, 32, 116, 97, 112, 101, 32, 104, 111, 108, 100, 115, 32, 110, 111, 32, 114, 101, 97, 100, 105, 110, 103, 115], [110, 111, 32, 116, 104, 114, 111, 119, 32, 105, 115, 32, 98, 101, 108, 111, 119, 32, 116, 104, 101, 32, 102, 105, 114, 115, 116], [97, 110, 32, 111, 112, 101, 110, 105, 110, 103, 32, 104, 97, 115, 32, 110, 111, 32, 115, 117, 99, 104, 32, 116, 104, 105, 110, 103], [108, 97, 110, 101, 115], [108, 97, 115, 116], [115, 101, 99, 116, 105, 111, 110], [115, 110, 111, 119], [102, 97, 108, 108], [102, 108, 111, 111, 100], [112, 101, 114, 115, 111, 110], [119, 97, 116, 99, 104], [114, 111, 99, 107], [116, 97, 98, 108, 101], [115, 116, 114, 105, 112, 101], [115, 101, 101, 100], [102, 97, 115, 116], [115, 108, 111, 119], [111, 112, 101, 110], [105, 102], [110, 111, 116], [115, 105, 100, 101], [102, 105, 114, 115, 116], [108, 97, 110, 101], [114, 111, 119], [121, 101, 97, 114], [104, 101, 97, 116], [115, 112, 101, 101, 100], [97, 103, 101], [100, 101, 101, 112], [97, 110, 100], [111, 114]]
end
section
/-! ===== BEGIN words of one list among another's, by their places ===== -/
theorem goodIn_r {big : List Cond} (ws : List Cond) (ps : List Nat) (hp : ws = ps.filterMap (fun i => big[i]?)) (h : ws.all goodWord = true) : GoodIn big ws := by
  intro w hw
  have h1 := List.all_eq_true.mp h w hw
  rw [hp] at hw
  obtain ⟨i, -, hi⟩ := List.mem_filterMap.mp hw
  have hm : w ∈ big := by first | exact List.mem_of_getElem? hi | exact List.getElem?_mem hi
  exact ⟨hm, good_of_word h1⟩
theorem goodIn_app {big a b : List Cond} (ha : GoodIn big a) (hb : GoodIn big b) : GoodIn big (a ++ b) := fun w h => (List.mem_append.mp h).elim (ha w) (hb w)
theorem goodIn_ca {big a b : List Cond} {c : Cond} (ha : GoodIn big (c :: a)) (hb : GoodIn big b) : GoodIn big (c :: (a ++ b)) := fun w h => (List.mem_cons.mp h).elim (fun e => ha w (List.mem_cons.mpr (Or.inl e))) (fun h => (List.mem_append.mp h).elim (fun h => ha w (List.mem_cons.mpr (Or.inr h))) (hb w))
theorem goodIn_sub {big ws : List Cond} (hm : ∀ w ∈ ws, w ∈ big) (h : ws.all goodWord = true) : GoodIn big ws := fun w hw => ⟨hm w hw, good_of_word (List.all_eq_true.mp h w hw)⟩
/-! ===== END ===== -/
/-! ===== BEGIN exceptions that leave a method, and their catching by the caller (launches without stack traces) ===== -/
section VXA
/-! The laws vx_back, vx_callV, vx_callS, vx_callSW, vx_throw0, vx_throwS follow proofs of the library, with one case more: JvmDerived/Free/Laws.lean (Back.of_free), Shelf42/LK1.lean (callV, callS), Shelf/KitTraced.lean (throwNew0V, throwNewS). -/
/-- where a method has thrown q: the class by its name, the cell, what was written, the world -/
def vx_T (XC : String → State → State → Prop) (st : State) (q : Addr) (t : State) (mc ms : Nat) (free : Addr → Prop) : Prop :=
  ∃ (E : String) (ce : Cell) (L : List Loc), XC E st t ∧ t.heap[q]? = some ce ∧ ce.vm = .none ∧ st.vm.findClass E = some ce.cls ∧ st.WarmedH t.vm ∧ st.sameButNew ({ t with vm := st.vm } : State) L mc ms ∧ ∀ z ∈ L, free z.base
def vx_Q (Qc : Array Value → State → Outcome → State → Prop) (XC : String → State → State → Prop) (mc ms : Nat) (free : Addr → Prop) : Array Value → State → Outcome → State → Prop := fun a st o t =>
  (Qc a st o t ∧ ∃ L, FrameEnd st o t L mc ms ∧ ∀ q ∈ L, free q.base) ∨ ∃ q, o = .threw q ∧ vx_T XC st q t mc ms free
/-- a callee that returns or throws -/
def vx_Met (l : Launch) (y : MethodName) (ws : List Cond) (rm : Room) (Pc : Array Value → State → Prop) (Qc : Array Value → State → Outcome → State → Prop) (XC : String → State → State → Prop) (mc ms : Nat) (free : Addr → Prop) : Prop :=
  MetFree l y (headSpec ws rm) Pc (fun _ _ _ _ _ => True) (vx_Q Qc XC mc ms free)
def vx_Post (XC : String → State → State → Prop) (mc ms : Nat) (free : Addr → Prop) : Pt → Array Value → Addr → Pt → Prop := fun A a q B =>
  ∃ (g : JFrame) (mk : MethodId) (t : State) (L : List Loc) (E : String) (ce : Cell), B.U.heap = t.heap ∧ B.U.vm = t.vm ∧ XC E (A.U.calling g mk a) t ∧ t.heap[q]? = some ce ∧ ce.vm = .none ∧ A.U.vm.findClass E = some ce.cls ∧ B.locs = A.locs ++ L ∧ (∀ z ∈ L, free z.base) ∧ B.cells = A.cells + mc ∧ B.slots = A.slots + ms
def vx_Back (l : Launch) (R : Room) (p : Program) (e : Env) (below : List Frame) (s : State) (sargs : Array Value) (y : MethodName) (len W9 : Nat)
    (Pre : Pt → Array Value → Prop) (Post : Pt → Array Value → Option Value → Pt → Prop) (PostX : Pt → Array Value → Addr → Pt → Prop) : Prop :=
  ∀ (m : MethodId) (meth : Method) (c : Code) (A : Pt) (g : JFrame) (ig : Instr) (mk : MethodId) (a : Array Value),
    Stand p l e R s m sargs below meth c A.U A.locs A.cells A.slots → g.method = m → g.locals.size = c.maxLocals → decode c.code g.pc = .ok (ig, len) →
    2 * g.monitorRoom + (g.stack.map fun v => v.category).sum ≤ W9 → A.U.methodNamed? y = some mk → Pre A a →
    (∃ (v : Option Value) (B : Pt), Stand p l e R s m sargs below meth c B.U B.locs B.cells B.slots ∧ Post A a v B ∧
      Steps p.tables e below (doInvoke e (A.U.setTop g) [] mk a).1 (B.U.setTop { g with pc := g.pc + len, stack := v.toList ++ g.stack })) ∨
    (∃ (q : Addr) (B : Pt), Stand p l e R s m sargs below meth c B.U B.locs B.cells B.slots ∧ PostX A a q B ∧
      Steps p.tables e below (doInvoke e (A.U.setTop g) [] mk a).1 ((B.U.setTop g).pushFrame (.throwing q)))
section Payer
variable {l : Launch} {R : Room} {p : Program} {e : Env} {below : List Frame} {s : State} {sargs : Array Value} {y : MethodName} {len W9 : Nat}
theorem vx_back {ws : List Cond} {rm : Room} {Pc : Array Value → State → Prop} {Qc : Array Value → State → Outcome → State → Prop} {XC : String → State → State → Prop} {mc ms : Nat} {free : Addr → Prop} {bytes : ByteArray} {maxL : Nat} {ret : Option FieldType}
    (hM : vx_Met l y ws rm Pc Qc XC mc ms free) (hblind : FrameBlind Pc) (hrc : rm.cells = mc) (hrs : rm.slots = ms)
    (hframes : rm.frames + 1 ≤ R.frames) (hlocals : W9 + (maxL + 11) + rm.locals ≤ R.locals)
    (hws : ∀ w ∈ ws, ∀ a' U, s.WarmedH U.vm → w.before a' U = true) (hcode : Cond.code y bytes maxL ret ∈ ws) (hinit : ∀ a' U, s.WarmedH U.vm → (Cond.initialized y.cls).before a' U = true) :
    vx_Back l R p e below s sargs y len W9 (PreOf R mc ms Pc) (PostOf Qc mc ms free) (vx_Post XC mc ms free) := by
  intro m meth c A g ig mk a X hg hsize hdg hW hn hp
  have h1 : (headSpec ws rm).pre.before a A.U = true := atoms_intro fun w hw => hws w hw _ _ X.warmed
  have h2 : (Cond.code y bytes maxL ret).before a A.U = true := hws _ hcode _ _ X.warmed
  have h3 : (Cond.initialized y.cls).before a A.U = true := hinit _ _ X.warmed
  have h4 : A.cells + (headSpec ws rm).room.cells ≤ R.cells := by rw [show (headSpec ws rm).room.cells = mc from hrc]; exact hp.1
  have h5 : A.slots + (headSpec ws rm).room.slots ≤ R.slots := by rw [show (headSpec ws rm).room.slots = ms from hrs]; exact hp.2.1
  have hPc : Pc a (A.U.calling g mk a) := hblind _ _ _ _ hp.2.2
  obtain ⟨U, Ls, c0, s0⟩ := A
  dsimp only [Pt.U, Pt.locs, Pt.cells, Pt.slots] at h1 h2 h3 h4 h5 X hn hPc ⊢
  obtain ⟨methY, cY, hmY, hcY, -, hlY, -, -, -, -⟩ := Cond.code_spec hn h2
  obtain ⟨kY, hkY, -⟩ := className_of_methodNamed hn
  have hinitY : kY.init = .initialized := Cond.initialized_spec (findClass_of_methodNamed hn) hkY h3
  have h : At U g.method c below := by rw [hg]; exact X.here
  have hlocals9 : W9 + (maxL + 11) + (headSpec ws rm).room.locals ≤ R.locals := hlocals
  have happ : (headSpec ws rm).appliesLoose y e.platform (U.calling g mk a) = true :=
    Spec.appliesLoose_calling (g := g) h hdg hn hkY hinitY
      (X.room_calling (g := g) (R' := (headSpec ws rm).room) hsize hmY hcY hframes (by rw [hlY]; omega) h4 h5) h1
  obtain ⟨mid, hmid⟩ := h.above
  have hfr : (U.setTop g).frames = (.java g :: mid) ++ below := by rw [State.frames_setTop' g h.top, hmid]; rfl
  obtain ⟨o, s₂, hsteps, -, hend, hq⟩ := Steps.callFree hM p X.admits X.cas X.clock (acts := []) hfr happ hPc trivial
  have hq' : vx_Q Qc XC mc ms free a (U.calling g mk a) o s₂ := hq
  rw [State.frames_setTop' g h.top] at hend
  obtain ⟨g₀, hg0⟩ := Option.isSome_iff_exists.mp h.top
  obtain ⟨r, hr⟩ := State.topJava?_eq_some.mp hg0
  have hr' : (({ U with heap := s₂.heap, slotsUsed := s₂.slotsUsed } : State).setVm s₂.vm).frames = .java g₀ :: r := hr
  rcases hq' with ⟨hqc, L, hfe, hL⟩ | ⟨q, rfl, E, ce, L, hx, hce, hcv, hcl, hW₂, hsm, hL⟩
  · obtain ⟨⟨v, rfl⟩, hW₂, e2, q2, q3, q4, q5, q6⟩ := id hfe
    have e3 : s₂ = ({ (U.calling g mk a).setFrames s₂.frames with heap := s₂.heap, slotsUsed := s₂.slotsUsed } : State).setVm s₂.vm := by
      have : s₂ = ({ s₂ with vm := (U.calling g mk a).vm } : State).setVm s₂.vm := rfl
      rw [e2] at this
      exact this
    obtain ⟨c₂, i₂, len₂, hc₂, hd₂, hf₂⟩ := hend
    have hW' : U.WarmedH s₂.vm := hW₂
    have hcc : c₂ = c := by
      have h1 : s₂.code? g.method = U.code? g.method := by
        rw [State.code?_eq, State.code?_eq, hW'.alike.method?]
      exact Option.some.inj (hc₂.symm.trans (h1.trans h.code))
    subst hcc
    have hlen : len₂ = len := by rw [hdg] at hd₂; cases hd₂; rfl
    subst hlen
    have hs₂ : s₂ = (({ U with heap := s₂.heap, slotsUsed := s₂.slotsUsed } : State).setVm s₂.vm).setTop { g with pc := g.pc + len₂, stack := v.toList ++ g.stack } := by
      refine e3.trans ?_
      rw [hf₂, State.calling_eq h.top, State.setFrames_setFrames, State.setTop_of_frames _ hr', hr]
      rfl
    have hsame : U.sameButNew ({ U with heap := s₂.heap, slotsUsed := s₂.slotsUsed } : State) L mc ms := by
      refine ⟨?_, q2, q3, q4, q5, q6⟩
      obtain ⟨t, ht, -⟩ := State.frames_cons hr
      show ({ U with heap := s₂.heap, slotsUsed := s₂.slotsUsed } : State) = { U.setFrames U.frames with heap := s₂.heap, slotsUsed := s₂.slotsUsed }
      rw [State.setFrames_self ht]
    subst hg
    refine Or.inl ⟨v, ⟨(({ U with heap := s₂.heap, slotsUsed := s₂.slotsUsed } : State).setVm s₂.vm), Ls ++ L, c0 + mc, s0 + ms⟩,
      ⟨X.admits, X.cas, X.clock, X.frames, X.room, X.hears, X.method, X.code, (X.here.setHeapUsed s₂.heap s₂.slotsUsed).setVm hW'.alike, X.tail, State.WarmedH.trans X.warmed hW', X.limits, X.bytes, X.same.trans (hsame.setVm s.vm)⟩,
      ⟨g, mk, s₂, L, rfl, rfl, hqc, rfl, hL, rfl, rfl⟩, ?_⟩
    show Steps p.tables e below _ ((({ U with heap := s₂.heap, slotsUsed := s₂.slotsUsed } : State).setVm s₂.vm).setTop { g with pc := g.pc + len₂, stack := v.toList ++ g.stack })
    rw [← hs₂]
    exact hsteps
  · obtain ⟨e2, q2, q3, q4, q5, q6⟩ := id hsm
    have e3 : s₂ = ({ (U.calling g mk a).setFrames s₂.frames with heap := s₂.heap, slotsUsed := s₂.slotsUsed } : State).setVm s₂.vm := by
      have : s₂ = ({ s₂ with vm := (U.calling g mk a).vm } : State).setVm s₂.vm := rfl
      rw [e2] at this
      exact this
    have hf₂ : s₂.frames = .throwing q :: .java g :: U.frames.tail := hend
    have hW' : U.WarmedH s₂.vm := hW₂
    have hs₂ : s₂ = ((({ U with heap := s₂.heap, slotsUsed := s₂.slotsUsed } : State).setVm s₂.vm).setTop g).pushFrame (.throwing q) := by
      refine e3.trans ?_
      rw [hf₂, State.calling_eq h.top, State.setFrames_setFrames, State.pushFrame, State.frames_setTop _ hr', State.setTop_of_frames _ hr', State.setFrames_setFrames, hr]
      rfl
    have hsame : U.sameButNew ({ U with heap := s₂.heap, slotsUsed := s₂.slotsUsed } : State) L mc ms := by
      refine ⟨?_, q2, q3, q4, q5, q6⟩
      obtain ⟨t, ht, -⟩ := State.frames_cons hr
      show ({ U with heap := s₂.heap, slotsUsed := s₂.slotsUsed } : State) = { U.setFrames U.frames with heap := s₂.heap, slotsUsed := s₂.slotsUsed }
      rw [State.setFrames_self ht]
    subst hg
    refine Or.inr ⟨q, ⟨(({ U with heap := s₂.heap, slotsUsed := s₂.slotsUsed } : State).setVm s₂.vm), Ls ++ L, c0 + mc, s0 + ms⟩,
      ⟨X.admits, X.cas, X.clock, X.frames, X.room, X.hears, X.method, X.code, (X.here.setHeapUsed s₂.heap s₂.slotsUsed).setVm hW'.alike, X.tail, State.WarmedH.trans X.warmed hW', X.limits, X.bytes, X.same.trans (hsame.setVm s.vm)⟩,
      ⟨g, mk, s₂, L, E, ce, rfl, rfl, hx, hce, hcv, hcl, rfl, hL, rfl, rfl⟩, ?_⟩
    show Steps p.tables e below _ (((({ U with heap := s₂.heap, slotsUsed := s₂.slotsUsed } : State).setVm s₂.vm).setTop g).pushFrame (.throwing q))
    rw [← hs₂]
    exact hsteps
end Payer
section Calls
variable {p : Program} {l : Launch} {e : Env} {R : Room} {s : State} {m : MethodId} {args : Array Value} {below : List Frame} {meth : Method} {c : Code} {T : State} {locs : List Loc} {cells slots : Nat}
theorem vx_callV (X : Stand p l e R s m args below meth c T locs cells slots) (hexec : p.tables.exec = Jvm.exec) {own C : String} {index : Nat} {y : MethodName} {bytes : ByteArray} {maxL : Nat} {ret : Option FieldType}
    (hown : s.vm.findClass own = some m.cls) (hlink : (Cond.methodLink own index y).before args s = true) (hinst : (Cond.instanceMethod y).before args s = true) (hsel : (Cond.selects C y y).before args s = true)
    (hcode : (Cond.code y bytes maxL ret).before args s = true) (hy : y.cls ≠ "java/lang/invoke/MethodHandle" ∧ y.cls ≠ "java/lang/invoke/VarHandle")
    {W9 : Nat} {Pre : Pt → Array Value → Prop} {Post : Pt → Array Value → Option Value → Pt → Prop} {PostX : Pt → Array Value → Addr → Pt → Prop} (hK : vx_Back l R p e below s args y 3 W9 Pre Post PostX)
    {b : Addr} {cellB : Cell} (hcell : T.heap[b]? = some cellB) (hobj : cellB.vm.isStatics = false) (hcls : s.vm.findClass C = some cellB.cls)
    {g : JFrame} (hg : g.method = m) (hsize : g.locals.size = c.maxLocals) {argsL rest : List Value} (hlen : ∀ sig, parseMethodDescriptor y.desc = some sig → argsL.length = sig.parameters.length)
    (hstack : g.stack = argsL.reverse ++ .ref b :: rest) (hW : 2 * g.monitorRoom + (rest.map fun v => v.category).sum ≤ W9) (hdg : decode c.code g.pc = .ok (.invokevirtual index, 3))
    (hpre : ∀ vm₁, s.WarmedH vm₁ → Pre ⟨T.setVm vm₁, locs, cells, slots⟩ (Value.ref b :: argsL).toArray) :
    (∃ (v : Option Value) (vm₁ : Vm) (B : Pt), s.WarmedH vm₁ ∧ Stand p l e R s m args below meth c B.U B.locs B.cells B.slots ∧ Post ⟨T.setVm vm₁, locs, cells, slots⟩ (Value.ref b :: argsL).toArray v B ∧
      ∀ target, Steps p.tables e below (B.U.setTop { g with pc := g.pc + 3, stack := v.toList ++ rest }) target → Steps p.tables e below (T.setTop g) target) ∨
    (∃ (q : Addr) (vm₁ : Vm) (B : Pt), s.WarmedH vm₁ ∧ Stand p l e R s m args below meth c B.U B.locs B.cells B.slots ∧ PostX ⟨T.setVm vm₁, locs, cells, slots⟩ (Value.ref b :: argsL).toArray q B ∧
      Steps p.tables e below (T.setTop g) ((B.U.setTop { g with stack := rest }).pushFrame (.throwing q))) := by
  obtain ⟨mk, methM, hnamed, hmethM, hstM, habM⟩ := Cond.instanceMethod_spec hinst
  obtain ⟨methM', cM, hmethM', -, -, -, -, -, -, hsigM⟩ := Cond.code_spec hnamed hcode
  cases hmethM.symm.trans hmethM'
  obtain ⟨c2, r2, m2, q1, q2, q3, q4, kP, hkP, hkPi⟩ := Cond.selects_spec hsel
  cases hcls.symm.trans q1
  cases (State.methodFound?_of_named hnamed hy).symm.trans q2
  cases hnamed.symm.trans q3
  have hselP : selectMethod e.platform s.vm cellB.cls mk = .method mk := by rw [Launch.admits_selectMethod X.admits]; exact q4
  obtain ⟨vm₁, X₁, hstep₁⟩ := X.invokevirtual hexec hown hlink hnamed hmethM hstM hkP hkPi hy (a := b) (cell := cellB) hcell
    (fun z h => by rw [h] at hobj; cases hobj) hselP hmethM habM hkP hkPi (g := g) hg (argsL := argsL) (rest := rest) (hlen _ hsigM) hstack hdg
  rcases hK m meth c ⟨T.setVm vm₁, locs, cells, slots⟩ { g with stack := rest } (.invokevirtual index) mk (Value.ref b :: argsL).toArray X₁ hg hsize hdg hW (X₁.named hnamed) (hpre vm₁ X₁.warmed) with ⟨v, B, X', hpost, hsteps⟩ | ⟨q, B, X', hpost, hsteps⟩
  · exact Or.inl ⟨v, vm₁, B, X₁.warmed, X', hpost, fun target h => hstep₁ _ fun acts => by rw [doInvoke_state]; exact hsteps.trans h⟩
  · exact Or.inr ⟨q, vm₁, B, X₁.warmed, X', hpost, hstep₁ _ fun acts => by rw [doInvoke_state]; exact hsteps⟩
theorem vx_callS (X : Stand p l e R s m args below meth c T locs cells slots) (hexec : p.tables.exec = Jvm.exec) {own : String} {index : Nat} {y : MethodName} {bytes : ByteArray} {maxL : Nat} {ret : Option FieldType}
    (hown : s.vm.findClass own = some m.cls) (hlink : (Cond.methodLink own index y).before args s = true) (hstat : (Cond.static y).before args s = true) (hinit : (Cond.initialized y.cls).before args s = true)
    (hcode : (Cond.code y bytes maxL ret).before args s = true) (hy : y.cls ≠ "java/lang/invoke/MethodHandle" ∧ y.cls ≠ "java/lang/invoke/VarHandle")
    {W9 : Nat} {Pre : Pt → Array Value → Prop} {Post : Pt → Array Value → Option Value → Pt → Prop} {PostX : Pt → Array Value → Addr → Pt → Prop} (hK : vx_Back l R p e below s args y 3 W9 Pre Post PostX)
    {g : JFrame} (hg : g.method = m) (hsize : g.locals.size = c.maxLocals) {argsL rest : List Value} (hlen : ∀ sig, parseMethodDescriptor y.desc = some sig → argsL.length = sig.parameters.length)
    (hstack : g.stack = argsL.reverse ++ rest) (hW : 2 * g.monitorRoom + (rest.map fun v => v.category).sum ≤ W9) (hdg : decode c.code g.pc = .ok (.invokestatic index, 3))
    (hpre : ∀ vm₁, s.WarmedH vm₁ → Pre ⟨T.setVm vm₁, locs, cells, slots⟩ argsL.toArray) :
    (∃ (v : Option Value) (vm₁ : Vm) (B : Pt), s.WarmedH vm₁ ∧ Stand p l e R s m args below meth c B.U B.locs B.cells B.slots ∧ Post ⟨T.setVm vm₁, locs, cells, slots⟩ argsL.toArray v B ∧
      ∀ target, Steps p.tables e below (B.U.setTop { g with pc := g.pc + 3, stack := v.toList ++ rest }) target → Steps p.tables e below (T.setTop g) target) ∨
    (∃ (q : Addr) (vm₁ : Vm) (B : Pt), s.WarmedH vm₁ ∧ Stand p l e R s m args below meth c B.U B.locs B.cells B.slots ∧ PostX ⟨T.setVm vm₁, locs, cells, slots⟩ argsL.toArray q B ∧
      Steps p.tables e below (T.setTop g) ((B.U.setTop { g with stack := rest }).pushFrame (.throwing q))) := by
  obtain ⟨mk, hnamed⟩ := Cond.code_named hcode
  obtain ⟨methM, cM, hmethM, -, -, -, -, -, -, hsigM⟩ := Cond.code_spec hnamed hcode
  have hstatic : methM.isStatic = true := Cond.static_spec hnamed hmethM hstat
  obtain ⟨kP, hkP, -⟩ := className_of_methodNamed hnamed
  have hinitP : kP.init = .initialized := Cond.initialized_spec (findClass_of_methodNamed hnamed) hkP hinit
  obtain ⟨vm₁, X₁, hstep₁⟩ := X.invokestatic hexec hown hlink hnamed hmethM hstatic hkP hinitP hy (g := g) hg (argsL := argsL) (rest := rest) (hlen _ hsigM) hstack hdg
  rcases hK m meth c ⟨T.setVm vm₁, locs, cells, slots⟩ { g with stack := rest } (.invokestatic index) mk argsL.toArray X₁ hg hsize hdg hW (X₁.named hnamed) (hpre vm₁ X₁.warmed) with ⟨v, B, X', hpost, hsteps⟩ | ⟨q, B, X', hpost, hsteps⟩
  · exact Or.inl ⟨v, vm₁, B, X₁.warmed, X', hpost, fun target h => hstep₁ _ fun acts => by rw [doInvoke_state]; exact hsteps.trans h⟩
  · exact Or.inr ⟨q, vm₁, B, X₁.warmed, X', hpost, hstep₁ _ fun acts => by rw [doInvoke_state]; exact hsteps⟩
end Calls
theorem vx_cls {s : State} {T : State} {vm₁ : Vm} {E : String} {k : ClassId} (hW : s.WarmedH vm₁) (h : (T.setVm vm₁).vm.findClass E = some k) : s.vm.findClass E = some k := by
  have h1 : vm₁.findClass E = some k := h
  rw [hW.alike.findClass] at h1
  exact h1
/-- the method's frame g, with q thrown over it -/
def vx_W (p : Program) (l : Launch) (e : Env) (R : Room) (s : State) (m : MethodId) (args : Array Value) (below : List Frame) (meth : Method) (c : Code) (H : Heap) (locs : List Loc) (cells slots : Nat) (Q : State → Prop) (g : JFrame) (q : Addr) : Prop :=
  ∀ T : State, T.heap = H → Stand p l e R s m args below meth c T locs cells slots → ∃ t, Steps p.tables e below ((T.setTop g).pushFrame (.throwing q)) t ∧ Q t
def vx_Run (p : Program) (l : Launch) (e : Env) (R : Room) (s : State) (m : MethodId) (args : Array Value) (below : List Frame) (meth : Method) (c : Code) (H : Heap) (locs : List Loc) (cells slots mc ms : Nat) (g : JFrame) (rest : List Value) (Qa : State → Outcome → State → Prop) (XC : String → State → State → Prop) (free : Addr → Prop) : Prop :=
  ∀ T : State, T.heap = H → Stand p l e R s m args below meth c T locs cells slots →
    (∃ (v : Option Value) (st₀ t T' : State) (L : List Loc), st₀.heap = H ∧ Stand p l e R s m args below meth c T' (locs ++ L) (cells + mc) (slots + ms) ∧ (∀ q ∈ L, free q.base) ∧ T'.heap = t.heap ∧ T'.vm = t.vm ∧ Qa st₀ (.returned v) t ∧
      Goes p e below T g T' { g with pc := g.pc + 3, stack := v.toList ++ rest }) ∨
    (∃ (q : Addr) (st₀ t T' : State) (L : List Loc) (E : String) (ce : Cell), st₀.heap = H ∧ Stand p l e R s m args below meth c T' (locs ++ L) (cells + mc) (slots + ms) ∧ (∀ z ∈ L, free z.base) ∧ T'.heap = t.heap ∧ T'.vm = t.vm ∧ XC E st₀ t ∧ t.heap[q]? = some ce ∧ ce.vm = .none ∧ s.vm.findClass E = some ce.cls ∧
      Steps p.tables e below (T.setTop g) ((T'.setTop { g with stack := rest }).pushFrame (.throwing q)))
def vx_X {S : Type} (px : S → Prop) (B : String → S → State → Prop) (A : Nat → Prop) : String → State → State → Prop := fun E st t => ∃ u : S, px u ∧ B E u t ∧ va_F A st t
section Runs
variable {p : Program} {l : Launch} {e : Env} {R : Room} {s : State} {m : MethodId} {args : Array Value} {below : List Frame} {meth : Method} {c : Code} {H : Heap} {locs : List Loc} {cells slots : Nat}
variable {y : MethodName} {bytes cc : ByteArray} {maxL nL mc ms n index : Nat} {ret : Option FieldType} {ws : List Cond} {rm : Room} {Pc : Array Value → State → Prop} {Qc : Array Value → State → Outcome → State → Prop} {XC : String → State → State → Prop} {free : Addr → Prop} {Ts : List Cond} {own C : String} {b : Addr} {As rest : List Value} {g : JFrame}
theorem vx_callBack (cb : CallB R s args own index y bytes maxL ret ws rm mc ms n) (hM : vx_Met l y ws rm Pc Qc XC mc ms free) (hbl : FrameBlind Pc) : vx_Back l R p e below s args y 3 8 (PreOf R mc ms Pc) (PostOf Qc mc ms free) (vx_Post XC mc ms free) := by
  obtain ⟨hrc, hrs, hfr, hlo, hws, hcw, -, hini, -⟩ := cb
  exact vx_back (bytes := bytes) (maxL := maxL) (ret := ret) hM hbl hrc hrs hfr hlo hws hcw (fun a' U hW => word_at hW (Or.inl (by first | rfl | simp [Cond.onTables, Cond.keeps, Cond.steady])) hini)
theorem vx_runV (S : CallFix p m c cc nL s args Ts own) (hM : vx_Met l y ws rm Pc Qc XC mc ms free) (cw : CallW R s args own C index y bytes maxL ret ws rm mc ms n) (hp : PreV s H C b Pc As)
    (hg : g.method = m) (hn : As.length = n) (hsize : g.locals.size = nL) (hstack : g.stack = As.reverse ++ .ref b :: rest) (hW : 2 * g.monitorRoom + (rest.map fun v => v.category).sum ≤ 8) (hdg : decode cc g.pc = .ok (.invokevirtual index, 3)) (hf : cells + mc ≤ R.cells ∧ slots + ms ≤ R.slots) :
    vx_Run p l e R s m args below meth c H locs cells slots mc ms g rest (Qc (Value.ref b :: As).toArray) XC free := by
  have hK : vx_Back l R p e below s args y 3 8 (PreOf R mc ms Pc) (PostOf Qc mc ms free) (vx_Post XC mc ms free) := vx_callBack cw.1 hM hp.1
  obtain ⟨⟨-, -, -, -, -, -, hcode, -, hy, hlen, hl⟩, hin, hse⟩ := cw
  obtain ⟨hx, hb, hml, ho, -⟩ := S
  obtain ⟨-, ⟨cellB, hcB, hoB, hclB⟩, hPc⟩ := hp
  intro T hT X
  rcases vx_callV X hx (C := C) (bytes := bytes) (maxL := maxL) (ret := ret) ho hl hin hse hcode hy hK (by rw [hT]; exact hcB) hoB hclB hg (hsize.trans hml.symm) (argsL := As) (rest := rest) (fun sig h => hn.trans (hlen sig h)) hstack hW (by rw [hb]; exact hdg)
    (fun vm₁ hW₁ => ⟨hf.1, hf.2, hPc (T.setVm vm₁) hT hW₁⟩) with ⟨v, vm₁, ⟨U', l2, c2, s2⟩, hW₁, X', ⟨g', mk, t, L, e1, e2, hq, h1, hL, h2, h3⟩, st⟩ | ⟨q, vm₁, ⟨U', l2, c2, s2⟩, hW₁, X', ⟨g', mk, t, L, E, ce, e1, e2, hq, hce, hcv, hcl, h1, hL, h2, h3⟩, st⟩
  · dsimp only [Pt.U, Pt.locs, Pt.cells, Pt.slots] at X' e1 e2 h1 h2 h3 st
    subst h1; subst h2; subst h3
    exact Or.inl ⟨v, (T.setVm vm₁).calling g' mk (Value.ref b :: As).toArray, t, U', L, hT, X', hL, e1, e2, hq, st⟩
  · dsimp only [Pt.U, Pt.locs, Pt.cells, Pt.slots] at X' e1 e2 h1 h2 h3 st hcl
    subst h1; subst h2; subst h3
    exact Or.inr ⟨q, (T.setVm vm₁).calling g' mk (Value.ref b :: As).toArray, t, U', L, E, ce, hT, X', hL, e1, e2, hq, hce, hcv, vx_cls hW₁ hcl, st⟩
theorem vx_runS (S : CallFix p m c cc nL s args Ts own) (hM : vx_Met l y ws rm Pc Qc XC mc ms free) (cw : CallB R s args own index y bytes maxL ret ws rm mc ms n ∧ (Cond.static y).before args s = true) (hp : PreS s H Pc As)
    (hg : g.method = m) (hn : As.length = n) (hsize : g.locals.size = nL) (hstack : g.stack = As.reverse ++ rest) (hW : 2 * g.monitorRoom + (rest.map fun v => v.category).sum ≤ 8) (hdg : decode cc g.pc = .ok (.invokestatic index, 3)) (hf : cells + mc ≤ R.cells ∧ slots + ms ≤ R.slots) :
    vx_Run p l e R s m args below meth c H locs cells slots mc ms g rest (Qc As.toArray) XC free := by
  have hK : vx_Back l R p e below s args y 3 8 (PreOf R mc ms Pc) (PostOf Qc mc ms free) (vx_Post XC mc ms free) := vx_callBack cw.1 hM hp.1
  obtain ⟨⟨-, -, -, -, -, -, hcode, hini, hy, hlen, hl⟩, hstt⟩ := cw
  obtain ⟨hx, hb, hml, ho, -⟩ := S
  intro T hT X
  rcases vx_callS X hx (bytes := bytes) (maxL := maxL) (ret := ret) ho hl hstt hini hcode hy hK hg (hsize.trans hml.symm) (argsL := As) (rest := rest) (fun sig h => hn.trans (hlen sig h)) hstack hW (by rw [hb]; exact hdg)
    (fun vm₁ hW₁ => ⟨hf.1, hf.2, hp.2 (T.setVm vm₁) hT hW₁⟩) with ⟨v, vm₁, ⟨U', l2, c2, s2⟩, hW₁, X', ⟨g', mk, t, L, e1, e2, hq, h1, hL, h2, h3⟩, st⟩ | ⟨q, vm₁, ⟨U', l2, c2, s2⟩, hW₁, X', ⟨g', mk, t, L, E, ce, e1, e2, hq, hce, hcv, hcl, h1, hL, h2, h3⟩, st⟩
  · dsimp only [Pt.U, Pt.locs, Pt.cells, Pt.slots] at X' e1 e2 h1 h2 h3 st
    subst h1; subst h2; subst h3
    exact Or.inl ⟨v, (T.setVm vm₁).calling g' mk As.toArray, t, U', L, hT, X', hL, e1, e2, hq, st⟩
  · dsimp only [Pt.U, Pt.locs, Pt.cells, Pt.slots] at X' e1 e2 h1 h2 h3 st hcl
    subst h1; subst h2; subst h3
    exact Or.inr ⟨q, (T.setVm vm₁).calling g' mk As.toArray, t, U', L, E, ce, hT, X', hL, e1, e2, hq, hce, hcv, vx_cls hW₁ hcl, st⟩
end Runs
section Rows
variable {p : Program} {l : Launch} {e : Env} {R : Room} {s : State} {m : MethodId} {args : Array Value} {below : List Frame} {meth : Method} {c : Code} {H : Heap} {locs : List Loc} {cells slots : Nat} {Q : State → Prop}
variable {mc ms : Nat} {free : Addr → Prop} {A0 A1 : Nat → Prop} {H0 : Heap} {a : Array Value} {pc : Nat} {ls : Array Slot} {st0 rest : List Value}
theorem vx_keep {st₀ t T' : State} {L : List Loc} (h0 : st₀.heap = H) (e1 : T'.heap = t.heap) (hS : va_S A0 H0 H locs) (hA : ∀ q, q < H.size → A1 q → A0 q) (hf : ∀ q, free q → A0 q) (hL : ∀ q ∈ L, free q.base) (hF : va_F A1 st₀ t) :
    H.size ≤ T'.heap.size ∧ (∀ q : Nat, q < H.size → ¬ A1 q → T'.heap[q]? = H[q]?) ∧ va_S A0 H0 T'.heap (locs ++ L) := by
  obtain ⟨hz, hk⟩ := hF
  rw [h0] at hz hk
  exact ⟨by rw [e1]; exact hz, fun q h1 h2 => by rw [e1]; exact hk q h1 h2,
    ⟨Nat.le_trans hS.1 (by rw [e1]; exact hz), fun q h1 h2 => by rw [e1, hk q (Nat.lt_of_lt_of_le h1 hS.1) (fun z => h2 (hA q (Nat.lt_of_lt_of_le h1 hS.1) z))]; exact hS.2.1 q h1 h2, fun q hq => by
      rcases List.mem_append.mp hq with h | h
      · exact hS.2.2 q h
      · exact hf _ (hL q h)⟩⟩
theorem vx_calli {S SX : Type} {post : Int32 → S → Prop} {px : SX → Prop} {B : S → State → Prop} {BX : String → SX → State → Prop} {AX : Nat → Prop} (hr : vx_Run p l e R s m args below meth c H locs cells slots mc ms (F0 m pc ls st0) rest (va_Qi post B A1 a) (vx_X px BX AX) free) (hS : va_S A0 H0 H locs) (hA : ∀ q, q < H.size → A1 q → A0 q) (hf : ∀ q, free q → A0 q) (hAX : ∀ q, q < H.size → AX q → A0 q)
    (kx : ∀ (E : String) (ce : Cell) (q9 : Addr) (u : SX) (t : State) (H1 : Heap) (locs1 : List Loc), t.heap = H1 → s.vm.Alike t.vm → px u → BX E u t → H.size ≤ H1.size → (∀ q : Nat, q < H.size → ¬ AX q → H1[q]? = H[q]?) → va_S A0 H0 H1 locs1 → H1[q9]? = some ce → ce.vm = .none → s.vm.findClass E = some ce.cls → vx_W p l e R s m args below meth c H1 locs1 (cells + mc) (slots + ms) Q (F0 m pc ls rest) q9)
    (kk : ∀ (r : Int32) (u : S) (t : State) (H1 : Heap) (locs1 : List Loc), t.heap = H1 → s.vm.Alike t.vm → post r u → B u t → H.size ≤ H1.size → (∀ q : Nat, q < H.size → ¬ A1 q → H1[q]? = H[q]?) → va_S A0 H0 H1 locs1 → W p l e R s m args below meth c H1 locs1 (cells + mc) (slots + ms) Q (F0 m (pc + 3) ls (.int r :: rest))) : W p l e R s m args below meth c H locs cells slots Q (F0 m pc ls st0) := by
  intro T hT X
  rcases hr T hT X with ⟨v, st₀, t, T', L, h0, X', hL, e1, e2, ⟨⟨r, u, hv, hp, hb⟩, hF⟩, st⟩ | ⟨q, st₀, t, T', L, E, ce, h0, X', hL, e1, e2, ⟨u, hp, hb, hF⟩, hce, hcv, hcl, st⟩
  · cases hv
    obtain ⟨k1, k2, k3⟩ := vx_keep h0 e1 hS hA hf hL hF
    obtain ⟨t2, a1, b1⟩ := kk r u t T'.heap (locs ++ L) e1.symm (by rw [← e2]; exact X'.warmed.alike) hp hb k1 k2 k3 T' rfl X'
    exact ⟨t2, st t2 a1, b1⟩
  · obtain ⟨k1, k2, k3⟩ := vx_keep h0 e1 hS hAX hf hL hF
    obtain ⟨t2, a1, b1⟩ := kx E ce q u t T'.heap (locs ++ L) e1.symm (by rw [← e2]; exact X'.warmed.alike) hp hb k1 k2 k3 (by rw [e1]; exact hce) hcv hcl T' rfl X'
    exact ⟨t2, st.trans a1, b1⟩
theorem vx_calll {S SX : Type} {post : Int64 → S → Prop} {px : SX → Prop} {B : S → State → Prop} {BX : String → SX → State → Prop} {AX : Nat → Prop} (hr : vx_Run p l e R s m args below meth c H locs cells slots mc ms (F0 m pc ls st0) rest (va_Ql post B A1 a) (vx_X px BX AX) free) (hS : va_S A0 H0 H locs) (hA : ∀ q, q < H.size → A1 q → A0 q) (hf : ∀ q, free q → A0 q) (hAX : ∀ q, q < H.size → AX q → A0 q)
    (kx : ∀ (E : String) (ce : Cell) (q9 : Addr) (u : SX) (t : State) (H1 : Heap) (locs1 : List Loc), t.heap = H1 → s.vm.Alike t.vm → px u → BX E u t → H.size ≤ H1.size → (∀ q : Nat, q < H.size → ¬ AX q → H1[q]? = H[q]?) → va_S A0 H0 H1 locs1 → H1[q9]? = some ce → ce.vm = .none → s.vm.findClass E = some ce.cls → vx_W p l e R s m args below meth c H1 locs1 (cells + mc) (slots + ms) Q (F0 m pc ls rest) q9)
    (kk : ∀ (r : Int64) (u : S) (t : State) (H1 : Heap) (locs1 : List Loc), t.heap = H1 → s.vm.Alike t.vm → post r u → B u t → H.size ≤ H1.size → (∀ q : Nat, q < H.size → ¬ A1 q → H1[q]? = H[q]?) → va_S A0 H0 H1 locs1 → W p l e R s m args below meth c H1 locs1 (cells + mc) (slots + ms) Q (F0 m (pc + 3) ls (.long r :: rest))) : W p l e R s m args below meth c H locs cells slots Q (F0 m pc ls st0) := by
  intro T hT X
  rcases hr T hT X with ⟨v, st₀, t, T', L, h0, X', hL, e1, e2, ⟨⟨r, u, hv, hp, hb⟩, hF⟩, st⟩ | ⟨q, st₀, t, T', L, E, ce, h0, X', hL, e1, e2, ⟨u, hp, hb, hF⟩, hce, hcv, hcl, st⟩
  · cases hv
    obtain ⟨k1, k2, k3⟩ := vx_keep h0 e1 hS hA hf hL hF
    obtain ⟨t2, a1, b1⟩ := kk r u t T'.heap (locs ++ L) e1.symm (by rw [← e2]; exact X'.warmed.alike) hp hb k1 k2 k3 T' rfl X'
    exact ⟨t2, st t2 a1, b1⟩
  · obtain ⟨k1, k2, k3⟩ := vx_keep h0 e1 hS hAX hf hL hF
    obtain ⟨t2, a1, b1⟩ := kx E ce q u t T'.heap (locs ++ L) e1.symm (by rw [← e2]; exact X'.warmed.alike) hp hb k1 k2 k3 (by rw [e1]; exact hce) hcv hcl T' rfl X'
    exact ⟨t2, st.trans a1, b1⟩
theorem vx_callf {S SX : Type} {post : UInt32 → S → Prop} {px : SX → Prop} {B : S → State → Prop} {BX : String → SX → State → Prop} {AX : Nat → Prop} (hr : vx_Run p l e R s m args below meth c H locs cells slots mc ms (F0 m pc ls st0) rest (va_Qf post B A1 a) (vx_X px BX AX) free) (hS : va_S A0 H0 H locs) (hA : ∀ q, q < H.size → A1 q → A0 q) (hf : ∀ q, free q → A0 q) (hAX : ∀ q, q < H.size → AX q → A0 q)
    (kx : ∀ (E : String) (ce : Cell) (q9 : Addr) (u : SX) (t : State) (H1 : Heap) (locs1 : List Loc), t.heap = H1 → s.vm.Alike t.vm → px u → BX E u t → H.size ≤ H1.size → (∀ q : Nat, q < H.size → ¬ AX q → H1[q]? = H[q]?) → va_S A0 H0 H1 locs1 → H1[q9]? = some ce → ce.vm = .none → s.vm.findClass E = some ce.cls → vx_W p l e R s m args below meth c H1 locs1 (cells + mc) (slots + ms) Q (F0 m pc ls rest) q9)
    (kk : ∀ (r : UInt32) (u : S) (t : State) (H1 : Heap) (locs1 : List Loc), t.heap = H1 → s.vm.Alike t.vm → post r u → B u t → H.size ≤ H1.size → (∀ q : Nat, q < H.size → ¬ A1 q → H1[q]? = H[q]?) → va_S A0 H0 H1 locs1 → W p l e R s m args below meth c H1 locs1 (cells + mc) (slots + ms) Q (F0 m (pc + 3) ls (.float r :: rest))) : W p l e R s m args below meth c H locs cells slots Q (F0 m pc ls st0) := by
  intro T hT X
  rcases hr T hT X with ⟨v, st₀, t, T', L, h0, X', hL, e1, e2, ⟨⟨r, u, hv, hp, hb⟩, hF⟩, st⟩ | ⟨q, st₀, t, T', L, E, ce, h0, X', hL, e1, e2, ⟨u, hp, hb, hF⟩, hce, hcv, hcl, st⟩
  · cases hv
    obtain ⟨k1, k2, k3⟩ := vx_keep h0 e1 hS hA hf hL hF
    obtain ⟨t2, a1, b1⟩ := kk r u t T'.heap (locs ++ L) e1.symm (by rw [← e2]; exact X'.warmed.alike) hp hb k1 k2 k3 T' rfl X'
    exact ⟨t2, st t2 a1, b1⟩
  · obtain ⟨k1, k2, k3⟩ := vx_keep h0 e1 hS hAX hf hL hF
    obtain ⟨t2, a1, b1⟩ := kx E ce q u t T'.heap (locs ++ L) e1.symm (by rw [← e2]; exact X'.warmed.alike) hp hb k1 k2 k3 (by rw [e1]; exact hce) hcv hcl T' rfl X'
    exact ⟨t2, st.trans a1, b1⟩
theorem vx_calld {S SX : Type} {post : UInt64 → S → Prop} {px : SX → Prop} {B : S → State → Prop} {BX : String → SX → State → Prop} {AX : Nat → Prop} (hr : vx_Run p l e R s m args below meth c H locs cells slots mc ms (F0 m pc ls st0) rest (va_Qd post B A1 a) (vx_X px BX AX) free) (hS : va_S A0 H0 H locs) (hA : ∀ q, q < H.size → A1 q → A0 q) (hf : ∀ q, free q → A0 q) (hAX : ∀ q, q < H.size → AX q → A0 q)
    (kx : ∀ (E : String) (ce : Cell) (q9 : Addr) (u : SX) (t : State) (H1 : Heap) (locs1 : List Loc), t.heap = H1 → s.vm.Alike t.vm → px u → BX E u t → H.size ≤ H1.size → (∀ q : Nat, q < H.size → ¬ AX q → H1[q]? = H[q]?) → va_S A0 H0 H1 locs1 → H1[q9]? = some ce → ce.vm = .none → s.vm.findClass E = some ce.cls → vx_W p l e R s m args below meth c H1 locs1 (cells + mc) (slots + ms) Q (F0 m pc ls rest) q9)
    (kk : ∀ (r : UInt64) (u : S) (t : State) (H1 : Heap) (locs1 : List Loc), t.heap = H1 → s.vm.Alike t.vm → post r u → B u t → H.size ≤ H1.size → (∀ q : Nat, q < H.size → ¬ A1 q → H1[q]? = H[q]?) → va_S A0 H0 H1 locs1 → W p l e R s m args below meth c H1 locs1 (cells + mc) (slots + ms) Q (F0 m (pc + 3) ls (.double r :: rest))) : W p l e R s m args below meth c H locs cells slots Q (F0 m pc ls st0) := by
  intro T hT X
  rcases hr T hT X with ⟨v, st₀, t, T', L, h0, X', hL, e1, e2, ⟨⟨r, u, hv, hp, hb⟩, hF⟩, st⟩ | ⟨q, st₀, t, T', L, E, ce, h0, X', hL, e1, e2, ⟨u, hp, hb, hF⟩, hce, hcv, hcl, st⟩
  · cases hv
    obtain ⟨k1, k2, k3⟩ := vx_keep h0 e1 hS hA hf hL hF
    obtain ⟨t2, a1, b1⟩ := kk r u t T'.heap (locs ++ L) e1.symm (by rw [← e2]; exact X'.warmed.alike) hp hb k1 k2 k3 T' rfl X'
    exact ⟨t2, st t2 a1, b1⟩
  · obtain ⟨k1, k2, k3⟩ := vx_keep h0 e1 hS hAX hf hL hF
    obtain ⟨t2, a1, b1⟩ := kx E ce q u t T'.heap (locs ++ L) e1.symm (by rw [← e2]; exact X'.warmed.alike) hp hb k1 k2 k3 (by rw [e1]; exact hce) hcv hcl T' rfl X'
    exact ⟨t2, st.trans a1, b1⟩
theorem vx_callv {S SX : Type} {post : S → Prop} {px : SX → Prop} {B : S → State → Prop} {BX : String → SX → State → Prop} {AX : Nat → Prop} (hr : vx_Run p l e R s m args below meth c H locs cells slots mc ms (F0 m pc ls st0) rest (va_Qv post B A1 a) (vx_X px BX AX) free) (hS : va_S A0 H0 H locs) (hA : ∀ q, q < H.size → A1 q → A0 q) (hf : ∀ q, free q → A0 q) (hAX : ∀ q, q < H.size → AX q → A0 q)
    (kx : ∀ (E : String) (ce : Cell) (q9 : Addr) (u : SX) (t : State) (H1 : Heap) (locs1 : List Loc), t.heap = H1 → s.vm.Alike t.vm → px u → BX E u t → H.size ≤ H1.size → (∀ q : Nat, q < H.size → ¬ AX q → H1[q]? = H[q]?) → va_S A0 H0 H1 locs1 → H1[q9]? = some ce → ce.vm = .none → s.vm.findClass E = some ce.cls → vx_W p l e R s m args below meth c H1 locs1 (cells + mc) (slots + ms) Q (F0 m pc ls rest) q9)
    (kk : ∀ (u : S) (t : State) (H1 : Heap) (locs1 : List Loc), t.heap = H1 → s.vm.Alike t.vm → post u → B u t → H.size ≤ H1.size → (∀ q : Nat, q < H.size → ¬ A1 q → H1[q]? = H[q]?) → va_S A0 H0 H1 locs1 → W p l e R s m args below meth c H1 locs1 (cells + mc) (slots + ms) Q (F0 m (pc + 3) ls (rest))) : W p l e R s m args below meth c H locs cells slots Q (F0 m pc ls st0) := by
  intro T hT X
  rcases hr T hT X with ⟨v, st₀, t, T', L, h0, X', hL, e1, e2, ⟨⟨u, hv, hp, hb⟩, hF⟩, st⟩ | ⟨q, st₀, t, T', L, E, ce, h0, X', hL, e1, e2, ⟨u, hp, hb, hF⟩, hce, hcv, hcl, st⟩
  · cases hv
    obtain ⟨k1, k2, k3⟩ := vx_keep h0 e1 hS hA hf hL hF
    obtain ⟨t2, a1, b1⟩ := kk u t T'.heap (locs ++ L) e1.symm (by rw [← e2]; exact X'.warmed.alike) hp hb k1 k2 k3 T' rfl X'
    exact ⟨t2, st t2 a1, b1⟩
  · obtain ⟨k1, k2, k3⟩ := vx_keep h0 e1 hS hAX hf hL hF
    obtain ⟨t2, a1, b1⟩ := kx E ce q u t T'.heap (locs ++ L) e1.symm (by rw [← e2]; exact X'.warmed.alike) hp hb k1 k2 k3 (by rw [e1]; exact hce) hcv hcl T' rfl X'
    exact ⟨t2, st.trans a1, b1⟩
/-- caught by the row x of this method's table; the rows ahead don't take it -/
theorem vx_catch {own name : String} {E : String} {ce : Cell} {q : Addr} (hown : s.vm.findClass own = some m.cls) (pre : List ExceptionTableEntry) (x : ExceptionTableEntry) (suf : List ExceptionTableEntry) (hsplit : c.exceptionTable.toList = pre ++ x :: suf)
    (hpass : ∀ z ∈ pre, covers z pc = false ∨ (z.catchType ≠ 0 ∧ ∃ nm : String, (Cond.classLink own z.catchType nm).before args s = true ∧ va_Nc E nm s)) (hx : covers x pc = true) (h0 : x.catchType ≠ 0)
    (hlink : (Cond.classLink own x.catchType name).before args s = true) (hcast : (Cond.castable E name).before args s = true) (hcell : H[q]? = some ce) (hv : ce.vm = .none) (hcl : s.vm.findClass E = some ce.cls)
    (kk : W p l e R s m args below meth c H locs cells slots Q (F0 m x.handlerPc ls [.ref q])) : vx_W p l e R s m args below meth c H locs cells slots Q (F0 m pc ls rest) q := by
  intro T hT X
  have hpl : e.platform.magicAccessors = ({} : Platform).magicAccessors := by rw [X.admits.platform]
  obtain ⟨c3, c4, hc3, hc4, hasg⟩ := Cond.castable_spec hcast
  cases Option.some.inj (hc3.symm.trans hcl)
  obtain ⟨c5, hc5, hcl5⟩ := Cond.classLink_spec hown hlink e.platform hpl
  cases Option.some.inj (hc4.symm.trans hc5)
  obtain ⟨vm', X', st⟩ := X.thenCaughtThrough q (g := F0 m pc ls rest) rfl (Steps.refl _) (by rw [hT]; exact hcell) (by rw [hv]; rfl) (by obtain ⟨k9, h9, -⟩ := Vm.findClass_spec hcl; exact ⟨k9, h9⟩) pre x suf hsplit
    (fun z hz => by
      rcases hpass z hz with h | ⟨hz0, nm, hl1, hn1⟩
      · exact Or.inl h
      · obtain ⟨c6, hc6, hcl6⟩ := Cond.classLink_spec hown hl1 e.platform hpl
        obtain ⟨a8, b8, h1, h2, h3⟩ := hn1
        cases Option.some.inj (h1.symm.trans hcl)
        cases Option.some.inj (h2.symm.trans hc6)
        exact Or.inr ⟨hz0, _, hcl6, h3⟩) hx (Or.inr ⟨h0, c4, hcl5, hasg⟩)
  obtain ⟨t, a1, b1⟩ := kk (T.setVm vm') hT X'
  exact ⟨t, st.trans a1, b1⟩
end Rows
section Ends
variable {p : Program} {l : Launch} {e : Env} {R : Room} {s : State} {m : MethodId} {args : Array Value} {below : List Frame} {meth : Method} {c : Code} {H : Heap} {locs : List Loc} {cells slots : Nat} {Q : State → Prop}
variable {mc ms : Nat} {free : Addr → Prop} {A0 A1 : Nat → Prop} {H0 : Heap} {a : Array Value} {ls : Array Slot} {st0 rest : List Value}
variable {Qc : Array Value → State → Outcome → State → Prop} {XC : String → State → State → Prop}
/-- what a body that may throw owes at its end -/
def vx_MQ (below : List Frame) (Qc : Array Value → State → Outcome → State → Prop) (XC : String → State → State → Prop) (a : Array Value) (s : State) (mc ms : Nat) (free : Addr → Prop) : State → Prop := fun t =>
  ∃ o, t.status = .running ∧ Ended t below o ∧ vx_Q Qc XC mc ms free a s o t
theorem vx_ret {g : JFrame} {mc ms : Nat} (k : W p l e R s m args below meth c H locs cells slots (MQ below Qc args s mc ms free) g) : W p l e R s m args below meth c H locs cells slots (vx_MQ below Qc XC args s mc ms free) g := by
  intro T hT X
  obtain ⟨t, a1, o, b1, b2, b3, b4⟩ := k T hT X
  exact ⟨t, a1, o, b1, b2, Or.inl ⟨b3, b4⟩⟩
/-- not caught here: it goes on to the caller -/
theorem vx_widen {g : JFrame} {q : Addr} {k n : Nat} (h1 : cells ≤ k) (h2 : slots ≤ n) (kk : vx_W p l e R s m args below meth c H locs k n Q g q) : vx_W p l e R s m args below meth c H locs cells slots Q g q := fun T hT X => kk T hT (stand_widen X h1 h2)
theorem vx_out {pc : Nat} {E : String} {ce : Cell} {q : Addr} {mc ms : Nat} (hout : ∀ x ∈ c.exceptionTable.toList, covers x pc = false) (hlocks : meth.locks = false) (hcell : H[q]? = some ce) (hv : ce.vm = .none) (hcl : s.vm.findClass E = some ce.cls)
    (hx : ∀ t : State, t.heap = H → s.vm.Alike t.vm → XC E s t) (hf : ∀ z ∈ locs, free z.base) (hc : cells ≤ mc) (hs : slots ≤ ms) :
    vx_W p l e R s m args below meth c H locs cells slots (vx_MQ below Qc XC args s mc ms free) (F0 m pc ls rest) q := by
  intro T hT X
  obtain ⟨st1, hrun, hend, hW, hsm⟩ := X.leaveThrown q (g := F0 m pc ls rest) rfl rfl rfl hout hlocks
  have hcell9 : (T.setFrames (.throwing q :: below)).heap[q]? = some ce := by
    show T.heap[q]? = some ce
    rw [hT]; exact hcell
  exact ⟨_, st1, .threw q, hrun, hend, Or.inr ⟨q, rfl, E, ce, locs, hx _ hT hW.alike, hcell9, hv, hcl, hW, hsm.mono hc hs, hf⟩⟩
theorem vx_frame {U : State} {k n : Nat} (h : s.sameButNew ({ U with vm := s.vm } : State) locs k n) : s.heap.size ≤ U.heap.size ∧ ∀ q : Nat, q < s.heap.size → (∀ z ∈ locs, z.base ≠ q) → U.heap[q]? = s.heap[q]? := by
  obtain ⟨-, h2, -, -, -, h6⟩ := h
  refine ⟨h2, fun q hq hz => ?_⟩
  obtain ⟨c9, e1, e2, e3, e4⟩ := h6 q _ (Array.getElem?_eq_getElem hq)
  have hs : c9.slots = (s.heap[q]).slots := Array.ext_getElem? fun i => e4 i fun hm => hz _ hm rfl
  have h9 : c9 = s.heap[q] := by
    rw [hs] at e2
    exact e2
  have e5 : U.heap[q]? = some c9 := e1
  rw [e5, h9, Array.getElem?_eq_getElem hq]
/-- the words of a throw but the four that speak of the heap -/
def vx_no (w : Cond) : Bool := decide (w ≠ .isRef (.static Bundle.tN "UNASSIGNED_STACK" Bundle.steD)) && decide (w ≠ .isRef (.static Bundle.tN "SUPPRESSED_SENTINEL" Bundle.listD)) && decide (w ≠ .laysStatic Bundle.tN "UNASSIGNED_STACK" Bundle.steD) && decide (w ≠ .laysStatic Bundle.tN "SUPPRESSED_SENTINEL" Bundle.listD)
def vx_at0 (own : String) (ic : Nat) (X : String) (names : List String) : List Cond := (Bundle.ownAtoms0 own ic X names).filter vx_no
def vx_atS (own : String) (ic : Nat) (X : String) (names : List String) : List Cond := (Bundle.ownAtoms own ic X names).filter vx_no
/-- a word that the tables alone decide, or a good one -/
def vx_ot (w : Cond) : Bool := w.onTables || goodWord w
theorem vx_ot_at {args a' : Array Value} {s U : State} {w : Cond} (hW : s.WarmedH U.vm) (hvm : s.vm = U.vm) (hg : vx_ot w = true) (h : w.before args s = true) : w.before a' U = true := by
  simp only [vx_ot, Bool.or_eq_true] at hg
  rcases hg with hg | hg
  · exact va_tabs hg hvm h
  · exact word_at hW (good_of_word hg) h
/-- a list's words: the good ones out of the method's own list, the others by premises of their own -/
theorem vx_hat {args : Array Value} {s : State} {L B : List Cond} (h1 : ∀ w ∈ L.filter goodWord, w.before args s = true) (h2 : ∀ w ∈ L.filter (fun w => !goodWord w), w ∈ B) (h3 : ∀ w ∈ B, w.before args s = true) : ∀ w ∈ L, w.before args s = true := by
  intro w hw
  by_cases g : goodWord w = true
  · exact h1 w (List.mem_filter.mpr ⟨hw, g⟩)
  · refine h3 w (h2 w (List.mem_filter.mpr ⟨hw, ?_⟩))
    show (!goodWord w) = true
    cases hgw : goodWord w
    · rfl
    · exact absurd hgw g
theorem vx_c {args : Array Value} {s : State} {w : Cond} {B : List Cond} (h : w.before args s = true) (t : ∀ w ∈ B, w.before args s = true) : ∀ w' ∈ w :: B, w'.before args s = true := fun w' h' => (List.mem_cons.mp h').elim (fun e => by rw [e]; exact h) (t w')
theorem vx_n {args : Array Value} {s : State} : ∀ w ∈ ([] : List Cond), w.before args s = true := fun _ h => nomatch h
theorem vx_own {args : Array Value} {s : State} {L : List Cond} (h1 : ∀ w ∈ L.filter vx_no, w.before args s = true)
    (hU : (Cond.isRef (.static Bundle.tN "UNASSIGNED_STACK" Bundle.steD)).before args s = true) (hN : (Cond.isRef (.static Bundle.tN "SUPPRESSED_SENTINEL" Bundle.listD)).before args s = true)
    (lU : (Cond.laysStatic Bundle.tN "UNASSIGNED_STACK" Bundle.steD).before args s = true) (lN : (Cond.laysStatic Bundle.tN "SUPPRESSED_SENTINEL" Bundle.listD).before args s = true) : ∀ w ∈ L, w.before args s = true := by
  intro w hw
  by_cases e1 : w = .isRef (.static Bundle.tN "UNASSIGNED_STACK" Bundle.steD)
  · rw [e1]; exact hU
  · by_cases e2 : w = .isRef (.static Bundle.tN "SUPPRESSED_SENTINEL" Bundle.listD)
    · rw [e2]; exact hN
    · by_cases e3 : w = .laysStatic Bundle.tN "UNASSIGNED_STACK" Bundle.steD
      · rw [e3]; exact lU
      · by_cases e4 : w = .laysStatic Bundle.tN "SUPPRESSED_SENTINEL" Bundle.listD
        · rw [e4]; exact lN
        · exact h1 w (List.mem_filter.mpr ⟨hw, by unfold vx_no; rw [decide_eq_true e1, decide_eq_true e2, decide_eq_true e3, decide_eq_true e4]; rfl⟩)
/-- where a static field lies, its class's statics cell in H -/
def vx_L (C n d : String) (A : Nat → Prop) (U : State) (H : Heap) : Prop := ∃ (c : ClassId) (k : Class) (i : Nat) (f : Field) (a : Nat) (cell : Cell), U.vm.findClass C = some c ∧ U.fieldFound? C n d = some (c, k, i, f) ∧ f.isStatic = true ∧ k.statics = some a ∧ H[a]? = some cell ∧ cell.vm.isStatics = true ∧ cell.cls = c ∧ f.slot < cell.slots.size ∧ k.staticTypes[f.slot]? = some f.type ∧ ¬ A a
theorem vx_L.moved {C n d : String} {A : Nat → Prop} {u U : State} {H : Heap} (hvm : u.vm.Alike U.vm) (h : vx_L C n d A u H) : vx_L C n d A U H := by
  obtain ⟨c, k, i, f, a, cell, h1, h2, h3, h4, h5, h6, h7, h8, h9, h10⟩ := h
  obtain ⟨k', hi', he⟩ := State.fieldFound?_setVm hvm h2
  exact ⟨c, k', i, f, a, cell, by rw [hvm.findClass]; exact h1, hi', h3, by rw [he]; exact h4, h5, h6, h7, h8, by rw [he]; exact h9, h10⟩
theorem vx_L.kept {C n d : String} {A : Nat → Prop} {U : State} {H H1 : Heap} (h : vx_L C n d A U H) (hq : ∀ a : Nat, a < H.size → ¬ A a → H1[a]? = H[a]?) : vx_L C n d A U H1 := by
  obtain ⟨c, k, i, f, a, cell, h1, h2, h3, h4, h5, h6, h7, h8, h9, h10⟩ := h
  exact ⟨c, k, i, f, a, cell, h1, h2, h3, h4, by rw [hq a (Array.getElem?_eq_some_iff.mp h5).1 h10]; exact h5, h6, h7, h8, h9, h10⟩
theorem vx_L.narrow {C n d : String} {A B : Nat → Prop} {U : State} {H : Heap} (h : vx_L C n d A U H) (hAB : ∀ q, B q → A q) : vx_L C n d B U H := by
  obtain ⟨c, k, i, f, a, cell, h1, h2, h3, h4, h5, h6, h7, h8, h9, h10⟩ := h
  exact ⟨c, k, i, f, a, cell, h1, h2, h3, h4, h5, h6, h7, h8, h9, fun z => h10 (hAB _ z)⟩
theorem vx_L.word {C n d : String} {A : Nat → Prop} {s : State} {args : Array Value} (h : vx_L C n d A s s.heap) : (Cond.laysStatic C n d).before args s = true := by
  obtain ⟨c, k, i, f, a, cell, h1, h2, h3, h4, h5, h6, h7, h8, h9, -⟩ := h
  show (Cond.laysStatic C n d).holds args s none s [] = true
  exact Cond.laysStatic_of h1 h2 h3 h4 h5 h6 h7 h8 h9
/-- .. and what it holds: null or some reference -/
def vx_Zq (C n d : String) (A : Nat → Prop) (U : State) (H : Heap) : Prop := va_Zq C n d A U H ∧ vx_L C n d A U H
theorem vx_Zq.moved {C n d : String} {A : Nat → Prop} {u U : State} {H : Heap} (hvm : u.vm.Alike U.vm) (h : vx_Zq C n d A u H) : vx_Zq C n d A U H := ⟨va_Zq.moved hvm h.1, vx_L.moved hvm h.2⟩
theorem vx_Zq.kept {C n d : String} {A : Nat → Prop} {U : State} {H H1 : Heap} (h : vx_Zq C n d A U H) (hq : ∀ a : Nat, a < H.size → ¬ A a → H1[a]? = H[a]?) : vx_Zq C n d A U H1 := ⟨va_Zq.kept h.1 hq, vx_L.kept h.2 hq⟩
theorem vx_Zq.narrow {C n d : String} {A B : Nat → Prop} {U : State} {H : Heap} (h : vx_Zq C n d A U H) (hAB : ∀ q, B q → A q) : vx_Zq C n d B U H := ⟨va_Zq.narrow h.1 hAB, vx_L.narrow h.2 hAB⟩
theorem vx_Zqof {args : Array Value} {s : State} {C n d : String} {A : Nat → Prop} (hl : (Cond.laysStatic C n d).before args s = true) (hini : (Cond.initialized C).before args s = true) (h : (Cond.isRef (.static C n d)).before args s = true) (hA : ∀ a : Nat, a < s.heap.size → ¬ A a) : vx_Zq C n d A s s.heap := by
  refine ⟨va_Zqof hl hini h hA, ?_⟩
  obtain ⟨c, k, i, f, a, cell, h1, h2, h3, h4, h5, h6, h7, h8, h9⟩ := Cond.laysStatic_spec hl
  exact ⟨c, k, i, f, a, cell, h1, h2, h3, h4, h5, h6, h7, h8, h9, hA a (Array.getElem?_eq_some_iff.mp h5).1⟩
theorem vx_isRef {C n d : String} {v : Value} {A : Nat → Prop} {s : State} {args : Array Value} (h : va_Z C n d v A s s.heap) (hv : v.isRef = true) : (Cond.isRef (.static C n d)).before args s = true := by
  obtain ⟨cf, kf, fi, f, a, cell, h1, h2, h3, h4, h5, h6, h7, -⟩ := h
  have he : (Term.static C n d).eval args s none [] s = some v := by
    simp [Term.eval, State.fieldNamed?, h1, h2, h4, h5, h6, h7]
  simp only [Cond.before, Cond.holds, Cond.value, he]
  cases v <;> simp_all [Value.isRef]
theorem vx_isRefq {C n d : String} {A : Nat → Prop} {s : State} {args : Array Value} (h : va_Zq C n d A s s.heap) : (Cond.isRef (.static C n d)).before args s = true := by
  rcases h with h | ⟨t, h⟩
  · exact vx_isRef h rfl
  · exact vx_isRef h rfl
/-- the same frame, seen from here: as if the method were called anew in this heap -/
theorem vx_rebase {T : State} (X : Stand p l e R s m args below meth c T locs cells slots) {R' : Room} (hf : R'.frames ≤ R.frames) (hl : R'.locals ≤ R.locals) (hc : cells + R'.cells ≤ R.cells) (hs : slots + R'.slots ≤ R.slots) :
    Stand p l e R' ((T.setVm s.vm).setFrames (.invoking m args :: below)) m args below meth c T [] 0 0 := by
  have htop : (T.setVm s.vm).topJava?.isSome := X.here.top
  have hF : ((T.setVm s.vm).setFrames (.invoking m args :: below)).frames = .invoking m args :: below := State.frames_setFrames _ (State.cur_lt_of_top htop)
  obtain ⟨g₀, hg0⟩ := Option.isSome_iff_exists.mp htop
  obtain ⟨r, hr⟩ := State.topJava?_eq_some.mp hg0
  have hl9 : e.platform.stackLimits (T.setVm s.vm).me = e.platform.stackLimits s.me := X.limits
  have hb9 : (T.setVm s.vm).me.stackBytes = s.me.stackBytes := X.bytes
  refine ⟨X.admits, X.cas, X.clock, hF, ?_, X.hears, X.method, X.code, X.here, X.tail, X.warmed, ?_, ?_, ?_⟩
  · have h := X.room
    have hU : ((T.setVm s.vm).setFrames (.invoking m args :: below)).localsInUse = s.localsInUse := by
      rw [State.localsInUse_invoking hF (meth := meth) (c := c) X.method X.code, State.localsInUse_invoking X.frames X.method X.code]
    simp only [State.hasRoom, Bool.and_eq_true, decide_eq_true_eq] at h ⊢
    obtain ⟨⟨⟨⟨h1, h2, h3, h4, h5, h6⟩, h7⟩, h8⟩, h9⟩ := h
    rw [X.frames, List.length_cons] at h2 h3
    have q1 := X.heapSize
    have q2 := X.used
    simp only [hF, hU, List.length_cons, State.stackLimits_setFrames, State.stackBytes_setFrames, hl9, hb9]
    refine ⟨⟨⟨⟨by omega, by omega, by omega, by omega, by omega, h6⟩, ?_⟩, ?_⟩, X.book⟩
    · show T.heap.size + R'.cells ≤ e.platform.maxCells
      omega
    · show T.slotsUsed + R'.slots ≤ e.platform.maxSlots
      omega
  · rw [State.stackLimits_setFrames]; rfl
  · rw [State.stackBytes_setFrames]; rfl
  · refine ⟨?_, Nat.le_refl _, Nat.le_refl _, ?_, ?_, fun a c9 h9 => ⟨c9, h9, rfl, rfl, fun _ _ => rfl⟩⟩
    · obtain ⟨t, ht, -⟩ := State.frames_cons hr
      show T.setVm s.vm = { ((T.setVm s.vm).setFrames (.invoking m args :: below)).setFrames (T.setVm s.vm).frames with heap := T.heap, slotsUsed := T.slotsUsed }
      rw [State.setFrames_setFrames, State.setFrames_self ht]
      rfl
    · show T.slotsUsed = T.slotsUsed + ((T.heap.toList.drop T.heap.size).map (·.slots.size)).sum
      rw [List.drop_eq_nil_of_le (Nat.le_of_eq Array.length_toList)]
      rfl
    · show ((T.heap.toList.drop T.heap.size).map (·.slots.size)).sum ≤ 0
      rw [List.drop_eq_nil_of_le (Nat.le_of_eq Array.length_toList)]
      exact Nat.le_refl _
/-- 'throw new E()': new; dup; invokespecial; athrow -/
theorem vx_throw0 {cc : ByteArray} {pc : Nat} (hexec : p.tables.exec = Jvm.exec) (hb : c.code = cc) (hl : l.stackTraces = false) {own cls : String} {names : List String} {ik ic mc ms : Nat} {A : Nat → Prop}
    (hown : s.vm.findClass own = some m.cls) (hcls : Bundle.fit cls = true) (hnames : ∀ n ∈ names, Bundle.fit n = true)
    (hk : (Cond.classLink own ik cls).before args s = true) (hini : (Cond.initialized cls).before args s = true) (hat : ∀ w ∈ vx_at0 own ic cls names, w.before args s = true)
    (hgood : ∀ w ∈ Cond.classLink own ik cls :: Cond.initialized cls :: vx_at0 own ic cls names, vx_ot w = true)
    (hU : vx_Zq Bundle.tN "UNASSIGNED_STACK" Bundle.steD A s s.heap) (hN : vx_Zq Bundle.tN "SUPPRESSED_SENTINEL" Bundle.listD A s s.heap) (hS : va_S A s.heap H locs) (hsize : ls.size = c.maxLocals)
    (d0 : decode cc pc = .ok (.new ik, 3)) (d3 : decode cc (pc + 3) = .ok (.dup, 1)) (d4 : decode cc (pc + 4) = .ok (.invokespecial ic, 3)) (d7 : decode cc (pc + 7) = .ok (.athrow, 1))
    (hout : ∀ x ∈ c.exceptionTable.toList, covers x (pc + 7) = false)
    (hRframes : names.length + 3 < R.frames) (hRlocals : (rest.map fun v => v.category).sum + (13 * (names.length + 1) + 42) ≤ R.locals) (hRcells : cells + 1 ≤ R.cells) (hRslots : slots + 6 ≤ R.slots) (hlocks : meth.locks = false)
    (hx : ∀ t : State, s.vm.Alike t.vm → H.size ≤ t.heap.size → (∀ q : Nat, q < H.size → t.heap[q]? = H[q]?) → XC cls s t)
    (hf : ∀ z ∈ locs, free z.base) (hc : cells + 1 ≤ mc) (hs : slots + 6 ≤ ms) :
    W p l e R s m args below meth c H locs cells slots (vx_MQ below Qc XC args s mc ms free) (F0 m pc ls rest) := by
  intro T hT X
  have htr : e.platform.stackTraces = false := (show e.platform.stackTraces = l.stackTraces by rw [X.admits.platform]).trans hl
  have Y := vx_rebase X (R' := { frames := R.frames, locals := R.locals, cells := 1, slots := 6 }) (Nat.le_refl _) (Nat.le_refl _) hRcells hRslots
  obtain ⟨s', hA⟩ : ∃ z, z = (T.setVm s.vm).setFrames (.invoking m args :: below) := ⟨_, rfl⟩
  rw [← hA] at Y
  have hvm : s'.vm = s.vm := by rw [hA]; rfl
  have hhp : s'.heap = H := by rw [hA]; exact hT
  have hW0 : s.WarmedH s'.vm := by rw [hvm]; exact State.WarmedH.refl s
  have hat' : ∀ w ∈ vx_at0 own ic cls names, w.before args s' = true := fun w hw => vx_ot_at hW0 hvm.symm (hgood w (List.mem_cons_of_mem _ (List.mem_cons_of_mem _ hw))) (hat w hw)
  have hk' : (Cond.classLink own ik cls).before args s' = true := vx_ot_at hW0 hvm.symm (hgood _ List.mem_cons_self) hk
  have hini' : (Cond.initialized cls).before args s' = true := vx_ot_at hW0 hvm.symm (hgood _ (List.mem_cons_of_mem _ List.mem_cons_self)) hini
  have hU' : vx_Zq Bundle.tN "UNASSIGNED_STACK" Bundle.steD A s' s'.heap := by rw [hhp]; exact vx_Zq.moved hW0.alike (hU.kept hS.2.1)
  have hN' : vx_Zq Bundle.tN "SUPPRESSED_SENTINEL" Bundle.listD A s' s'.heap := by rw [hhp]; exact vx_Zq.moved hW0.alike (hN.kept hS.2.1)
  have h : ∀ w ∈ Bundle.ownAtoms0 own ic cls names, w.before args s' = true := vx_own hat' (vx_isRefq hU'.1) (vx_isRefq hN'.1) hU'.2.word hN'.2.word
  have hown' : s'.vm.findClass own = some m.cls := by rw [hvm]; exact hown
  have hins : (Cond.instantiable cls 6).before args s' = true := h _ (by simp [Bundle.ownAtoms0])
  obtain ⟨vm₁, cX, kX, hfX, hkX, -, -, X₁, st1⟩ := Y.newCold hexec (own := own) (C := cls) (index := ik) (n := 6) hown' hk' hins hini'
    (g := F0 m pc ls rest) rfl (by rw [hb]; exact d0) (Nat.le_refl _) (Nat.le_refl _)
  generalize hT1 : (T.setVm vm₁).pushCell { cls := cX, slots := kX.instanceTypes.map defaultValue, vm := .none } = T1 at X₁ st1
  have hcat : (Value.ref T.heap.size).category = 1 := rfl
  have hcellA : T1.heap[T.heap.size]? = some (freshCell cX kX) := by rw [← hT1]; exact State.heap_pushCell_size _ _
  have d3' : decode c.code (pc + 3) = .ok (.dup, 1) := by rw [hb]; exact d3
  obtain ⟨U, hsteps, hrun, hend, hW, hsame, ce, hce, hO⟩ := X₁.ctorThrow0 hexec htr (own := own) (cls := cls) (names := names) (ic := ic) hown' hcls hnames h (fun x hx => nomatch hx) hfX hkX hcellA (by rw [hhp, hT]; exact Nat.le_refl _)
    (g := { method := m, pc := pc + 4, locals := ls, stack := .ref T.heap.size :: .ref T.heap.size :: rest, locked := none }) rfl hsize rfl rfl (rest := rest) rfl
    (by rw [hb]; exact d4) (by rw [hb]; exact d7) hout hRframes (by simp only [List.map_cons, List.sum_cons, hcat]; omega) hlocks
  obtain ⟨f1, f2⟩ := vx_frame hsame
  rw [hhp] at f1 f2
  have hWs : s.WarmedH U.vm := State.WarmedH.trans hW0 hW
  have hcl : s.vm.findClass cls = some ce.cls := by
    have h9 := hO.cls
    rw [hvm] at h9
    exact h9
  have hall : s.sameButNew ({ U with vm := s.vm } : State) locs mc ms := by
    subst hA
    obtain ⟨e1, e2⟩ := hsame
    rw [State.setFrames_setFrames] at e1
    have h2 : (T.setVm s.vm).sameButNew ({ U with vm := s.vm } : State) [] (0 + 1) (0 + 6) := ⟨e1, e2⟩
    have h3 := X.same.trans h2
    rw [List.append_nil] at h3
    exact h3.mono hc hs
  refine ⟨U, ?_, .threw T.heap.size, hrun, hend, Or.inr ⟨T.heap.size, rfl, cls, ce, locs, hx U hWs.alike f1 (fun q hq => f2 q hq (fun z hz => nomatch hz)), hce, hO.vm, hcl, hWs, hall, hf⟩⟩
  refine st1 _ ?_
  show Steps p.tables e below (T1.setTop { method := m, pc := pc + 3, locals := ls, stack := .ref T.heap.size :: rest, locked := none }) _
  jvm_step X₁.here [X₁.here.top, hexec, d3', Value.category]
  exact hsteps
/-- 'throw new E("text")': new; dup; ldc; invokespecial; athrow -/
theorem vx_throwS {cc : ByteArray} {pc : Nat} (hexec : p.tables.exec = Jvm.exec) (hb : c.code = cc) (hl : l.stackTraces = false) {own cls text : String} {names : List String} {ik is ic mc ms sa : Nat} {A : Nat → Prop}
    (hown : s.vm.findClass own = some m.cls) (hcls : Bundle.fit cls = true) (hnames : ∀ n ∈ names, Bundle.fit n = true)
    (hk : (Cond.classLink own ik cls).before args s = true) (hini : (Cond.initialized cls).before args s = true) (hstr : vk_R own is text sa s) (hat : ∀ w ∈ vx_atS own ic cls names, w.before args s = true)
    (hgood : ∀ w ∈ Cond.classLink own ik cls :: Cond.initialized cls :: vx_atS own ic cls names, vx_ot w = true)
    (hU : vx_Zq Bundle.tN "UNASSIGNED_STACK" Bundle.steD A s s.heap) (hN : vx_Zq Bundle.tN "SUPPRESSED_SENTINEL" Bundle.listD A s s.heap) (hS : va_S A s.heap H locs) (hsize : ls.size = c.maxLocals)
    (d0 : decode cc pc = .ok (.new ik, 3)) (d3 : decode cc (pc + 3) = .ok (.dup, 1)) (d4 : decode cc (pc + 4) = .ok (.ldc is, 2)) (d6 : decode cc (pc + 6) = .ok (.invokespecial ic, 3)) (d9 : decode cc (pc + 9) = .ok (.athrow, 1))
    (hout : ∀ x ∈ c.exceptionTable.toList, covers x (pc + 9) = false)
    (hRframes : names.length + 3 < R.frames) (hRlocals : (rest.map fun v => v.category).sum + (13 * (names.length + 1) + 43) ≤ R.locals) (hRcells : cells + 1 ≤ R.cells) (hRslots : slots + 6 ≤ R.slots) (hlocks : meth.locks = false)
    (hx : ∀ t : State, s.vm.Alike t.vm → H.size ≤ t.heap.size → (∀ q : Nat, q < H.size → t.heap[q]? = H[q]?) → XC cls s t)
    (hf : ∀ z ∈ locs, free z.base) (hc : cells + 1 ≤ mc) (hs : slots + 6 ≤ ms) :
    W p l e R s m args below meth c H locs cells slots (vx_MQ below Qc XC args s mc ms free) (F0 m pc ls rest) := by
  intro T hT X
  have htr : e.platform.stackTraces = false := (show e.platform.stackTraces = l.stackTraces by rw [X.admits.platform]).trans hl
  have Y := vx_rebase X (R' := { frames := R.frames, locals := R.locals, cells := 1, slots := 6 }) (Nat.le_refl _) (Nat.le_refl _) hRcells hRslots
  obtain ⟨s', hA⟩ : ∃ z, z = (T.setVm s.vm).setFrames (.invoking m args :: below) := ⟨_, rfl⟩
  rw [← hA] at Y
  have hvm : s'.vm = s.vm := by rw [hA]; rfl
  have hhp : s'.heap = H := by rw [hA]; exact hT
  have hW0 : s.WarmedH s'.vm := by rw [hvm]; exact State.WarmedH.refl s
  have hat' : ∀ w ∈ vx_atS own ic cls names, w.before args s' = true := fun w hw => vx_ot_at hW0 hvm.symm (hgood w (List.mem_cons_of_mem _ (List.mem_cons_of_mem _ hw))) (hat w hw)
  have hk' : (Cond.classLink own ik cls).before args s' = true := vx_ot_at hW0 hvm.symm (hgood _ List.mem_cons_self) hk
  have hini' : (Cond.initialized cls).before args s' = true := vx_ot_at hW0 hvm.symm (hgood _ (List.mem_cons_of_mem _ List.mem_cons_self)) hini
  have hU' : vx_Zq Bundle.tN "UNASSIGNED_STACK" Bundle.steD A s' s'.heap := by rw [hhp]; exact vx_Zq.moved hW0.alike (hU.kept hS.2.1)
  have hN' : vx_Zq Bundle.tN "SUPPRESSED_SENTINEL" Bundle.listD A s' s'.heap := by rw [hhp]; exact vx_Zq.moved hW0.alike (hN.kept hS.2.1)
  have h : ∀ w ∈ Bundle.ownAtoms own ic cls names, w.before args s' = true := vx_own hat' (vx_isRefq hU'.1) (vx_isRefq hN'.1) hU'.2.word hN'.2.word
  have hown' : s'.vm.findClass own = some m.cls := by rw [hvm]; exact hown
  have hins : (Cond.instantiable cls 6).before args s' = true := h _ (by simp [Bundle.ownAtoms])
  obtain ⟨vm₁, cX, kX, hfX, hkX, -, -, X₁, st1⟩ := Y.newCold hexec (own := own) (C := cls) (index := ik) (n := 6) hown' hk' hins hini'
    (g := F0 m pc ls rest) rfl (by rw [hb]; exact d0) (Nat.le_refl _) (Nat.le_refl _)
  generalize hT1 : (T.setVm vm₁).pushCell { cls := cX, slots := kX.instanceTypes.map defaultValue, vm := .none } = T1 at X₁ st1
  have hcat : (Value.ref T.heap.size).category = 1 := rfl
  have hcellA : T1.heap[T.heap.size]? = some (freshCell cX kX) := by rw [← hT1]; exact State.heap_pushCell_size _ _
  have d3' : decode c.code (pc + 3) = .ok (.dup, 1) := by rw [hb]; exact d3
  have d4' : decode c.code (pc + 4) = .ok (.ldc is, 2) := by rw [hb]; exact d4
  have hstr' : vk_R own is text sa s' := vk_R.warm hW0 hstr
  obtain ⟨U, hsteps, hrun, hend, hW, hsame, ce, hce, hO⟩ := X₁.ctorThrowS hexec htr (own := own) (cls := cls) (names := names) (ic := ic) hown' hcls hnames h (fun x hx => nomatch hx) hfX hkX hcellA (by rw [hhp, hT]; exact Nat.le_refl _) (msg := .ref sa) rfl
    (g := { method := m, pc := pc + 6, locals := ls, stack := .ref sa :: .ref T.heap.size :: .ref T.heap.size :: rest, locked := none }) rfl hsize rfl rfl (rest := rest) rfl
    (by rw [hb]; exact d6) (by rw [hb]; exact d9) hout hRframes (by simp only [List.map_cons, List.sum_cons, hcat]; omega) hlocks
  obtain ⟨f1, f2⟩ := vx_frame hsame
  rw [hhp] at f1 f2
  have hWs : s.WarmedH U.vm := State.WarmedH.trans hW0 hW
  have hcl : s.vm.findClass cls = some ce.cls := by
    have h9 := hO.cls
    rw [hvm] at h9
    exact h9
  have hall : s.sameButNew ({ U with vm := s.vm } : State) locs mc ms := by
    subst hA
    obtain ⟨e1, e2⟩ := hsame
    rw [State.setFrames_setFrames] at e1
    have h2 : (T.setVm s.vm).sameButNew ({ U with vm := s.vm } : State) [] (0 + 1) (0 + 6) := ⟨e1, e2⟩
    have h3 := X.same.trans h2
    rw [List.append_nil] at h3
    exact h3.mono hc hs
  refine ⟨U, ?_, .threw T.heap.size, hrun, hend, Or.inr ⟨T.heap.size, rfl, cls, ce, locs, hx U hWs.alike f1 (fun q hq => f2 q hq (fun z hz => nomatch hz)), hce, hO.vm, hcl, hWs, hall, hf⟩⟩
  refine st1 _ ?_
  show Steps p.tables e below (T1.setTop { method := m, pc := pc + 3, locals := ls, stack := .ref T.heap.size :: rest, locked := none }) _
  jvm_step X₁.here [X₁.here.top, hexec, d3', Value.category]
  exact X₁.ldcString hexec (own := own) (text := text) (index := is) (a := sa) hown' hstr'.1 hstr'.2
    (g := { method := m, pc := pc + 4, locals := ls, stack := .ref T.heap.size :: .ref T.heap.size :: rest, locked := none }) rfl d4' _ hsteps
/-- 'throw new E("text")', the text by a wide index -/
theorem vx_throwSW {cc : ByteArray} {pc : Nat} (hexec : p.tables.exec = Jvm.exec) (hb : c.code = cc) (hl : l.stackTraces = false) {own cls text : String} {names : List String} {ik is ic mc ms sa : Nat} {A : Nat → Prop}
    (hown : s.vm.findClass own = some m.cls) (hcls : Bundle.fit cls = true) (hnames : ∀ n ∈ names, Bundle.fit n = true)
    (hk : (Cond.classLink own ik cls).before args s = true) (hini : (Cond.initialized cls).before args s = true) (hstr : vk_R own is text sa s) (hat : ∀ w ∈ vx_atS own ic cls names, w.before args s = true)
    (hgood : ∀ w ∈ Cond.classLink own ik cls :: Cond.initialized cls :: vx_atS own ic cls names, vx_ot w = true)
    (hU : vx_Zq Bundle.tN "UNASSIGNED_STACK" Bundle.steD A s s.heap) (hN : vx_Zq Bundle.tN "SUPPRESSED_SENTINEL" Bundle.listD A s s.heap) (hS : va_S A s.heap H locs) (hsize : ls.size = c.maxLocals)
    (d0 : decode cc pc = .ok (.new ik, 3)) (d3 : decode cc (pc + 3) = .ok (.dup, 1)) (d4 : decode cc (pc + 4) = .ok (.ldc_w is, 3)) (d7 : decode cc (pc + 7) = .ok (.invokespecial ic, 3)) (d10 : decode cc (pc + 10) = .ok (.athrow, 1))
    (hout : ∀ x ∈ c.exceptionTable.toList, covers x (pc + 10) = false)
    (hRframes : names.length + 3 < R.frames) (hRlocals : (rest.map fun v => v.category).sum + (13 * (names.length + 1) + 43) ≤ R.locals) (hRcells : cells + 1 ≤ R.cells) (hRslots : slots + 6 ≤ R.slots) (hlocks : meth.locks = false)
    (hx : ∀ t : State, s.vm.Alike t.vm → H.size ≤ t.heap.size → (∀ q : Nat, q < H.size → t.heap[q]? = H[q]?) → XC cls s t)
    (hf : ∀ z ∈ locs, free z.base) (hc : cells + 1 ≤ mc) (hs : slots + 6 ≤ ms) :
    W p l e R s m args below meth c H locs cells slots (vx_MQ below Qc XC args s mc ms free) (F0 m pc ls rest) := by
  intro T hT X
  have htr : e.platform.stackTraces = false := (show e.platform.stackTraces = l.stackTraces by rw [X.admits.platform]).trans hl
  have Y := vx_rebase X (R' := { frames := R.frames, locals := R.locals, cells := 1, slots := 6 }) (Nat.le_refl _) (Nat.le_refl _) hRcells hRslots
  obtain ⟨s', hA⟩ : ∃ z, z = (T.setVm s.vm).setFrames (.invoking m args :: below) := ⟨_, rfl⟩
  rw [← hA] at Y
  have hvm : s'.vm = s.vm := by rw [hA]; rfl
  have hhp : s'.heap = H := by rw [hA]; exact hT
  have hW0 : s.WarmedH s'.vm := by rw [hvm]; exact State.WarmedH.refl s
  have hat' : ∀ w ∈ vx_atS own ic cls names, w.before args s' = true := fun w hw => vx_ot_at hW0 hvm.symm (hgood w (List.mem_cons_of_mem _ (List.mem_cons_of_mem _ hw))) (hat w hw)
  have hk' : (Cond.classLink own ik cls).before args s' = true := vx_ot_at hW0 hvm.symm (hgood _ List.mem_cons_self) hk
  have hini' : (Cond.initialized cls).before args s' = true := vx_ot_at hW0 hvm.symm (hgood _ (List.mem_cons_of_mem _ List.mem_cons_self)) hini
  have hU' : vx_Zq Bundle.tN "UNASSIGNED_STACK" Bundle.steD A s' s'.heap := by rw [hhp]; exact vx_Zq.moved hW0.alike (hU.kept hS.2.1)
  have hN' : vx_Zq Bundle.tN "SUPPRESSED_SENTINEL" Bundle.listD A s' s'.heap := by rw [hhp]; exact vx_Zq.moved hW0.alike (hN.kept hS.2.1)
  have h : ∀ w ∈ Bundle.ownAtoms own ic cls names, w.before args s' = true := vx_own hat' (vx_isRefq hU'.1) (vx_isRefq hN'.1) hU'.2.word hN'.2.word
  have hown' : s'.vm.findClass own = some m.cls := by rw [hvm]; exact hown
  have hins : (Cond.instantiable cls 6).before args s' = true := h _ (by simp [Bundle.ownAtoms])
  obtain ⟨vm₁, cX, kX, hfX, hkX, -, -, X₁, st1⟩ := Y.newCold hexec (own := own) (C := cls) (index := ik) (n := 6) hown' hk' hins hini'
    (g := F0 m pc ls rest) rfl (by rw [hb]; exact d0) (Nat.le_refl _) (Nat.le_refl _)
  generalize hT1 : (T.setVm vm₁).pushCell { cls := cX, slots := kX.instanceTypes.map defaultValue, vm := .none } = T1 at X₁ st1
  have hcat : (Value.ref T.heap.size).category = 1 := rfl
  have hcellA : T1.heap[T.heap.size]? = some (freshCell cX kX) := by rw [← hT1]; exact State.heap_pushCell_size _ _
  have d3' : decode c.code (pc + 3) = .ok (.dup, 1) := by rw [hb]; exact d3
  have d4' : decode c.code (pc + 4) = .ok (.ldc_w is, 3) := by rw [hb]; exact d4
  have hstr' : vk_R own is text sa s' := vk_R.warm hW0 hstr
  obtain ⟨U, hsteps, hrun, hend, hW, hsame, ce, hce, hO⟩ := X₁.ctorThrowS hexec htr (own := own) (cls := cls) (names := names) (ic := ic) hown' hcls hnames h (fun x hx => nomatch hx) hfX hkX hcellA (by rw [hhp, hT]; exact Nat.le_refl _) (msg := .ref sa) rfl
    (g := { method := m, pc := pc + 7, locals := ls, stack := .ref sa :: .ref T.heap.size :: .ref T.heap.size :: rest, locked := none }) rfl hsize rfl rfl (rest := rest) rfl
    (by rw [hb]; exact d7) (by rw [hb]; exact d10) hout hRframes (by simp only [List.map_cons, List.sum_cons, hcat]; omega) hlocks
  obtain ⟨f1, f2⟩ := vx_frame hsame
  rw [hhp] at f1 f2
  have hWs : s.WarmedH U.vm := State.WarmedH.trans hW0 hW
  have hcl : s.vm.findClass cls = some ce.cls := by
    have h9 := hO.cls
    rw [hvm] at h9
    exact h9
  have hall : s.sameButNew ({ U with vm := s.vm } : State) locs mc ms := by
    subst hA
    obtain ⟨e1, e2⟩ := hsame
    rw [State.setFrames_setFrames] at e1
    have h2 : (T.setVm s.vm).sameButNew ({ U with vm := s.vm } : State) [] (0 + 1) (0 + 6) := ⟨e1, e2⟩
    have h3 := X.same.trans h2
    rw [List.append_nil] at h3
    exact h3.mono hc hs
  refine ⟨U, ?_, .threw T.heap.size, hrun, hend, Or.inr ⟨T.heap.size, rfl, cls, ce, locs, hx U hWs.alike f1 (fun q hq => f2 q hq (fun z hz => nomatch hz)), hce, hO.vm, hcl, hWs, hall, hf⟩⟩
  refine st1 _ ?_
  show Steps p.tables e below (T1.setTop { method := m, pc := pc + 3, locals := ls, stack := .ref T.heap.size :: rest, locked := none }) _
  jvm_step X₁.here [X₁.here.top, hexec, d3', Value.category]
  exact X₁.ldcStringW hexec (own := own) (text := text) (index := is) (a := sa) hown' hstr'.1 hstr'.2
    (g := { method := m, pc := pc + 4, locals := ls, stack := .ref T.heap.size :: .ref T.heap.size :: rest, locked := none }) rfl d4' _ hsteps
end Ends
section Bodies
variable {l : Launch}
theorem vx_ofW {y : MethodName} {ws ws' : List Cond} {rm : Room} {Pc : Array Value → State → Prop} {Qc : Array Value → State → Outcome → State → Prop} {XC : String → State → State → Prop} {mc ms : Nat} {free : Addr → Prop} {cc : ByteArray} {maxL : Nat} {ret : Option FieldType}
    (hy : plainName y.cls = true) (hw : ws = Cond.code y cc maxL ret :: ws')
    (body : ∀ p e s m args below meth c s₁, BodyLoose p l y (headSpec ws rm) cc maxL ret e s m args below meth c s₁ → c.maxLocals = maxL → (∀ x ∈ c.exceptionTable.toList, False) → Pc args s →
      W p l e (headSpec ws rm).room s m args below meth c s.heap [] 0 0 (vx_MQ below Qc XC args s mc ms free) (entryFrame m args maxL)) : vx_Met l y ws rm Pc Qc XC mc ms free := by
  refine MetFree.of_bodyS (code := cc) (maxLocals := maxL) (ret := ret) hy ?_ ?_
  · intro args s m h hn
    obtain ⟨meth, c, h1, h2, h3, h4, h5, h6, -, -⟩ := Cond.code_spec hn (atoms_spec (ws := ws) h _ (by rw [hw]; exact List.mem_cons_self))
    exact ⟨meth, c, h1, h2, h3, h4, h5, h6⟩
  · intro p e s m args below meth c s₁ B hml hP _
    have hh0 : s₁.heap = s.heap := by rw [B.state]; rfl
    have ht : ∀ x ∈ c.exceptionTable.toList, False := by
      obtain ⟨meth9, c9, h1, h2, -, -, -, -, h7, -⟩ := Cond.code_spec B.named (atoms_spec (ws := ws) B.pre _ (by rw [hw]; exact List.mem_cons_self))
      cases Option.some.inj (h1.symm.trans B.method)
      cases Option.some.inj (h2.symm.trans (Stand.of_body B).code)
      intro x hx
      rw [Array.isEmpty_iff.mp h7] at hx
      cases hx
    obtain ⟨t, a1, o, b1, b2, b3⟩ := body p e s m args below meth c s₁ B hml ht hP s₁ hh0 (Stand.of_body B)
    exact ⟨t, o, a1, b1, b2, b3⟩
/-- the table of a body with handlers -/
theorem vx_table {p : Program} {x y : MethodName} {S : Spec} {cc bytes : ByteArray} {maxL maxL' : Nat} {ret ret' : Option FieldType} {e : Env} {s s₁ : State} {m : MethodId} {args : Array Value} {below : List Frame} {meth : Method} {c : Code} {hh : List (Nat × Nat × Nat × Nat)}
    (B : BodyLoose p l y S cc maxL ret e s m args below meth c s₁) (h : (Cond.codeWith y bytes maxL' ret' hh).before args s = true) : c.exceptionTable.toList = tableOf hh := by
  obtain ⟨m9, meth9, c9, hn9, h1, h2, -, -, h6, -⟩ := Cond.codeWith_spec h
  cases Option.some.inj (hn9.symm.trans B.named)
  cases Option.some.inj (h1.symm.trans B.method)
  cases Option.some.inj (h2.symm.trans (Stand.of_body B).code)
  rw [← h6, table_eq]
end Bodies
end VXA
/-! ===== END ===== -/
/-! ===== BEGIN a static call of a method with an exception table ===== -/
section VXS
variable {p : Program} {l : Launch} {e : Env} {R : Room} {s : State} {m : MethodId} {args : Array Value} {below : List Frame} {meth : Method} {c : Code} {T : State} {H : Heap} {locs : List Loc} {cells slots : Nat}
abbrev vx_CSW (R : Room) (s : State) (args : Array Value) (own : String) (index : Nat) (y : MethodName) (bytes : ByteArray) (maxL : Nat) (ret : Option FieldType) (hh : List (Nat × Nat × Nat × Nat)) (ws : List Cond) (rm : Room) (mc ms n : Nat) : Prop :=
  (rm.cells = mc ∧ rm.slots = ms ∧ rm.frames + 1 ≤ R.frames ∧ 8 + (maxL + 11) + rm.locals ≤ R.locals ∧ (∀ w ∈ ws, ∀ (a' : Array Value) (U : State), s.WarmedH U.vm → w.before a' U = true) ∧ Cond.codeWith y bytes maxL ret hh ∈ ws) ∧
  (Cond.codeWith y bytes maxL ret hh).before args s = true ∧ (Cond.initialized y.cls).before args s = true ∧ (y.cls ≠ "java/lang/invoke/MethodHandle" ∧ y.cls ≠ "java/lang/invoke/VarHandle") ∧
  (∀ sig, parseMethodDescriptor y.desc = some sig → n = sig.parameters.length) ∧ (Cond.methodLink own index y).before args s = true ∧ (Cond.static y).before args s = true
theorem vx_cwSW {own : String} {index maxL mc ms : Nat} {y : MethodName} {bytes : ByteArray} {ret : Option FieldType} {hh : List (Nat × Nat × Nat × Nat)} {Ts ws ws' : List Cond} {rm : Room} (n : Nat) (ht : ∀ w ∈ Ts, w.before args s = true) (hT : GoodIn Ts (va_wsS own index y ws)) (hw : ws = Cond.codeWith y bytes maxL ret hh :: ws') (hrc : rm.cells = mc) (hrs : rm.slots = ms)
    (hd : y.cls ≠ "java/lang/invoke/MethodHandle" ∧ y.cls ≠ "java/lang/invoke/VarHandle" ∧ (parseMethodDescriptor y.desc).map (fun d => d.parameters.length) = some n) (hR : rm.frames + 1 ≤ R.frames ∧ 8 + (maxL + 11) + rm.locals ≤ R.locals) :
    vx_CSW R s args own index y bytes maxL ret hh ws rm mc ms n := by
  have ok : ∀ w ∈ va_wsS own index y ws, w.before args s = true := fun w h => ht w (hT w h).1
  have hG : GoodIn Ts ws := fun w h => hT w (by unfold va_wsS; exact List.mem_append_right _ h)
  have hc : Cond.codeWith y bytes maxL ret hh ∈ ws := by rw [hw]; exact List.mem_cons_self
  refine ⟨⟨hrc, hrs, hR.1, hR.2, pay_in ht hG, hc⟩, ht _ (hG _ hc).1, ok _ (by simp [va_wsS]), ⟨hd.1, hd.2.1⟩, fun sig h => ?_, ok _ (by simp [va_wsS]), ok _ (by simp [va_wsS])⟩
  have h2 := hd.2.2
  rw [h] at h2
  exact (Option.some.inj h2).symm
theorem vx_callSW (X : Stand p l e R s m args below meth c T locs cells slots) (hexec : p.tables.exec = Jvm.exec) {own : String} {index : Nat} {y : MethodName} {bytes : ByteArray} {maxL : Nat} {ret : Option FieldType} {hh : List (Nat × Nat × Nat × Nat)}
    (hown : s.vm.findClass own = some m.cls) (hlink : (Cond.methodLink own index y).before args s = true) (hstat : (Cond.static y).before args s = true) (hinit : (Cond.initialized y.cls).before args s = true)
    (hcode : (Cond.codeWith y bytes maxL ret hh).before args s = true) (hy : y.cls ≠ "java/lang/invoke/MethodHandle" ∧ y.cls ≠ "java/lang/invoke/VarHandle")
    {W9 : Nat} {Pre : Pt → Array Value → Prop} {Post : Pt → Array Value → Option Value → Pt → Prop} (hK : Back l R p e below s args y 3 W9 Pre Post)
    {g : JFrame} (hg : g.method = m) (hsize : g.locals.size = c.maxLocals) {argsL rest : List Value} (hlen : ∀ sig, parseMethodDescriptor y.desc = some sig → argsL.length = sig.parameters.length)
    (hstack : g.stack = argsL.reverse ++ rest) (hW : 2 * g.monitorRoom + (rest.map fun v => v.category).sum ≤ W9) (hdg : decode c.code g.pc = .ok (.invokestatic index, 3))
    (hpre : ∀ vm₁, s.WarmedH vm₁ → Pre ⟨T.setVm vm₁, locs, cells, slots⟩ argsL.toArray) :
    ∃ (v : Option Value) (vm₁ : Vm) (B : Pt), s.WarmedH vm₁ ∧ Stand p l e R s m args below meth c B.U B.locs B.cells B.slots ∧ Post ⟨T.setVm vm₁, locs, cells, slots⟩ argsL.toArray v B ∧
      ∀ target, Steps p.tables e below (B.U.setTop { g with pc := g.pc + 3, stack := v.toList ++ rest }) target → Steps p.tables e below (T.setTop g) target := by
  obtain ⟨mk, methM, cM, hnamed, hmethM, -, -, -, -, -, -, hsigM⟩ := Cond.codeWith_spec hcode
  have hstatic : methM.isStatic = true := Cond.static_spec hnamed hmethM hstat
  obtain ⟨kP, hkP, -⟩ := className_of_methodNamed hnamed
  have hinitP : kP.init = .initialized := Cond.initialized_spec (findClass_of_methodNamed hnamed) hkP hinit
  obtain ⟨vm₁, X₁, hstep₁⟩ := X.invokestatic hexec hown hlink hnamed hmethM hstatic hkP hinitP hy (g := g) hg (argsL := argsL) (rest := rest) (hlen _ hsigM) hstack hdg
  obtain ⟨v, B, X', hpost, hsteps⟩ := hK m meth c ⟨T.setVm vm₁, locs, cells, slots⟩ { g with stack := rest } (.invokestatic index) mk argsL.toArray X₁ hg hsize hdg hW (X₁.named hnamed) (hpre vm₁ X₁.warmed)
  exact ⟨v, vm₁, B, X₁.warmed, X', hpost, fun target h => hstep₁ _ fun acts => by rw [doInvoke_state]; exact hsteps.trans h⟩
theorem vx_runSW {y : MethodName} {bytes cc : ByteArray} {maxL nL mc ms n index : Nat} {ret : Option FieldType} {hh : List (Nat × Nat × Nat × Nat)} {ws : List Cond} {rm : Room} {Pc : Array Value → State → Prop} {Qc : Array Value → State → Outcome → State → Prop} {free : Addr → Prop} {Ts : List Cond} {own : String} {As rest : List Value} {g : JFrame}
    (S : CallFix p m c cc nL s args Ts own) (hM : Met l y ws rm Pc Qc mc ms free) (cw : vx_CSW R s args own index y bytes maxL ret hh ws rm mc ms n) (hp : PreS s H Pc As)
    (hg : g.method = m) (hn : As.length = n) (hsize : g.locals.size = nL) (hstack : g.stack = As.reverse ++ rest) (hW : 2 * g.monitorRoom + (rest.map fun v => v.category).sum ≤ 8) (hdg : decode cc g.pc = .ok (.invokestatic index, 3)) (hf : cells + mc ≤ R.cells ∧ slots + ms ≤ R.slots) :
    va_Run p l e R s m args below meth c H locs cells slots mc ms g rest (Qc As.toArray) (free) := by
  obtain ⟨⟨hrc, hrs, hfr, hlo, hws, hcw⟩, hcode, hini, hy, hlen, hl, hstt⟩ := cw
  have hK : Back l R p e below s args y 3 8 (PreOf R mc ms Pc) (PostOf Qc mc ms free) := va_backW (hh := hh) (bytes := bytes) (maxL := maxL) (ret := ret) hM hp.1 hrc hrs hfr hlo hws hcw (fun a' U hW => word_at hW (Or.inl (by first | rfl | simp [Cond.onTables, Cond.keeps, Cond.steady])) hini)
  obtain ⟨hx, hb, hml, ho, -⟩ := S
  intro T hT X
  obtain ⟨v, vm₁, ⟨U', l2, c2, s2⟩, hW₁, X', ⟨g', mk, t, L, e1, e2, hq, h1, hL, h2, h3⟩, st⟩ := vx_callSW X hx (hh := hh) (bytes := bytes) (maxL := maxL) (ret := ret) ho hl hstt hini hcode hy hK hg (hsize.trans hml.symm) (argsL := As) (rest := rest) (fun sig h => hn.trans (hlen sig h)) hstack hW (by rw [hb]; exact hdg)
    (fun vm₁ hW₁ => ⟨hf.1, hf.2, hp.2 (T.setVm vm₁) hT hW₁⟩)
  dsimp only [Pt.U, Pt.locs, Pt.cells, Pt.slots] at X' e1 e2 h1 h2 h3 st
  subst h1; subst h2; subst h3
  exact ⟨v, (T.setVm vm₁).calling g' mk As.toArray, t, U', L, hT, X', hL, e1, e2, hq, st⟩
/-- not caught here, past rows that name other classes: it goes on to the caller -/
theorem vx_outP {p : Program} {l : Launch} {e : Env} {R : Room} {s : State} {m : MethodId} {args : Array Value} {below : List Frame} {meth : Method} {c : Code} {H : Heap} {locs : List Loc} {cells slots : Nat} {free : Addr → Prop} {ls : Array Slot} {rest : List Value} {Qc : Array Value → State → Outcome → State → Prop} {XC : String → State → State → Prop}
    {pc : Nat} {own E : String} {ce : Cell} {q : Addr} {mc ms : Nat} (hown : s.vm.findClass own = some m.cls) (hlocks : meth.locks = false)
    (hpass : ∀ z ∈ c.exceptionTable.toList, covers z pc = false ∨ (z.catchType ≠ 0 ∧ ∃ nm : String, (Cond.classLink own z.catchType nm).before args s = true ∧ va_Nc E nm s)) (hcell : H[q]? = some ce) (hv : ce.vm = .none) (hcl : s.vm.findClass E = some ce.cls)
    (hx : ∀ t : State, t.heap = H → s.vm.Alike t.vm → XC E s t) (hf : ∀ z ∈ locs, free z.base) (hc : cells ≤ mc) (hs : slots ≤ ms) :
    vx_W p l e R s m args below meth c H locs cells slots (vx_MQ below Qc XC args s mc ms free) (F0 m pc ls rest) q := by
  intro T hT X
  have hpl : e.platform.magicAccessors = ({} : Platform).magicAccessors := by rw [X.admits.platform]
  obtain ⟨vm', hW', X', st⟩ := X.outThrough hlocks q (g := F0 m pc ls rest) rfl rfl rfl (cell := ce) (by rw [hT]; exact hcell) (by rw [hv]; rfl)
    (by obtain ⟨k9, h9, -⟩ := Vm.findClass_spec hcl; exact ⟨k9, h9⟩) (fun z hz => by
      rcases hpass z hz with h | ⟨hz0, nm, hl1, hn1⟩
      · exact Or.inl h
      · obtain ⟨c6, hc6, hcl6⟩ := Cond.classLink_spec hown hl1 e.platform hpl
        obtain ⟨a8, b8, h1, h2, h3⟩ := hn1
        cases Option.some.inj (h1.symm.trans hcl)
        cases Option.some.inj (h2.symm.trans hc6)
        exact Or.inr ⟨hz0, _, hcl6, h3⟩)
  obtain ⟨g₀, hfr⟩ := X'.frames_eq
  have hcell9 : ((T.setVm vm').setFrames (.throwing q :: below)).heap[q]? = some ce := by
    show T.heap[q]? = some ce
    rw [hT]; exact hcell
  have hend : Ended ((T.setVm vm').setFrames (.throwing q :: below)) below (.threw q) := State.frames_setFrames _ (State.cur_lt_of_frames hfr)
  refine ⟨(T.setVm vm').setFrames (.throwing q :: below), ?_, .threw q, X'.here.running, hend, Or.inr ⟨q, rfl, E, ce, locs, hx _ hT (X'.ends _).1.alike, hcell9, hv, hcl, (X'.ends _).1, (X'.ends _).2.mono hc hs, hf⟩⟩
  rw [X.pushThrowing_eq]
  exact st
/-- a thing of a world lies in the heap -/
theorem vx_lt {D : va_G} {cl : List vw_C} {ws : va_W} {H1 : Heap} (h : va_P D cl ws H1) {k : Nat} {q : Nat × va_E} (hk : ws[k]? = some q) : q.1 < H1.size := (h k q hk).lt
end VXS
/-! ===== END ===== -/
/-! ===== BEGIN methods with a table of their own: called by a name, returning or throwing ===== -/
section VXH
/-! vx_backW, vx_callVX, vx_callSX, vx_callVW, vx_runVW, vx_runVX, vx_runSX, vx_ofWH follow the same proofs as their sisters above (Free/Laws.lean, Shelf42/LK1.lean); vx_outP calls Shelf42/NT130.lean (outThrough). -/
section
variable {l : Launch} {R : Room} {p : Program} {e : Env} {below : List Frame} {s : State} {sargs : Array Value} {y : MethodName} {len W9 : Nat}
theorem vx_backW {ws : List Cond} {rm : Room} {Pc : Array Value → State → Prop} {Qc : Array Value → State → Outcome → State → Prop} {XC : String → State → State → Prop} {mc ms : Nat} {free : Addr → Prop} {bytes : ByteArray} {maxL : Nat} {ret : Option FieldType} {hh : List (Nat × Nat × Nat × Nat)}
    (hM : vx_Met l y ws rm Pc Qc XC mc ms free) (hblind : FrameBlind Pc) (hrc : rm.cells = mc) (hrs : rm.slots = ms)
    (hframes : rm.frames + 1 ≤ R.frames) (hlocals : W9 + (maxL + 11) + rm.locals ≤ R.locals)
    (hws : ∀ w ∈ ws, ∀ a' U, s.WarmedH U.vm → w.before a' U = true) (hcode : Cond.codeWith y bytes maxL ret hh ∈ ws) (hinit : ∀ a' U, s.WarmedH U.vm → (Cond.initialized y.cls).before a' U = true) :
    vx_Back l R p e below s sargs y len W9 (PreOf R mc ms Pc) (PostOf Qc mc ms free) (vx_Post XC mc ms free) := by
  intro m meth c A g ig mk a X hg hsize hdg hW hn hp
  have h1 : (headSpec ws rm).pre.before a A.U = true := atoms_intro fun w hw => hws w hw _ _ X.warmed
  have h2 : (Cond.codeWith y bytes maxL ret hh).before a A.U = true := hws _ hcode _ _ X.warmed
  have h3 : (Cond.initialized y.cls).before a A.U = true := hinit _ _ X.warmed
  have h4 : A.cells + (headSpec ws rm).room.cells ≤ R.cells := by rw [show (headSpec ws rm).room.cells = mc from hrc]; exact hp.1
  have h5 : A.slots + (headSpec ws rm).room.slots ≤ R.slots := by rw [show (headSpec ws rm).room.slots = ms from hrs]; exact hp.2.1
  have hPc : Pc a (A.U.calling g mk a) := hblind _ _ _ _ hp.2.2
  obtain ⟨U, Ls, c0, s0⟩ := A
  dsimp only [Pt.U, Pt.locs, Pt.cells, Pt.slots] at h1 h2 h3 h4 h5 X hn hPc ⊢
  obtain ⟨m9, methY, cY, hn9, hmY, hcY, -, hlY, -⟩ := Cond.codeWith_spec h2
  cases Option.some.inj (hn9.symm.trans hn)
  obtain ⟨kY, hkY, -⟩ := className_of_methodNamed hn
  have hinitY : kY.init = .initialized := Cond.initialized_spec (findClass_of_methodNamed hn) hkY h3
  have h : At U g.method c below := by rw [hg]; exact X.here
  have hlocals9 : W9 + (maxL + 11) + (headSpec ws rm).room.locals ≤ R.locals := hlocals
  have happ : (headSpec ws rm).appliesLoose y e.platform (U.calling g mk a) = true :=
    Spec.appliesLoose_calling (g := g) h hdg hn hkY hinitY
      (X.room_calling (g := g) (R' := (headSpec ws rm).room) hsize hmY hcY hframes (by rw [hlY]; omega) h4 h5) h1
  obtain ⟨mid, hmid⟩ := h.above
  have hfr : (U.setTop g).frames = (.java g :: mid) ++ below := by rw [State.frames_setTop' g h.top, hmid]; rfl
  obtain ⟨o, s₂, hsteps, -, hend, hq⟩ := Steps.callFree hM p X.admits X.cas X.clock (acts := []) hfr happ hPc trivial
  have hq' : vx_Q Qc XC mc ms free a (U.calling g mk a) o s₂ := hq
  rw [State.frames_setTop' g h.top] at hend
  obtain ⟨g₀, hg0⟩ := Option.isSome_iff_exists.mp h.top
  obtain ⟨r, hr⟩ := State.topJava?_eq_some.mp hg0
  have hr' : (({ U with heap := s₂.heap, slotsUsed := s₂.slotsUsed } : State).setVm s₂.vm).frames = .java g₀ :: r := hr
  rcases hq' with ⟨hqc, L, hfe, hL⟩ | ⟨q, rfl, E, ce, L, hx, hce, hcv, hcl, hW₂, hsm, hL⟩
  · obtain ⟨⟨v, rfl⟩, hW₂, e2, q2, q3, q4, q5, q6⟩ := id hfe
    have e3 : s₂ = ({ (U.calling g mk a).setFrames s₂.frames with heap := s₂.heap, slotsUsed := s₂.slotsUsed } : State).setVm s₂.vm := by
      have : s₂ = ({ s₂ with vm := (U.calling g mk a).vm } : State).setVm s₂.vm := rfl
      rw [e2] at this
      exact this
    obtain ⟨c₂, i₂, len₂, hc₂, hd₂, hf₂⟩ := hend
    have hW' : U.WarmedH s₂.vm := hW₂
    have hcc : c₂ = c := by
      have h1 : s₂.code? g.method = U.code? g.method := by
        rw [State.code?_eq, State.code?_eq, hW'.alike.method?]
      exact Option.some.inj (hc₂.symm.trans (h1.trans h.code))
    subst hcc
    have hlen : len₂ = len := by rw [hdg] at hd₂; cases hd₂; rfl
    subst hlen
    have hs₂ : s₂ = (({ U with heap := s₂.heap, slotsUsed := s₂.slotsUsed } : State).setVm s₂.vm).setTop { g with pc := g.pc + len₂, stack := v.toList ++ g.stack } := by
      refine e3.trans ?_
      rw [hf₂, State.calling_eq h.top, State.setFrames_setFrames, State.setTop_of_frames _ hr', hr]
      rfl
    have hsame : U.sameButNew ({ U with heap := s₂.heap, slotsUsed := s₂.slotsUsed } : State) L mc ms := by
      refine ⟨?_, q2, q3, q4, q5, q6⟩
      obtain ⟨t, ht, -⟩ := State.frames_cons hr
      show ({ U with heap := s₂.heap, slotsUsed := s₂.slotsUsed } : State) = { U.setFrames U.frames with heap := s₂.heap, slotsUsed := s₂.slotsUsed }
      rw [State.setFrames_self ht]
    subst hg
    refine Or.inl ⟨v, ⟨(({ U with heap := s₂.heap, slotsUsed := s₂.slotsUsed } : State).setVm s₂.vm), Ls ++ L, c0 + mc, s0 + ms⟩,
      ⟨X.admits, X.cas, X.clock, X.frames, X.room, X.hears, X.method, X.code, (X.here.setHeapUsed s₂.heap s₂.slotsUsed).setVm hW'.alike, X.tail, State.WarmedH.trans X.warmed hW', X.limits, X.bytes, X.same.trans (hsame.setVm s.vm)⟩,
      ⟨g, mk, s₂, L, rfl, rfl, hqc, rfl, hL, rfl, rfl⟩, ?_⟩
    show Steps p.tables e below _ ((({ U with heap := s₂.heap, slotsUsed := s₂.slotsUsed } : State).setVm s₂.vm).setTop { g with pc := g.pc + len₂, stack := v.toList ++ g.stack })
    rw [← hs₂]
    exact hsteps
  · obtain ⟨e2, q2, q3, q4, q5, q6⟩ := id hsm
    have e3 : s₂ = ({ (U.calling g mk a).setFrames s₂.frames with heap := s₂.heap, slotsUsed := s₂.slotsUsed } : State).setVm s₂.vm := by
      have : s₂ = ({ s₂ with vm := (U.calling g mk a).vm } : State).setVm s₂.vm := rfl
      rw [e2] at this
      exact this
    have hf₂ : s₂.frames = .throwing q :: .java g :: U.frames.tail := hend
    have hW' : U.WarmedH s₂.vm := hW₂
    have hs₂ : s₂ = ((({ U with heap := s₂.heap, slotsUsed := s₂.slotsUsed } : State).setVm s₂.vm).setTop g).pushFrame (.throwing q) := by
      refine e3.trans ?_
      rw [hf₂, State.calling_eq h.top, State.setFrames_setFrames, State.pushFrame, State.frames_setTop _ hr', State.setTop_of_frames _ hr', State.setFrames_setFrames, hr]
      rfl
    have hsame : U.sameButNew ({ U with heap := s₂.heap, slotsUsed := s₂.slotsUsed } : State) L mc ms := by
      refine ⟨?_, q2, q3, q4, q5, q6⟩
      obtain ⟨t, ht, -⟩ := State.frames_cons hr
      show ({ U with heap := s₂.heap, slotsUsed := s₂.slotsUsed } : State) = { U.setFrames U.frames with heap := s₂.heap, slotsUsed := s₂.slotsUsed }
      rw [State.setFrames_self ht]
    subst hg
    refine Or.inr ⟨q, ⟨(({ U with heap := s₂.heap, slotsUsed := s₂.slotsUsed } : State).setVm s₂.vm), Ls ++ L, c0 + mc, s0 + ms⟩,
      ⟨X.admits, X.cas, X.clock, X.frames, X.room, X.hears, X.method, X.code, (X.here.setHeapUsed s₂.heap s₂.slotsUsed).setVm hW'.alike, X.tail, State.WarmedH.trans X.warmed hW', X.limits, X.bytes, X.same.trans (hsame.setVm s.vm)⟩,
      ⟨g, mk, s₂, L, E, ce, rfl, rfl, hx, hce, hcv, hcl, rfl, hL, rfl, rfl⟩, ?_⟩
    show Steps p.tables e below _ (((({ U with heap := s₂.heap, slotsUsed := s₂.slotsUsed } : State).setVm s₂.vm).setTop g).pushFrame (.throwing q))
    rw [← hs₂]
    exact hsteps
end
variable {p : Program} {l : Launch} {e : Env} {R : Room} {s : State} {m : MethodId} {args : Array Value} {below : List Frame} {meth : Method} {c : Code} {T : State} {H : Heap} {locs : List Loc} {cells slots : Nat}
theorem vx_callVX (X : Stand p l e R s m args below meth c T locs cells slots) (hexec : p.tables.exec = Jvm.exec) {own C : String} {index : Nat} {y : MethodName} {bytes : ByteArray} {maxL : Nat} {ret : Option FieldType} {hh : List (Nat × Nat × Nat × Nat)}
    (hown : s.vm.findClass own = some m.cls) (hlink : (Cond.methodLink own index y).before args s = true) (hinst : (Cond.instanceMethod y).before args s = true) (hsel : (Cond.selects C y y).before args s = true)
    (hcode : (Cond.codeWith y bytes maxL ret hh).before args s = true) (hy : y.cls ≠ "java/lang/invoke/MethodHandle" ∧ y.cls ≠ "java/lang/invoke/VarHandle")
    {W9 : Nat} {Pre : Pt → Array Value → Prop} {Post : Pt → Array Value → Option Value → Pt → Prop} {PostX : Pt → Array Value → Addr → Pt → Prop} (hK : vx_Back l R p e below s args y 3 W9 Pre Post PostX)
    {b : Addr} {cellB : Cell} (hcell : T.heap[b]? = some cellB) (hobj : cellB.vm.isStatics = false) (hcls : s.vm.findClass C = some cellB.cls)
    {g : JFrame} (hg : g.method = m) (hsize : g.locals.size = c.maxLocals) {argsL rest : List Value} (hlen : ∀ sig, parseMethodDescriptor y.desc = some sig → argsL.length = sig.parameters.length)
    (hstack : g.stack = argsL.reverse ++ .ref b :: rest) (hW : 2 * g.monitorRoom + (rest.map fun v => v.category).sum ≤ W9) (hdg : decode c.code g.pc = .ok (.invokevirtual index, 3))
    (hpre : ∀ vm₁, s.WarmedH vm₁ → Pre ⟨T.setVm vm₁, locs, cells, slots⟩ (Value.ref b :: argsL).toArray) :
    (∃ (v : Option Value) (vm₁ : Vm) (B : Pt), s.WarmedH vm₁ ∧ Stand p l e R s m args below meth c B.U B.locs B.cells B.slots ∧ Post ⟨T.setVm vm₁, locs, cells, slots⟩ (Value.ref b :: argsL).toArray v B ∧
      ∀ target, Steps p.tables e below (B.U.setTop { g with pc := g.pc + 3, stack := v.toList ++ rest }) target → Steps p.tables e below (T.setTop g) target) ∨
    (∃ (q : Addr) (vm₁ : Vm) (B : Pt), s.WarmedH vm₁ ∧ Stand p l e R s m args below meth c B.U B.locs B.cells B.slots ∧ PostX ⟨T.setVm vm₁, locs, cells, slots⟩ (Value.ref b :: argsL).toArray q B ∧
      Steps p.tables e below (T.setTop g) ((B.U.setTop { g with stack := rest }).pushFrame (.throwing q))) := by
  obtain ⟨mk, methM, hnamed, hmethM, hstM, habM⟩ := Cond.instanceMethod_spec hinst
  obtain ⟨m8, methM', cM, hn8, hmethM', -, -, -, -, -, -, hsigM⟩ := Cond.codeWith_spec hcode
  cases Option.some.inj (hn8.symm.trans hnamed)
  cases hmethM.symm.trans hmethM'
  obtain ⟨c2, r2, m2, q1, q2, q3, q4, kP, hkP, hkPi⟩ := Cond.selects_spec hsel
  cases hcls.symm.trans q1
  cases (State.methodFound?_of_named hnamed hy).symm.trans q2
  cases hnamed.symm.trans q3
  have hselP : selectMethod e.platform s.vm cellB.cls mk = .method mk := by rw [Launch.admits_selectMethod X.admits]; exact q4
  obtain ⟨vm₁, X₁, hstep₁⟩ := X.invokevirtual hexec hown hlink hnamed hmethM hstM hkP hkPi hy (a := b) (cell := cellB) hcell
    (fun z h => by rw [h] at hobj; cases hobj) hselP hmethM habM hkP hkPi (g := g) hg (argsL := argsL) (rest := rest) (hlen _ hsigM) hstack hdg
  rcases hK m meth c ⟨T.setVm vm₁, locs, cells, slots⟩ { g with stack := rest } (.invokevirtual index) mk (Value.ref b :: argsL).toArray X₁ hg hsize hdg hW (X₁.named hnamed) (hpre vm₁ X₁.warmed) with ⟨v, B, X', hpost, hsteps⟩ | ⟨q, B, X', hpost, hsteps⟩
  · exact Or.inl ⟨v, vm₁, B, X₁.warmed, X', hpost, fun target h => hstep₁ _ fun acts => by rw [doInvoke_state]; exact hsteps.trans h⟩
  · exact Or.inr ⟨q, vm₁, B, X₁.warmed, X', hpost, hstep₁ _ fun acts => by rw [doInvoke_state]; exact hsteps⟩
theorem vx_callSX (X : Stand p l e R s m args below meth c T locs cells slots) (hexec : p.tables.exec = Jvm.exec) {own : String} {index : Nat} {y : MethodName} {bytes : ByteArray} {maxL : Nat} {ret : Option FieldType} {hh : List (Nat × Nat × Nat × Nat)}
    (hown : s.vm.findClass own = some m.cls) (hlink : (Cond.methodLink own index y).before args s = true) (hstat : (Cond.static y).before args s = true) (hinit : (Cond.initialized y.cls).before args s = true)
    (hcode : (Cond.codeWith y bytes maxL ret hh).before args s = true) (hy : y.cls ≠ "java/lang/invoke/MethodHandle" ∧ y.cls ≠ "java/lang/invoke/VarHandle")
    {W9 : Nat} {Pre : Pt → Array Value → Prop} {Post : Pt → Array Value → Option Value → Pt → Prop} {PostX : Pt → Array Value → Addr → Pt → Prop} (hK : vx_Back l R p e below s args y 3 W9 Pre Post PostX)
    {g : JFrame} (hg : g.method = m) (hsize : g.locals.size = c.maxLocals) {argsL rest : List Value} (hlen : ∀ sig, parseMethodDescriptor y.desc = some sig → argsL.length = sig.parameters.length)
    (hstack : g.stack = argsL.reverse ++ rest) (hW : 2 * g.monitorRoom + (rest.map fun v => v.category).sum ≤ W9) (hdg : decode c.code g.pc = .ok (.invokestatic index, 3))
    (hpre : ∀ vm₁, s.WarmedH vm₁ → Pre ⟨T.setVm vm₁, locs, cells, slots⟩ argsL.toArray) :
    (∃ (v : Option Value) (vm₁ : Vm) (B : Pt), s.WarmedH vm₁ ∧ Stand p l e R s m args below meth c B.U B.locs B.cells B.slots ∧ Post ⟨T.setVm vm₁, locs, cells, slots⟩ argsL.toArray v B ∧
      ∀ target, Steps p.tables e below (B.U.setTop { g with pc := g.pc + 3, stack := v.toList ++ rest }) target → Steps p.tables e below (T.setTop g) target) ∨
    (∃ (q : Addr) (vm₁ : Vm) (B : Pt), s.WarmedH vm₁ ∧ Stand p l e R s m args below meth c B.U B.locs B.cells B.slots ∧ PostX ⟨T.setVm vm₁, locs, cells, slots⟩ argsL.toArray q B ∧
      Steps p.tables e below (T.setTop g) ((B.U.setTop { g with stack := rest }).pushFrame (.throwing q))) := by
  obtain ⟨mk, methM, cM, hnamed, hmethM, -, -, -, -, -, -, hsigM⟩ := Cond.codeWith_spec hcode
  have hstatic : methM.isStatic = true := Cond.static_spec hnamed hmethM hstat
  obtain ⟨kP, hkP, -⟩ := className_of_methodNamed hnamed
  have hinitP : kP.init = .initialized := Cond.initialized_spec (findClass_of_methodNamed hnamed) hkP hinit
  obtain ⟨vm₁, X₁, hstep₁⟩ := X.invokestatic hexec hown hlink hnamed hmethM hstatic hkP hinitP hy (g := g) hg (argsL := argsL) (rest := rest) (hlen _ hsigM) hstack hdg
  rcases hK m meth c ⟨T.setVm vm₁, locs, cells, slots⟩ { g with stack := rest } (.invokestatic index) mk argsL.toArray X₁ hg hsize hdg hW (X₁.named hnamed) (hpre vm₁ X₁.warmed) with ⟨v, B, X', hpost, hsteps⟩ | ⟨q, B, X', hpost, hsteps⟩
  · exact Or.inl ⟨v, vm₁, B, X₁.warmed, X', hpost, fun target h => hstep₁ _ fun acts => by rw [doInvoke_state]; exact hsteps.trans h⟩
  · exact Or.inr ⟨q, vm₁, B, X₁.warmed, X', hpost, hstep₁ _ fun acts => by rw [doInvoke_state]; exact hsteps⟩
theorem vx_callVW (X : Stand p l e R s m args below meth c T locs cells slots) (hexec : p.tables.exec = Jvm.exec) {own C : String} {index : Nat} {y : MethodName} {bytes : ByteArray} {maxL : Nat} {ret : Option FieldType} {hh : List (Nat × Nat × Nat × Nat)}
    (hown : s.vm.findClass own = some m.cls) (hlink : (Cond.methodLink own index y).before args s = true) (hinst : (Cond.instanceMethod y).before args s = true) (hsel : (Cond.selects C y y).before args s = true)
    (hcode : (Cond.codeWith y bytes maxL ret hh).before args s = true) (hy : y.cls ≠ "java/lang/invoke/MethodHandle" ∧ y.cls ≠ "java/lang/invoke/VarHandle")
    {W9 : Nat} {Pre : Pt → Array Value → Prop} {Post : Pt → Array Value → Option Value → Pt → Prop} (hK : Back l R p e below s args y 3 W9 Pre Post)
    {b : Addr} {cellB : Cell} (hcell : T.heap[b]? = some cellB) (hobj : cellB.vm.isStatics = false) (hcls : s.vm.findClass C = some cellB.cls)
    {g : JFrame} (hg : g.method = m) (hsize : g.locals.size = c.maxLocals) {argsL rest : List Value} (hlen : ∀ sig, parseMethodDescriptor y.desc = some sig → argsL.length = sig.parameters.length)
    (hstack : g.stack = argsL.reverse ++ .ref b :: rest) (hW : 2 * g.monitorRoom + (rest.map fun v => v.category).sum ≤ W9) (hdg : decode c.code g.pc = .ok (.invokevirtual index, 3))
    (hpre : ∀ vm₁, s.WarmedH vm₁ → Pre ⟨T.setVm vm₁, locs, cells, slots⟩ (Value.ref b :: argsL).toArray) :
    ∃ (v : Option Value) (vm₁ : Vm) (B : Pt), s.WarmedH vm₁ ∧ Stand p l e R s m args below meth c B.U B.locs B.cells B.slots ∧ Post ⟨T.setVm vm₁, locs, cells, slots⟩ (Value.ref b :: argsL).toArray v B ∧
      ∀ target, Steps p.tables e below (B.U.setTop { g with pc := g.pc + 3, stack := v.toList ++ rest }) target → Steps p.tables e below (T.setTop g) target := by
  obtain ⟨mk, methM, hnamed, hmethM, hstM, habM⟩ := Cond.instanceMethod_spec hinst
  obtain ⟨m8, methM', cM, hn8, hmethM', -, -, -, -, -, -, hsigM⟩ := Cond.codeWith_spec hcode
  cases Option.some.inj (hn8.symm.trans hnamed)
  cases hmethM.symm.trans hmethM'
  obtain ⟨c2, r2, m2, q1, q2, q3, q4, kP, hkP, hkPi⟩ := Cond.selects_spec hsel
  cases hcls.symm.trans q1
  cases (State.methodFound?_of_named hnamed hy).symm.trans q2
  cases hnamed.symm.trans q3
  have hselP : selectMethod e.platform s.vm cellB.cls mk = .method mk := by rw [Launch.admits_selectMethod X.admits]; exact q4
  obtain ⟨vm₁, X₁, hstep₁⟩ := X.invokevirtual hexec hown hlink hnamed hmethM hstM hkP hkPi hy (a := b) (cell := cellB) hcell
    (fun z h => by rw [h] at hobj; cases hobj) hselP hmethM habM hkP hkPi (g := g) hg (argsL := argsL) (rest := rest) (hlen _ hsigM) hstack hdg
  obtain ⟨v, B, X', hpost, hsteps⟩ := hK m meth c ⟨T.setVm vm₁, locs, cells, slots⟩ { g with stack := rest } (.invokevirtual index) mk (Value.ref b :: argsL).toArray X₁ hg hsize hdg hW (X₁.named hnamed) (hpre vm₁ X₁.warmed)
  exact ⟨v, vm₁, B, X₁.warmed, X', hpost, fun target h => hstep₁ _ fun acts => by rw [doInvoke_state]; exact hsteps.trans h⟩
abbrev vx_CVW (R : Room) (s : State) (args : Array Value) (own C : String) (index : Nat) (y : MethodName) (bytes : ByteArray) (maxL : Nat) (ret : Option FieldType) (hh : List (Nat × Nat × Nat × Nat)) (ws : List Cond) (rm : Room) (mc ms n : Nat) : Prop :=
  (rm.cells = mc ∧ rm.slots = ms ∧ rm.frames + 1 ≤ R.frames ∧ 8 + (maxL + 11) + rm.locals ≤ R.locals ∧ (∀ w ∈ ws, ∀ (a' : Array Value) (U : State), s.WarmedH U.vm → w.before a' U = true) ∧ Cond.codeWith y bytes maxL ret hh ∈ ws) ∧
  (Cond.codeWith y bytes maxL ret hh).before args s = true ∧ (Cond.initialized y.cls).before args s = true ∧ (y.cls ≠ "java/lang/invoke/MethodHandle" ∧ y.cls ≠ "java/lang/invoke/VarHandle") ∧
  (∀ sig, parseMethodDescriptor y.desc = some sig → n = sig.parameters.length) ∧ (Cond.methodLink own index y).before args s = true ∧ (Cond.instanceMethod y).before args s = true ∧ (Cond.selects C y y).before args s = true
theorem vx_cwVW {own C : String} {index maxL mc ms : Nat} {y : MethodName} {bytes : ByteArray} {ret : Option FieldType} {hh : List (Nat × Nat × Nat × Nat)} {Ts ws ws' : List Cond} {rm : Room} (n : Nat) (ht : ∀ w ∈ Ts, w.before args s = true) (hT : GoodIn Ts (wsV own index C y ws)) (hw : ws = Cond.codeWith y bytes maxL ret hh :: ws') (hrc : rm.cells = mc) (hrs : rm.slots = ms)
    (hd : y.cls = C ∧ y.cls ≠ "java/lang/invoke/MethodHandle" ∧ y.cls ≠ "java/lang/invoke/VarHandle" ∧ (parseMethodDescriptor y.desc).map (fun d => d.parameters.length) = some n) (hR : rm.frames + 1 ≤ R.frames ∧ 8 + (maxL + 11) + rm.locals ≤ R.locals) :
    vx_CVW R s args own C index y bytes maxL ret hh ws rm mc ms n := by
  obtain ⟨hC, hd⟩ := hd
  subst hC
  have ok : ∀ w ∈ wsV own index y.cls y ws, w.before args s = true := fun w h => ht w (hT w h).1
  have hG : GoodIn Ts ws := fun w h => hT w (by unfold wsV; exact List.mem_append_right _ h)
  have hc : Cond.codeWith y bytes maxL ret hh ∈ ws := by rw [hw]; exact List.mem_cons_self
  refine ⟨⟨hrc, hrs, hR.1, hR.2, pay_in ht hG, hc⟩, ht _ (hG _ hc).1, ok _ (by simp [wsV]), ⟨hd.1, hd.2.1⟩, fun sig h => ?_, ok _ (by simp [wsV]), ok _ (by simp [wsV]), ok _ (by simp [wsV])⟩
  have h2 := hd.2.2
  rw [h] at h2
  exact (Option.some.inj h2).symm
theorem vx_runVW {y : MethodName} {bytes cc : ByteArray} {maxL nL mc ms n index : Nat} {ret : Option FieldType} {hh : List (Nat × Nat × Nat × Nat)} {ws : List Cond} {rm : Room} {Pc : Array Value → State → Prop} {Qc : Array Value → State → Outcome → State → Prop} {free : Addr → Prop} {Ts : List Cond} {own C : String} {b : Addr} {As rest : List Value} {g : JFrame}
    (S : CallFix p m c cc nL s args Ts own) (hM : Met l y ws rm Pc Qc mc ms free) (cw : vx_CVW R s args own C index y bytes maxL ret hh ws rm mc ms n) (hp : PreV s H C b Pc As)
    (hg : g.method = m) (hn : As.length = n) (hsize : g.locals.size = nL) (hstack : g.stack = As.reverse ++ .ref b :: rest) (hW : 2 * g.monitorRoom + (rest.map fun v => v.category).sum ≤ 8) (hdg : decode cc g.pc = .ok (.invokevirtual index, 3)) (hf : cells + mc ≤ R.cells ∧ slots + ms ≤ R.slots) :
    va_Run p l e R s m args below meth c H locs cells slots mc ms g rest (Qc (Value.ref b :: As).toArray) free := by
  obtain ⟨⟨hrc, hrs, hfr, hlo, hws, hcw⟩, hcode, hini, hy, hlen, hl, hin, hse⟩ := cw
  have hK : Back l R p e below s args y 3 8 (PreOf R mc ms Pc) (PostOf Qc mc ms free) := va_backW (hh := hh) (bytes := bytes) (maxL := maxL) (ret := ret) hM hp.1 hrc hrs hfr hlo hws hcw (fun a' U hW => word_at hW (Or.inl (by first | rfl | simp [Cond.onTables, Cond.keeps, Cond.steady])) hini)
  obtain ⟨hx, hb, hml, ho, -⟩ := S
  obtain ⟨-, ⟨cellB, hcB, hoB, hclB⟩, hPc⟩ := hp
  intro T hT X
  obtain ⟨v, vm₁, ⟨U', l2, c2, s2⟩, hW₁, X', ⟨g', mk, t, L, e1, e2, hq, h1, hL, h2, h3⟩, st⟩ := vx_callVW X hx (C := C) (hh := hh) (bytes := bytes) (maxL := maxL) (ret := ret) ho hl hin hse hcode hy hK (by rw [hT]; exact hcB) hoB hclB hg (hsize.trans hml.symm) (argsL := As) (rest := rest) (fun sig h => hn.trans (hlen sig h)) hstack hW (by rw [hb]; exact hdg)
    (fun vm₁ hW₁ => ⟨hf.1, hf.2, hPc (T.setVm vm₁) hT hW₁⟩)
  dsimp only [Pt.U, Pt.locs, Pt.cells, Pt.slots] at X' e1 e2 h1 h2 h3 st
  subst h1; subst h2; subst h3
  exact ⟨v, (T.setVm vm₁).calling g' mk (Value.ref b :: As).toArray, t, U', L, hT, X', hL, e1, e2, hq, st⟩
section
variable {y : MethodName} {bytes cc : ByteArray} {maxL nL mc ms n index : Nat} {ret : Option FieldType} {ws : List Cond} {rm : Room} {Pc : Array Value → State → Prop} {Qc : Array Value → State → Outcome → State → Prop} {XC : String → State → State → Prop} {free : Addr → Prop} {Ts : List Cond} {own C : String} {b : Addr} {As rest : List Value} {g : JFrame}
theorem vx_runVX {hh : List (Nat × Nat × Nat × Nat)} (S : CallFix p m c cc nL s args Ts own) (hM : vx_Met l y ws rm Pc Qc XC mc ms free) (cw : vx_CVW R s args own C index y bytes maxL ret hh ws rm mc ms n) (hp : PreV s H C b Pc As)
    (hg : g.method = m) (hn : As.length = n) (hsize : g.locals.size = nL) (hstack : g.stack = As.reverse ++ .ref b :: rest) (hW : 2 * g.monitorRoom + (rest.map fun v => v.category).sum ≤ 8) (hdg : decode cc g.pc = .ok (.invokevirtual index, 3)) (hf : cells + mc ≤ R.cells ∧ slots + ms ≤ R.slots) :
    vx_Run p l e R s m args below meth c H locs cells slots mc ms g rest (Qc (Value.ref b :: As).toArray) XC free := by
  obtain ⟨⟨hrc, hrs, hfr, hlo, hws, hcw⟩, hcode, hini, hy, hlen, hl, hin, hse⟩ := cw
  have hK : vx_Back l R p e below s args y 3 8 (PreOf R mc ms Pc) (PostOf Qc mc ms free) (vx_Post XC mc ms free) := vx_backW (hh := hh) (bytes := bytes) (maxL := maxL) (ret := ret) hM hp.1 hrc hrs hfr hlo hws hcw (fun a' U hW => word_at hW (Or.inl (by first | rfl | simp [Cond.onTables, Cond.keeps, Cond.steady])) hini)
  obtain ⟨hx, hb, hml, ho, -⟩ := S
  obtain ⟨-, ⟨cellB, hcB, hoB, hclB⟩, hPc⟩ := hp
  intro T hT X
  rcases vx_callVX X hx (C := C) (hh := hh) (bytes := bytes) (maxL := maxL) (ret := ret) ho hl hin hse hcode hy hK (by rw [hT]; exact hcB) hoB hclB hg (hsize.trans hml.symm) (argsL := As) (rest := rest) (fun sig h => hn.trans (hlen sig h)) hstack hW (by rw [hb]; exact hdg)
    (fun vm₁ hW₁ => ⟨hf.1, hf.2, hPc (T.setVm vm₁) hT hW₁⟩) with ⟨v, vm₁, ⟨U', l2, c2, s2⟩, hW₁, X', ⟨g', mk, t, L, e1, e2, hq, h1, hL, h2, h3⟩, st⟩ | ⟨q, vm₁, ⟨U', l2, c2, s2⟩, hW₁, X', ⟨g', mk, t, L, E, ce, e1, e2, hq, hce, hcv, hcl, h1, hL, h2, h3⟩, st⟩
  · dsimp only [Pt.U, Pt.locs, Pt.cells, Pt.slots] at X' e1 e2 h1 h2 h3 st
    subst h1; subst h2; subst h3
    exact Or.inl ⟨v, (T.setVm vm₁).calling g' mk (Value.ref b :: As).toArray, t, U', L, hT, X', hL, e1, e2, hq, st⟩
  · dsimp only [Pt.U, Pt.locs, Pt.cells, Pt.slots] at X' e1 e2 h1 h2 h3 st hcl
    subst h1; subst h2; subst h3
    exact Or.inr ⟨q, (T.setVm vm₁).calling g' mk (Value.ref b :: As).toArray, t, U', L, E, ce, hT, X', hL, e1, e2, hq, hce, hcv, vx_cls hW₁ hcl, st⟩
theorem vx_runSX {hh : List (Nat × Nat × Nat × Nat)} (S : CallFix p m c cc nL s args Ts own) (hM : vx_Met l y ws rm Pc Qc XC mc ms free) (cw : vx_CSW R s args own index y bytes maxL ret hh ws rm mc ms n) (hp : PreS s H Pc As)
    (hg : g.method = m) (hn : As.length = n) (hsize : g.locals.size = nL) (hstack : g.stack = As.reverse ++ rest) (hW : 2 * g.monitorRoom + (rest.map fun v => v.category).sum ≤ 8) (hdg : decode cc g.pc = .ok (.invokestatic index, 3)) (hf : cells + mc ≤ R.cells ∧ slots + ms ≤ R.slots) :
    vx_Run p l e R s m args below meth c H locs cells slots mc ms g rest (Qc As.toArray) XC free := by
  obtain ⟨⟨hrc, hrs, hfr, hlo, hws, hcw⟩, hcode, hini, hy, hlen, hl, hstt⟩ := cw
  have hK : vx_Back l R p e below s args y 3 8 (PreOf R mc ms Pc) (PostOf Qc mc ms free) (vx_Post XC mc ms free) := vx_backW (hh := hh) (bytes := bytes) (maxL := maxL) (ret := ret) hM hp.1 hrc hrs hfr hlo hws hcw (fun a' U hW => word_at hW (Or.inl (by first | rfl | simp [Cond.onTables, Cond.keeps, Cond.steady])) hini)
  obtain ⟨hx, hb, hml, ho, -⟩ := S
  intro T hT X
  rcases vx_callSX X hx (hh := hh) (bytes := bytes) (maxL := maxL) (ret := ret) ho hl hstt hini hcode hy hK hg (hsize.trans hml.symm) (argsL := As) (rest := rest) (fun sig h => hn.trans (hlen sig h)) hstack hW (by rw [hb]; exact hdg)
    (fun vm₁ hW₁ => ⟨hf.1, hf.2, hp.2 (T.setVm vm₁) hT hW₁⟩) with ⟨v, vm₁, ⟨U', l2, c2, s2⟩, hW₁, X', ⟨g', mk, t, L, e1, e2, hq, h1, hL, h2, h3⟩, st⟩ | ⟨q, vm₁, ⟨U', l2, c2, s2⟩, hW₁, X', ⟨g', mk, t, L, E, ce, e1, e2, hq, hce, hcv, hcl, h1, hL, h2, h3⟩, st⟩
  · dsimp only [Pt.U, Pt.locs, Pt.cells, Pt.slots] at X' e1 e2 h1 h2 h3 st
    subst h1; subst h2; subst h3
    exact Or.inl ⟨v, (T.setVm vm₁).calling g' mk As.toArray, t, U', L, hT, X', hL, e1, e2, hq, st⟩
  · dsimp only [Pt.U, Pt.locs, Pt.cells, Pt.slots] at X' e1 e2 h1 h2 h3 st hcl
    subst h1; subst h2; subst h3
    exact Or.inr ⟨q, (T.setVm vm₁).calling g' mk As.toArray, t, U', L, E, ce, hT, X', hL, e1, e2, hq, hce, hcv, vx_cls hW₁ hcl, st⟩
end
end VXH
theorem vx_ofWH {l : Launch} {y : MethodName} {ws ws' : List Cond} {rm : Room} {Pc : Array Value → State → Prop} {Qc : Array Value → State → Outcome → State → Prop} {XC : String → State → State → Prop} {mc ms : Nat} {free : Addr → Prop} {cc : ByteArray} {maxL : Nat} {ret : Option FieldType} {hh : List (Nat × Nat × Nat × Nat)}
    (hy : plainName y.cls = true) (hw : ws = Cond.codeWith y cc maxL ret hh :: ws')
    (body : ∀ p e s m args below meth c s₁, BodyLoose p l y (headSpec ws rm) cc maxL ret e s m args below meth c s₁ → c.maxLocals = maxL → Pc args s →
      W p l e (headSpec ws rm).room s m args below meth c s.heap [] 0 0 (vx_MQ below Qc XC args s mc ms free) (entryFrame m args maxL)) : vx_Met l y ws rm Pc Qc XC mc ms free := by
  refine MetFree.of_bodyS (code := cc) (maxLocals := maxL) (ret := ret) hy ?_ ?_
  · intro args s m h hn
    obtain ⟨m9, meth, c, hn9, h1, h2, h3, h4, -, h5, h6, -⟩ := Cond.codeWith_spec (atoms_spec (ws := ws) h _ (by rw [hw]; exact List.mem_cons_self))
    cases hn.symm.trans hn9
    exact ⟨meth, c, h1, h2, h3, h4, h5, h6⟩
  · intro p e s m args below meth c s₁ B hml hP _
    have hh0 : s₁.heap = s.heap := by rw [B.state]; rfl
    obtain ⟨t, a1, o, b1, b2, b3⟩ := body p e s m args below meth c s₁ B hml hP s₁ hh0 (Stand.of_body B)
    exact ⟨t, o, a1, b1, b2, b3⟩
/-! ===== END ===== -/
/-! ===== BEGIN what the machine throws by itself, no traces kept ===== -/
section VXM
set_option maxHeartbeats 1000000 in
/-- the machine throws cls with the message text, no traces kept: from its note over the frame g to 'throwing' over the same frame (follows the proofs of Stand.vmThrowsMessage, Shelf/KitTracedVmS.lean, and Stand.throwsMessageColdBareV, StandMessageColdV.lean, without the step out of the frame) -/
theorem vx_vmAt {p : Program} {l : Launch} {e : Env} {R : Room} {s : State} {m₀ : MethodId} {args : Array Value} {below : List Frame} {meth : Method} {c : Code} {W : State} {locs : List Loc} {cells slots : Nat}
    (X : Stand p l e R s m₀ args below meth c W locs cells slots) (hexec : p.tables.exec = Jvm.exec) (htr : e.platform.stackTraces = false) {cls : String} {names : List String} {text : String}
    (hcls : Bundle.fit cls = true) (hnames : ∀ n ∈ names, Bundle.fit n = true) (hsoe : (cls == "java/lang/StackOverflowError") = false) (hoom : (cls == "java/lang/OutOfMemoryError") = false)
    (h : ∀ a ∈ Bundle.messageArmAtoms cls names, a.before args s = true)
    (hlocs : ∀ x ∈ locs, ∀ cell, s.heap[x.base]? = some cell → cell.vm.isStatics = false)
    (htext : (text == notModelled) = false) (hlimit : ¬ (stringBytes (stringToUtf16 text)).size > e.platform.arrayLengthLimit) (hheap : ¬ (stringBytes (stringToUtf16 text)).size * componentBytes .byte > e.platform.maxHeapBytes)
    {g : JFrame} (hg : g.method = m₀) (hsize : g.locals.size = c.maxLocals)
    (hRframes : names.length + 4 < R.frames) (hRlocals : 2 * g.monitorRoom + (g.stack.map fun v => v.category).sum + 10240 ≤ R.locals) (hshort : 13 * names.length + 55 ≤ 10240)
    (hRcells : cells + 3 ≤ R.cells) (hRslots : slots + ((stringBytes (stringToUtf16 text)).size + 4 + 6) ≤ R.slots) (hlocks : meth.locks = false) :
    ∃ (S : State) (q : Addr) (ce : Cell), (∀ target, Steps p.tables e below ((S.setTop g).pushFrame (.throwing q)) target → Steps p.tables e below ((W.setTop g).pushFrame (.throwNew cls (some text) none)) target) ∧
      Stand p l e R s m₀ args below meth c S locs (cells + 3) (slots + ((stringBytes (stringToUtf16 text)).size + 4 + 6)) ∧ S.heap[q]? = some ce ∧ s.vm.findClass cls = some ce.cls ∧ ce.vm = .none := by
  have howns : e.platform.frameOwnsMonitors = true := by rw [X.admits.platform]
  have hfin : e.platform.finalization = false := by rw [X.admits.platform]
  have hpl : e.platform.magicAccessors = ({} : Platform).magicAccessors := by rw [X.admits.platform]
  have a : ∀ x, x ∈ Bundle.messageArmAtoms cls names → x.holds args s none s [] = true := fun x hx => h x hx
  obtain ⟨T, Z0, L, -, Y⟩ := ThrowableC.of_atoms (args := args) howns hfin hpl (fun x hx => h x (by simp [Bundle.messageArmAtoms, hx]))
  obtain ⟨Z, M, LZ, LM, hnZ⟩ := Init0T.ofS_atoms (args := args) hpl L Y (fun x hx => h x (by simp [Bundle.messageArmAtoms, hx]))
  obtain ⟨P1, Ps, hlen, L1, hL, hP1m, hlink1, hlink⟩ := Bundle.chainS (args := args) hpl hnZ names cls hcls hnames (fun x hx => h x (by simp [Bundle.messageArmAtoms, hx]))
  obtain ⟨Zs, LZs, hn4, hfitv, hfitc⟩ := StringT.of_atoms (args := args) (fun x hx => h x (by simp [Bundle.messageArmAtoms, hx]))
  have hfound : s.vm.findClass cls = some P1.m.cls := findClass_of_methodNamed hP1m
  obtain ⟨c1, kX, hc1, hk, hord, -, -, hn6⟩ := Cond.instantiable_spec (a (.instantiable cls 6) (by simp [Bundle.messageArmAtoms]))
  cases Option.some.inj (hc1.symm.trans hfound)
  have hinit := Cond.initialized_spec hfound hk (a (.initialized cls) (by simp [Bundle.messageArmAtoms]))
  have hctor : kX.findMethod "<init>" "(Ljava/lang/String;)V" = some P1.m.idx := findMethod_of_methodNamed hP1m hk
  have hsel0 : selectMethod e.platform s.vm P1.m.cls T.fill0 = .method T.fill0 := by
    obtain ⟨c2, r2, m2, q1, q2, q3, q4, -⟩ := Cond.selects_spec (a (.selects cls Bundle.tFill0 Bundle.tFill0) (by simp [Bundle.messageArmAtoms]))
    cases Option.some.inj (q1.symm.trans hfound)
    cases Option.some.inj (q2.symm.trans (State.methodFound?_of_named Y.fill0 (by decide)))
    cases Option.some.inj (q3.symm.trans Y.fill0)
    rw [Launch.admits_selectMethod X.admits]; exact q4
  have hselF : selectMethod e.platform s.vm P1.m.cls T.fill = .method T.fill := by
    obtain ⟨c2, r2, m2, q1, q2, q3, q4, -⟩ := Cond.selects_spec (a (.selects cls Bundle.tFill Bundle.tFill) (by simp [Bundle.messageArmAtoms]))
    cases Option.some.inj (q1.symm.trans hfound)
    cases Option.some.inj (q2.symm.trans (State.methodFound?_of_named Y.fill (by decide)))
    cases Option.some.inj (q3.symm.trans Y.fill)
    rw [Launch.admits_selectMethod X.admits]; exact q4
  obtain ⟨cellS0, hcS0, hiss⟩ := Y.statics
  obtain ⟨u0, hu0⟩ := Cond.staticRefV Y.unassigned L.unassignedStatic L.statics hcS0 hiss (a (.isRef (.static Bundle.tN "UNASSIGNED_STACK" Bundle.steD)) (by simp [Bundle.messageArmAtoms]))
  obtain ⟨sen, hsen⟩ := Cond.staticRefV Y.sentinel L.sentinelStatic L.statics hcS0 hiss (a (.isRef (.static Bundle.tN "SUPPRESSED_SENTINEL" Bundle.listD)) (by simp [Bundle.messageArmAtoms]))
  obtain ⟨ci198, i198, fB, hk198, hg198, ha198, hsB, -, hnB, htB, hffB⟩ := Cond.ownField (t := .object "java/lang/Object") Y.found L.cls (by decide +kernel) (a (.fieldLink Bundle.tN 198 Bundle.tN "backtrace" "Ljava/lang/Object;") (by simp [Bundle.messageArmAtoms])) (a (.lays Bundle.tN Bundle.tN "backtrace" "Ljava/lang/Object;") (by simp [Bundle.messageArmAtoms])) e.platform hpl
  obtain ⟨cellS, hcS', heS, -, hkeep⟩ := X.same.2.2.2.2.2 T.aS cellS0 hcS0
  have hcellS : W.heap[T.aS]? = some cellS := hcS'
  have hout' : ∀ i, (⟨T.aS, i⟩ : Loc) ∉ locs := fun i hmem => by
    have := hlocs _ hmem cellS0 hcS0
    rw [hiss] at this; cases this
  have hknownS : cellS.vm ≠ .unknown := by
    rw [heS]; intro hu
    rw [show cellS0.vm = .unknown from hu] at hiss
    cases hiss
  have hvU : cellS.slots[T.fUnassigned.slot]? = some u0.v := by rw [hkeep _ (hout' _)]; exact hu0
  have hvSen : cellS.slots[T.fSentinel.slot]? = some sen.v := by rw [hkeep _ (hout' _)]; exact hsen
  obtain ⟨iM, hffM⟩ := Y.msg
  obtain ⟨tyC, dC, hdC, hdnC⟩ := Cond.laysAt hfound hk Y.cause (a (.lays cls Bundle.tN "cause" "Ljava/lang/Throwable;") (by simp [Bundle.messageArmAtoms]))
  obtain ⟨tyS, dS, hdS, hdnS⟩ := Cond.laysAt hfound hk Y.stack (a (.lays cls Bundle.tN "stackTrace" Bundle.steD) (by simp [Bundle.messageArmAtoms]))
  obtain ⟨tyP, dP, hdP, hdnP⟩ := Cond.laysAt hfound hk Y.supp (a (.lays cls Bundle.tN "suppressedExceptions" Bundle.listD) (by simp [Bundle.messageArmAtoms]))
  obtain ⟨tyM, dM, hdM, hdnM⟩ := Cond.laysAt hfound hk hffM (a (.lays cls Bundle.tN "detailMessage" "Ljava/lang/String;") (by simp [Bundle.messageArmAtoms]))
  obtain ⟨tyB, dB, hdB, hdnB⟩ := Cond.laysAt hfound hk hffB (a (.lays cls Bundle.tN "backtrace" "Ljava/lang/Object;") (by simp [Bundle.messageArmAtoms]))
  have bC := Cond.laysApart hdB hdC hdnB hdnC (by rw [hnB, Y.causeName]; decide)
  have bS := Cond.laysApart hdB hdS hdnB hdnS (by rw [hnB, Y.stackName]; decide)
  have bP := Cond.laysApart hdB hdP hdnB hdnP (by rw [hnB, Y.suppName]; decide)
  have hbk : ((preparedCellV T.toThrowableT (freshCell P1.m.cls kX) (W.heap.size + 2) u0 sen).withEntry W.cur).slots[fB.slot]? = some .null := by
    have := fresh_default (c := P1.m.cls) tyB
    rw [htB] at this
    simpa [preparedCellV, Cell.setSlot, Cell.withEntry, Array.getElem?_setIfInBounds, bC, bS, bP, bC.symm, bS.symm, bP.symm, defaultValue] using this
  have tkC := Takes.of_laid (v := .ref (W.heap.size + 2)) hk hord tyC (by rw [Y.causeType]; rfl)
  have tkS := Takes.of_laid (v := u0.v) hk hord tyS (by rw [Y.stackType]; exact fits_refV_array _ u0)
  have tkP := Takes.of_laid (v := sen.v) hk hord tyP (by rw [Y.suppType]; exact fits_refV_object _ sen)
  have tkM := Takes.of_laid (v := .ref (W.heap.size + 1)) hk hord tyM (by rw [Y.msgType]; rfl)
  have hskip : SkipFacts T e.platform s (fun u => u) u0 ((preparedCellV T.toThrowableT (freshCell P1.m.cls kX) (W.heap.size + 2) u0 sen).withEntry W.cur) := ⟨{ ci198 := ci198, i198 := i198, fBack := fB }, ⟨hk198, hg198, ha198, hsB⟩, hbk, fun _ _ => rfl⟩
  have h0 : At W g.method c below := by rw [hg]; exact X.here
  obtain ⟨hbeyond, hfreeW⟩ := X.vmMayThrow hsize (.throwNew cls (some text) none) (fun f hf => by cases hf) rfl hRlocals
  have hfr' : W.frames.length + Ps.length + 4 < (e.platform.stackLimits W.me).1 := by have := X.framesAbove hRframes; omega
  have hwd' : (stackUse (.java g :: W.frames.tail)).2 + 13 * Ps.length + 55 ≤ (e.platform.stackLimits W.me).2 := by have := X.stackAbove hsize (K := 13 * Ps.length + 55) (by omega); omega
  have hslots : W.slotsUsed + (stringBytes (stringToUtf16 text)).size + Zs.kS.instanceTypes.size + kX.instanceTypes.size ≤ e.platform.maxSlots := by
    have := X.slotsAbove hRslots
    rw [hn4, hn6]
    omega
  obtain ⟨vm', hW', st⟩ := Steps.vmThrowsMessageColdByV p (s₀ := s) (S := W) (g := g) h0 hexec T L Z LZ M LM X.warmed (t := W.cur) rfl Zs LZs P1 L1 Ps hL hlink1 hlink hsoe hoom hfound hk hinit hord hctor
    (Launch.admits_hotImplicitExceptions X.admits) hbeyond hfreeW htext hlimit hheap (X.cellsAbove hRcells) hslots (hfitv _) (hfitc _)
    (Nn := fun u => u) heapOnly_id (fun _ _ => rfl) (fun _ => rfl) (fun u x y => setCell_twice _ _ _ _) (fun _ => Nat.le_refl _) (cN := ((preparedCellV T.toThrowableT (freshCell P1.m.cls kX) (W.heap.size + 2) u0 sen).withEntry W.cur))
    hsel0 hcellS hknownS hvU tkS (fun _ hu => hu) (fun _ hu => hu) rfl rfl rfl (by simp [preparedCellV, Cell.setSlot, Cell.withEntry]) hskip (fun _ _ hA hW _ hroom _ hrest => L.nativeOff p htr hA hW hroom hrest) hselF hvSen tkC tkP tkM Y.objLocals rfl hfr' hwd'
  rw [plainBareV_eq T.toThrowableT (W.heap.size + 2) u0 sen (.ref (W.heap.size + 1)) W.cur rfl rfl] at st
  obtain ⟨-, -, w3, w4, -, -, -⟩ := withThrown_facts e.platform W Zs text P1.m.cls kX
  have X3 := ((X.pushed (bytesOf Zs.cB (stringToUtf16 text))).pushed (stringAt Zs.cS Zs.kS Zs.fv Zs.fc (stringToUtf16 text) W.heap.size)).pushed (freshCell P1.m.cls kX)
  rw [← withString_eq] at X3
  have X4 := X3.noted hW'
  have ha : (W.heap.size + 2) < ((withThrown W Zs text P1.m.cls kX).setVm vm').heap.size := by show _ < (withThrown W Zs text P1.m.cls kX).heap.size; rw [w3]; omega
  have hcell : ((withThrown W Zs text P1.m.cls kX).setVm vm').heap[(W.heap.size + 2)]? = some (freshCell P1.m.cls kX) := w4
  have X5 := ((((X4.stored hcell T.fCause.slot (.ref (W.heap.size + 2))).storedAgain ha T.fStack.slot u0.v).storedAgain ha T.fSupp.slot sen.v).storedAgain ha T.fStack.slot u0.v).storedAgain ha T.fMsg.slot (.ref (W.heap.size + 1))
  obtain ⟨g₁, hfrM⟩ := X5.frames_eq
  have hU : ((((withThrown W Zs text P1.m.cls kX).setVm vm').setCell (W.heap.size + 2) (plainBareV T.toThrowableT (freshCell P1.m.cls kX) (W.heap.size + 2) u0 sen (.ref (W.heap.size + 1)))).setTop g).pushFrame (.throwing (W.heap.size + 2)) = (((withThrown W Zs text P1.m.cls kX).setVm vm').setCell (W.heap.size + 2) (plainBareV T.toThrowableT (freshCell P1.m.cls kX) (W.heap.size + 2) u0 sen (.ref (W.heap.size + 1)))).setFrames (.throwing (W.heap.size + 2) :: .java g :: below) := by
    rw [State.pushFrame, State.frames_setTop _ hfrM, State.setTop_of_frames _ hfrM, State.setFrames_setFrames]
  have b1 : (bytesOf Zs.cB (stringToUtf16 text)).slots.size = (stringBytes (stringToUtf16 text)).size := by
    rw [(Cell.writeAll_facts _ _).2.2]; simp [bytes0]
  have b2 : (stringAt Zs.cS Zs.kS Zs.fv Zs.fc (stringToUtf16 text) W.heap.size).slots.size = 4 := by simp [string0, Cell.setSlot, hn4]
  have b3 : (freshCell P1.m.cls kX).slots.size = 6 := by simp [hn6]
  rw [b1, b2, b3] at X5
  have e9 : slots + (stringBytes (stringToUtf16 text)).size + 4 + 6 = slots + ((stringBytes (stringToUtf16 text)).size + 4 + 6) := by omega
  rw [e9] at X5
  simp only [List.append_assoc, List.cons_append, List.nil_append] at X5
  refine ⟨((withThrown W Zs text P1.m.cls kX).setVm vm').setCell (W.heap.size + 2) (plainBareV T.toThrowableT (freshCell P1.m.cls kX) (W.heap.size + 2) u0 sen (.ref (W.heap.size + 1))), W.heap.size + 2, _, fun target ht => st _ (by rw [X.tail, ← hU]; exact ht),
    X5.forget (fun y hy => ?_), heapAt_setCell_self _ ha, hfound, rfl⟩
  simp only [List.mem_cons, List.not_mem_nil, or_false] at hy
  have hge : s.heap.size ≤ W.heap.size := X.same.2.1
  rcases hy with rfl | rfl | rfl | rfl | rfl <;> exact Nat.le_trans hge (Nat.le_add_right _ 2)
set_option maxHeartbeats 1000000 in
/-- the machine throws NullPointerException, no traces kept: from its note over the frame g to 'throwing' over the same frame (follows the proof of Stand.vmThrowsNpe, Shelf42/KT2.lean; throwsNpeColdBareVAt, Shelf42/NT91.lean, called) -/
theorem vx_npeAt {p : Program} {l : Launch} {e : Env} {R : Room} {s : State} {m₀ : MethodId} {args : Array Value} {below : List Frame} {meth : Method} {c : Code} {W : State} {locs : List Loc} {cells slots : Nat}
    (X : Stand p l e R s m₀ args below meth c W locs cells slots) (hexec : p.tables.exec = Jvm.exec) (htr : e.platform.stackTraces = false) {n : Nat}
    (h : ∀ a ∈ Bundle.npeArmAtoms n, a.before args s = true)
    (hlocs : ∀ x ∈ locs, ∀ cell, s.heap[x.base]? = some cell → cell.vm.isStatics = false)
    {g : JFrame} (hg : g.method = m₀) (hsize : g.locals.size = c.maxLocals)
    (hRframes : 7 < R.frames) (hRlocals : 2 * g.monitorRoom + (g.stack.map fun v => v.category).sum + 10240 ≤ R.locals)
    (hRcells : cells + 1 ≤ R.cells) (hRslots : slots + n ≤ R.slots) (hlocks : meth.locks = false) :
    ∃ (S : State) (q : Addr) (ce : Cell), (∀ target, Steps p.tables e below ((S.setTop g).pushFrame (.throwing q)) target → Steps p.tables e below ((W.setTop g).pushFrame (.throwNew "java/lang/NullPointerException" none none)) target) ∧
      Stand p l e R s m₀ args below meth c S locs (cells + 1) (slots + n) ∧ S.heap[q]? = some ce ∧ s.vm.findClass "java/lang/NullPointerException" = some ce.cls ∧ ce.vm = .none := by
  have howns : e.platform.frameOwnsMonitors = true := by rw [X.admits.platform]
  have hfin : e.platform.finalization = false := by rw [X.admits.platform]
  have hpl : e.platform.magicAccessors = ({} : Platform).magicAccessors := by rw [X.admits.platform]
  have hpl2 : e.platform.arrayCloneIsPublic = true := by rw [X.admits.platform]
  have a' : ∀ x, x ∈ Bundle.npeArmAtoms n → x.holds args s none s [] = true := fun x hx => h x hx
  obtain ⟨T, Z, L, LZ, Y⟩ := ThrowableC.of_atoms (args := args) howns hfin hpl (fun x hx => h x (by simp [Bundle.npeArmAtoms, hx]))
  obtain ⟨N, LN, hcN, hnNF, hordN, hffS⟩ := NpeC.of_atoms (args := args) hpl hpl2 L Y (fun x hx => h x (by simp [Bundle.npeArmAtoms, hx]))
  obtain ⟨P1, L1, hP1m, hP1s⟩ := PassC.of_atoms (args := args) (s := s) hpl (X := Bundle.nN) (Y := Bundle.rN) (by decide) (by decide) LibCode.NullPointerException.Init0.at_0 LibCode.NullPointerException.Init0.at_1 LibCode.NullPointerException.Init0.at_4 (fun x hx => h x (by simp [Bundle.npeArmAtoms, hx]))
  obtain ⟨PR, LR, hPRm, hPRs⟩ := PassC.of_atoms (args := args) (s := s) hpl (X := Bundle.rN) (Y := Bundle.eN) (by decide) (by decide) LibCode.RuntimeException.Init0.at_0 LibCode.RuntimeException.Init0.at_1 LibCode.RuntimeException.Init0.at_4 (fun x hx => h x (by simp [Bundle.npeArmAtoms, hx]))
  obtain ⟨PE, LEx, hPEm, hPEs⟩ := PassC.of_atoms (args := args) (s := s) hpl (X := Bundle.eN) (Y := Bundle.tN) (by decide) (by decide) LibCode.Exception.Init0.at_0 LibCode.Exception.Init0.at_1 LibCode.Exception.Init0.at_4 (fun x hx => h x (by simp [Bundle.npeArmAtoms, hx]))
  have hfound : s.vm.findClass Bundle.nN = some P1.m.cls := findClass_of_methodNamed hP1m
  have ecls : N.cN = P1.m.cls := Option.some.inj (hcN.symm.trans hfound)
  have hk : s.vm.classes[P1.m.cls]? = some N.kN := by rw [← ecls]; exact LN.cls
  have hinit := Cond.initialized_spec hfound hk (a' (.initialized Bundle.nN) (by simp [Bundle.npeArmAtoms]))
  have hctor : N.kN.findMethod "<init>" "()V" = some P1.m.idx := findMethod_of_methodNamed hP1m hk
  obtain ⟨c1, k1, hc1, hk1, -, -, -, hn⟩ := Cond.instantiable_spec (a' (.instantiable Bundle.nN n) (by simp [Bundle.npeArmAtoms]))
  cases Option.some.inj (hc1.symm.trans hfound)
  cases Option.some.inj (hk1.symm.trans hk)
  have hfsz : (freshCell P1.m.cls N.kN).slots.size = n := by simp [hn]
  have hlink1 : P1.sup = PR.m := Option.some.inj (hP1s.symm.trans hPRm)
  have hlinkR : PR.sup = PE.m := Option.some.inj (hPRs.symm.trans hPEm)
  have hlinkE : PE.sup = Z.m T.toThrowableT := Option.some.inj (hPEs.symm.trans Y.init0)
  have hLs : ∀ P, P ∈ [PR, PE] → P.Links0 e.platform s := fun P hP => by
    simp only [List.mem_cons, List.not_mem_nil, or_false] at hP
    rcases hP with rfl | rfl
    · exact LR
    · exact LEx
  have hsel0 : selectMethod e.platform s.vm P1.m.cls T.fill0 = .method T.fill0 := by
    obtain ⟨c2, r2, m2, q1, q2, q3, q4, -⟩ := Cond.selects_spec (a' (.selects Bundle.nN Bundle.tFill0 Bundle.tFill0) (by simp [Bundle.npeArmAtoms]))
    cases Option.some.inj (q1.symm.trans hfound)
    cases Option.some.inj (q2.symm.trans (State.methodFound?_of_named Y.fill0 (by decide)))
    cases Option.some.inj (q3.symm.trans Y.fill0)
    rw [Launch.admits_selectMethod X.admits]; exact q4
  have hselF : selectMethod e.platform s.vm P1.m.cls T.fill = .method N.fill := by
    obtain ⟨c2, r2, m2, q1, q2, q3, q4, -⟩ := Cond.selects_spec (a' (.selects Bundle.nN Bundle.tFill Bundle.nFill) (by simp [Bundle.npeArmAtoms]))
    cases Option.some.inj (q1.symm.trans hfound)
    cases Option.some.inj (q2.symm.trans (State.methodFound?_of_named Y.fill (by decide)))
    cases Option.some.inj (q3.symm.trans hnNF)
    rw [Launch.admits_selectMethod X.admits]; exact q4
  obtain ⟨cellS0, hcS0, hiss⟩ := Y.statics
  obtain ⟨u0, hu0⟩ := Cond.staticRefV Y.unassigned L.unassignedStatic L.statics hcS0 hiss (a' (.isRef (.static Bundle.tN "UNASSIGNED_STACK" Bundle.steD)) (by simp [Bundle.npeArmAtoms]))
  obtain ⟨sen, hsen⟩ := Cond.staticRefV Y.sentinel L.sentinelStatic L.statics hcS0 hiss (a' (.isRef (.static Bundle.tN "SUPPRESSED_SENTINEL" Bundle.listD)) (by simp [Bundle.npeArmAtoms]))
  obtain ⟨ci198, i198, fB, hk198, hg198, ha198, hsB, -, hnB, htB, hffB⟩ := Cond.ownField (t := .object "java/lang/Object") Y.found L.cls (by decide +kernel) (a' (.fieldLink Bundle.tN 198 Bundle.tN "backtrace" Bundle.objD) (by simp [Bundle.npeArmAtoms])) (a' (.lays Bundle.tN Bundle.tN "backtrace" Bundle.objD) (by simp [Bundle.npeArmAtoms])) e.platform hpl
  obtain ⟨cellS, hcS', heS, -, hkeep⟩ := X.same.2.2.2.2.2 T.aS cellS0 hcS0
  have hcellS : W.heap[T.aS]? = some cellS := hcS'
  have hout' : ∀ i, (⟨T.aS, i⟩ : Loc) ∉ locs := fun i hmem => by
    have := hlocs _ hmem cellS0 hcS0
    rw [hiss] at this; cases this
  have hknownS : cellS.vm ≠ .unknown := by
    rw [heS]; intro hu
    rw [show cellS0.vm = .unknown from hu] at hiss
    cases hiss
  have hvU : cellS.slots[T.fUnassigned.slot]? = some u0.v := by rw [hkeep _ (hout' _)]; exact hu0
  have hvSen : cellS.slots[T.fSentinel.slot]? = some sen.v := by rw [hkeep _ (hout' _)]; exact hsen
  obtain ⟨tyC, dC, hdC, hdnC⟩ := Cond.laysAt hfound hk Y.cause (a' (.lays Bundle.nN Bundle.tN "cause" "Ljava/lang/Throwable;") (by simp [Bundle.npeArmAtoms]))
  obtain ⟨tyS, dS, hdS, hdnS⟩ := Cond.laysAt hfound hk Y.stack (a' (.lays Bundle.nN Bundle.tN "stackTrace" Bundle.steD) (by simp [Bundle.npeArmAtoms]))
  obtain ⟨tyP, dP, hdP, hdnP⟩ := Cond.laysAt hfound hk Y.supp (a' (.lays Bundle.nN Bundle.tN "suppressedExceptions" Bundle.listD) (by simp [Bundle.npeArmAtoms]))
  obtain ⟨tyX, dX, hdX, hdnX⟩ := Cond.laysAt hfound hk hffS (a' (.lays Bundle.nN Bundle.nN "extendedMessageState" "I") (by simp [Bundle.npeArmAtoms, Bundle.npeAtoms]))
  obtain ⟨hnX, htX⟩ := State.fieldFound?_type hffS (t := .int) (by decide +kernel)
  have xC := Cond.laysApart hdC hdX hdnC hdnX (by rw [hnX, Y.causeName]; decide)
  have xS := Cond.laysApart hdS hdX hdnS hdnX (by rw [hnX, Y.stackName]; decide)
  have xP := Cond.laysApart hdP hdX hdnP hdnX (by rw [hnX, Y.suppName]; decide)
  have hv0 : (freshCell P1.m.cls N.kN).slots[N.fState.slot]? = some (.int 0) := by
    have := fresh_default (c := P1.m.cls) tyX
    rw [htX] at this; exact this
  obtain ⟨tyB, dB, hdB, hdnB⟩ := Cond.laysAt hfound hk hffB (a' (.lays Bundle.nN Bundle.tN "backtrace" Bundle.objD) (by simp [Bundle.npeArmAtoms]))
  have bC := Cond.laysApart hdB hdC hdnB hdnC (by rw [hnB, Y.causeName]; decide)
  have bS := Cond.laysApart hdB hdS hdnB hdnS (by rw [hnB, Y.stackName]; decide)
  have bP := Cond.laysApart hdB hdP hdnB hdnP (by rw [hnB, Y.suppName]; decide)
  have bX := Cond.laysApart hdB hdX hdnB hdnX (by rw [hnB, hnX]; decide)
  have hbk : ((npeCell N.toNpeT (preparedCellV T.toThrowableT (freshCell P1.m.cls N.kN) W.heap.size u0 sen) W.cur).withEntry W.cur).slots[fB.slot]? = some .null := by
    have := fresh_default (c := P1.m.cls) tyB
    rw [htB] at this
    simpa [npeCell, preparedCellV, Cell.setSlot, Cell.withEntry, Array.getElem?_setIfInBounds, bC, bS, bP, bX, bC.symm, bS.symm, bP.symm, bX.symm, defaultValue] using this
  have tkC := Takes.of_laid (v := .ref W.heap.size) hk hordN tyC (by rw [Y.causeType]; rfl)
  have tkS := Takes.of_laid (v := u0.v) hk hordN tyS (by rw [Y.stackType]; exact fits_refV_array _ u0)
  have tkP := Takes.of_laid (v := sen.v) hk hordN tyP (by rw [Y.suppType]; exact fits_refV_object _ sen)
  have tkX := Takes.of_laid (v := .int 1) hk hordN tyX (by rw [htX]; rfl)
  have hskip : SkipFacts T e.platform s (fun u => u) u0 ((npeCell N.toNpeT (preparedCellV T.toThrowableT (freshCell P1.m.cls N.kN) W.heap.size u0 sen) W.cur).withEntry W.cur) := ⟨{ ci198 := ci198, i198 := i198, fBack := fB }, ⟨hk198, hg198, ha198, hsB⟩, hbk, fun _ _ => rfl⟩
  obtain ⟨vm', X3, st, -⟩ := X.throwsNpeColdBareVAt hexec hg hsize T L Z LZ N LN P1 L1 [PR, PE] hLs hlink1 ⟨hlinkR, hlinkE, trivial⟩ hfound hk hinit hordN hctor hsel0 hselF hcellS hknownS hvU hvSen
    hv0 xC xS xP tkC tkS tkP tkX Y.objLocals hskip (fun _ _ hA hW _ hroom _ hrest => L.nativeOff p htr hA hW hroom hrest) (by simpa using hRframes) hRlocals (by simp) hRcells (by rw [hn]; exact hRslots)
  have hlt : W.heap.size < ((W.pushCell (freshCell P1.m.cls N.kN)).setVm vm').heap.size := by
    show W.heap.size < (W.pushCell (freshCell P1.m.cls N.kN)).heap.size
    rw [State.heap_size_pushCell]; omega
  rw [hfsz] at X3
  obtain ⟨g₁, hfrM⟩ := X3.frames_eq
  have hU : ((((W.pushCell (freshCell P1.m.cls N.kN)).setVm vm').setCell W.heap.size (npeBareV T.toThrowableT N.toNpeT (freshCell P1.m.cls N.kN) W.heap.size u0 sen)).setTop g).pushFrame (.throwing W.heap.size) = (((W.pushCell (freshCell P1.m.cls N.kN)).setVm vm').setCell W.heap.size (npeBareV T.toThrowableT N.toNpeT (freshCell P1.m.cls N.kN) W.heap.size u0 sen)).setFrames (.throwing W.heap.size :: .java g :: below) := by
    rw [State.pushFrame, State.frames_setTop _ hfrM, State.setTop_of_frames _ hfrM, State.setFrames_setFrames]
  refine ⟨_, W.heap.size, _, fun target ht => st.trans (by rw [← hU]; exact ht), X3.forget (fun y hy => ?_), heapAt_setCell_self _ hlt, hfound, rfl⟩
  simp only [List.mem_cons, List.not_mem_nil, or_false] at hy
  have hge : s.heap.size ≤ W.heap.size := X.same.2.1
  rcases hy with rfl | rfl | rfl | rfl | rfl <;> exact hge
/-- the words of a machine's NullPointerException, but the four that speak of the heap -/
def vx_atN (n : Nat) : List Cond := (Bundle.npeArmAtoms n).filter vx_no
/-- the words of a machine's throw with a message, but the four that speak of the heap -/
def vx_atM (X : String) (names : List String) : List Cond := (Bundle.messageArmAtoms X names).filter vx_no
section
variable {p : Program} {l : Launch} {e : Env} {R : Room} {s : State} {m : MethodId} {args : Array Value} {below : List Frame} {meth : Method} {c : Code} {H : Heap} {locs : List Loc} {cells slots : Nat}
/-- a frame seen from a rebased start, seen from the first start again -/
theorem vx_back9 {T S : State} {R' : Room} {k n : Nat} (X : Stand p l e R s m args below meth c T locs cells slots) (Y : Stand p l e R' ((T.setVm s.vm).setFrames (.invoking m args :: below)) m args below meth c T [] 0 0) (Z : Stand p l e R' ((T.setVm s.vm).setFrames (.invoking m args :: below)) m args below meth c S [] k n) :
    Stand p l e R s m args below meth c S locs (cells + k) (slots + n) := by
  have hW0 : s.WarmedH ((T.setVm s.vm).setFrames (.invoking m args :: below)).vm := State.WarmedH.refl s
  refine { admits := X.admits, cas := X.cas, clock := X.clock, frames := X.frames, room := X.room, hears := X.hears, method := X.method, code := X.code, here := Z.here, tail := Z.tail, warmed := State.WarmedH.trans hW0 Z.warmed, limits := Z.limits.trans (Y.limits.symm.trans X.limits), bytes := Z.bytes.trans (Y.bytes.symm.trans X.bytes), same := ?_ }
  obtain ⟨e1, e2⟩ := Z.same
  rw [State.setFrames_setFrames] at e1
  have h2 : (T.setVm s.vm).sameButNew (S.setVm s.vm) [] k n := ⟨e1, e2⟩
  have h3 := X.same.trans h2
  rw [List.append_nil] at h3
  exact h3
/-- from the machine's note that E is thrown here with this text -/
def vx_Note (p : Program) (l : Launch) (e : Env) (R : Room) (s : State) (m : MethodId) (args : Array Value) (below : List Frame) (meth : Method) (c : Code) (H : Heap) (locs : List Loc) (cells slots : Nat) (Q : State → Prop) (g : JFrame) (E text : String) : Prop :=
  ∀ T : State, T.heap = H → Stand p l e R s m args below meth c T locs cells slots → ∃ t, Steps p.tables e below ((T.setTop g).pushFrame (.throwNew E (some text) none)) t ∧ Q t
theorem vx_vm {pc : Nat} {ls : Array Slot} {rest : List Value} {Q : State → Prop} (hexec : p.tables.exec = Jvm.exec) (hl : l.stackTraces = false) {cls text : String} {names : List String} {nb : Nat} {A : Nat → Prop}
    (hcls : Bundle.fit cls = true) (hnames : ∀ n ∈ names, Bundle.fit n = true) (hsoe : (cls == "java/lang/StackOverflowError") = false) (hoom : (cls == "java/lang/OutOfMemoryError") = false)
    (hat : ∀ w ∈ vx_atM cls names, w.before args s = true) (hgood : ∀ w ∈ vx_atM cls names, vx_ot w = true)
    (hU : vx_Zq Bundle.tN "UNASSIGNED_STACK" Bundle.steD A s s.heap) (hN : vx_Zq Bundle.tN "SUPPRESSED_SENTINEL" Bundle.listD A s s.heap) (hS : va_S A s.heap H locs) (hsize : ls.size = c.maxLocals)
    (htext : (text == notModelled) = false) (hnb : (stringBytes (stringToUtf16 text)).size ≤ nb) (hnb1 : nb ≤ 1000)
    (hRframes : names.length + 4 < R.frames) (hRlocals : (rest.map fun v => v.category).sum + 10240 ≤ R.locals) (hshort : 13 * names.length + 55 ≤ 10240) (hRcells : cells + 3 ≤ R.cells) (hRslots : slots + (nb + 10) ≤ R.slots) (hlocks : meth.locks = false)
    (k : ∀ (H1 : Heap) (q9 : Addr) (ce : Cell), H.size ≤ H1.size → (∀ q : Nat, q < H.size → H1[q]? = H[q]?) → va_S A s.heap H1 locs → H1[q9]? = some ce → ce.vm = .none → s.vm.findClass cls = some ce.cls → vx_W p l e R s m args below meth c H1 locs (cells + 3) (slots + (nb + 10)) Q (F0 m pc ls rest) q9) :
    vx_Note p l e R s m args below meth c H locs cells slots Q (F0 m pc ls rest) cls text := by
  intro T hT X
  have htr : e.platform.stackTraces = false := (show e.platform.stackTraces = l.stackTraces by rw [X.admits.platform]).trans hl
  have Y := vx_rebase X (R' := { frames := R.frames, locals := R.locals, cells := 3, slots := nb + 10 }) (Nat.le_refl _) (Nat.le_refl _) hRcells hRslots
  have hhp : ((T.setVm s.vm).setFrames (.invoking m args :: below)).heap = H := hT
  have hW0 : s.WarmedH ((T.setVm s.vm).setFrames (.invoking m args :: below)).vm := State.WarmedH.refl s
  have hat' : ∀ w ∈ vx_atM cls names, w.before args ((T.setVm s.vm).setFrames (.invoking m args :: below)) = true := fun w hw => vx_ot_at hW0 rfl (hgood w hw) (hat w hw)
  have hU' : vx_Zq Bundle.tN "UNASSIGNED_STACK" Bundle.steD A ((T.setVm s.vm).setFrames (.invoking m args :: below)) ((T.setVm s.vm).setFrames (.invoking m args :: below)).heap := by rw [hhp]; exact vx_Zq.moved hW0.alike (hU.kept hS.2.1)
  have hN' : vx_Zq Bundle.tN "SUPPRESSED_SENTINEL" Bundle.listD A ((T.setVm s.vm).setFrames (.invoking m args :: below)) ((T.setVm s.vm).setFrames (.invoking m args :: below)).heap := by rw [hhp]; exact vx_Zq.moved hW0.alike (hN.kept hS.2.1)
  obtain ⟨S, q, ce, st, Z, hce, hcl', hv⟩ := vx_vmAt Y hexec htr (cls := cls) (names := names) (text := text) hcls hnames hsoe hoom (vx_own hat' (vx_isRefq hU'.1) (vx_isRefq hN'.1) hU'.2.word hN'.2.word) (fun x hx => nomatch hx) htext
    (by rw [Launch.admits_arrayLengthLimit X.admits]; omega) (by rw [Launch.admits_maxHeapBytes X.admits]; simp only [componentBytes]; omega)
    (g := F0 m pc ls rest) rfl hsize hRframes (by show 2 * 0 + (rest.map fun v => v.category).sum + 10240 ≤ R.locals; omega) hshort (by show 0 + 3 ≤ 3; omega) (by show 0 + (_ + 4 + 6) ≤ nb + 10; omega) hlocks
  obtain ⟨f1, f2⟩ := vx_frame Z.same
  have f1' : H.size ≤ S.heap.size := by rw [← hT]; exact f1
  have f2' : ∀ q : Nat, q < H.size → S.heap[q]? = H[q]? := fun q hq => by
    rw [← hT]
    exact f2 q (by rw [← hT] at hq; exact hq) (fun z hz => nomatch hz)
  have X5 := vx_back9 X Y Z
  have X6 : Stand p l e R s m args below meth c S locs (cells + 3) (slots + (nb + 10)) := { X5 with same := X5.same.mono (by omega) (by omega) }
  obtain ⟨t, a1, b1⟩ := k S.heap q ce f1' f2' ⟨Nat.le_trans hS.1 f1', fun q h1 h2 => (f2' q (Nat.lt_of_lt_of_le h1 hS.1)).trans (hS.2.1 q h1 h2), hS.2.2⟩ hce hv hcl' S rfl X6
  exact ⟨t, st t a1, b1⟩
/-- from the machine's note that NullPointerException is thrown here -/
def vx_NoteN (p : Program) (l : Launch) (e : Env) (R : Room) (s : State) (m : MethodId) (args : Array Value) (below : List Frame) (meth : Method) (c : Code) (H : Heap) (locs : List Loc) (cells slots : Nat) (Q : State → Prop) (g : JFrame) : Prop :=
  ∀ T : State, T.heap = H → Stand p l e R s m args below meth c T locs cells slots → ∃ t, Steps p.tables e below ((T.setTop g).pushFrame (.throwNew "java/lang/NullPointerException" none none)) t ∧ Q t
theorem vx_npe {pc : Nat} {ls : Array Slot} {rest : List Value} {Q : State → Prop} (hexec : p.tables.exec = Jvm.exec) (hl : l.stackTraces = false) {nb : Nat} {A : Nat → Prop}
    (hat : ∀ w ∈ vx_atN nb, w.before args s = true) (hgood : ∀ w ∈ vx_atN nb, vx_ot w = true)
    (hU : vx_Zq Bundle.tN "UNASSIGNED_STACK" Bundle.steD A s s.heap) (hN : vx_Zq Bundle.tN "SUPPRESSED_SENTINEL" Bundle.listD A s s.heap) (hS : va_S A s.heap H locs) (hsize : ls.size = c.maxLocals)
    (hRframes : 7 < R.frames) (hRlocals : (rest.map fun v => v.category).sum + 10240 ≤ R.locals) (hRcells : cells + 1 ≤ R.cells) (hRslots : slots + nb ≤ R.slots) (hlocks : meth.locks = false)
    (k : ∀ (H1 : Heap) (q9 : Addr) (ce : Cell), H.size ≤ H1.size → (∀ q : Nat, q < H.size → H1[q]? = H[q]?) → va_S A s.heap H1 locs → H1[q9]? = some ce → ce.vm = .none → s.vm.findClass "java/lang/NullPointerException" = some ce.cls → vx_W p l e R s m args below meth c H1 locs (cells + 1) (slots + nb) Q (F0 m pc ls rest) q9) :
    vx_NoteN p l e R s m args below meth c H locs cells slots Q (F0 m pc ls rest) := by
  intro T hT X
  have htr : e.platform.stackTraces = false := (show e.platform.stackTraces = l.stackTraces by rw [X.admits.platform]).trans hl
  have Y := vx_rebase X (R' := { frames := R.frames, locals := R.locals, cells := 1, slots := nb }) (Nat.le_refl _) (Nat.le_refl _) hRcells hRslots
  have hhp : ((T.setVm s.vm).setFrames (.invoking m args :: below)).heap = H := hT
  have hW0 : s.WarmedH ((T.setVm s.vm).setFrames (.invoking m args :: below)).vm := State.WarmedH.refl s
  have hat' : ∀ w ∈ vx_atN nb, w.before args ((T.setVm s.vm).setFrames (.invoking m args :: below)) = true := fun w hw => vx_ot_at hW0 rfl (hgood w hw) (hat w hw)
  have hU' : vx_Zq Bundle.tN "UNASSIGNED_STACK" Bundle.steD A ((T.setVm s.vm).setFrames (.invoking m args :: below)) ((T.setVm s.vm).setFrames (.invoking m args :: below)).heap := by rw [hhp]; exact vx_Zq.moved hW0.alike (hU.kept hS.2.1)
  have hN' : vx_Zq Bundle.tN "SUPPRESSED_SENTINEL" Bundle.listD A ((T.setVm s.vm).setFrames (.invoking m args :: below)) ((T.setVm s.vm).setFrames (.invoking m args :: below)).heap := by rw [hhp]; exact vx_Zq.moved hW0.alike (hN.kept hS.2.1)
  obtain ⟨S, q, ce, st, Z, hce, hcl', hv⟩ := vx_npeAt Y hexec htr (n := nb) (vx_own hat' (vx_isRefq hU'.1) (vx_isRefq hN'.1) hU'.2.word hN'.2.word) (fun x hx => nomatch hx)
    (g := F0 m pc ls rest) rfl hsize hRframes (by show 2 * 0 + (rest.map fun v => v.category).sum + 10240 ≤ R.locals; omega) (by show 0 + 1 ≤ 1; omega) (by show 0 + nb ≤ nb; omega) hlocks
  obtain ⟨f1, f2⟩ := vx_frame Z.same
  have f1' : H.size ≤ S.heap.size := by rw [← hT]; exact f1
  have f2' : ∀ q : Nat, q < H.size → S.heap[q]? = H[q]? := fun q hq => by
    rw [← hT]
    exact f2 q (by rw [← hT] at hq; exact hq) (fun z hz => nomatch hz)
  have X5 := vx_back9 X Y Z
  have X6 : Stand p l e R s m args below meth c S locs (cells + 1) (slots + nb) := { X5 with same := X5.same.mono (by omega) (by omega) }
  obtain ⟨t, a1, b1⟩ := k S.heap q ce f1' f2' ⟨Nat.le_trans hS.1 f1', fun q h1 h2 => (f2' q (Nat.lt_of_lt_of_le h1 hS.1)).trans (hS.2.1 q h1 h2), hS.2.2⟩ hce hv hcl' S rfl X6
  exact ⟨t, st t a1, b1⟩
variable {Q : State → Prop} {cc : ByteArray} {pc : Nat} {ls : Array Slot} {rest : List Value}
theorem vx_idivZ (hexec : p.tables.exec = Jvm.exec) (hb : c.code = cc) {a b : Int32} (h0 : b = 0) (d : decode cc pc = .ok (.idiv, 1)) (k : vx_Note p l e R s m args below meth c H locs cells slots Q (F0 m pc ls rest) "java/lang/ArithmeticException" "/ by zero") :
    W p l e R s m args below meth c H locs cells slots Q (F0 m pc ls (.int b :: .int a :: rest)) := by
  intro T hT X
  obtain ⟨t, st, q⟩ := k T hT X
  exact ⟨t, X.idivZero hexec (g := F0 m pc ls (.int b :: .int a :: rest)) rfl (a := a) (rest := rest) (by rw [h0]) (by rw [hb]; exact d) t st, q⟩
theorem vx_iremZ (hexec : p.tables.exec = Jvm.exec) (hb : c.code = cc) {a b : Int32} (h0 : b = 0) (d : decode cc pc = .ok (.irem, 1)) (k : vx_Note p l e R s m args below meth c H locs cells slots Q (F0 m pc ls rest) "java/lang/ArithmeticException" "/ by zero") :
    W p l e R s m args below meth c H locs cells slots Q (F0 m pc ls (.int b :: .int a :: rest)) := by
  intro T hT X
  obtain ⟨t, st, q⟩ := k T hT X
  exact ⟨t, X.iremZero hexec (g := F0 m pc ls (.int b :: .int a :: rest)) rfl (a := a) (rest := rest) (by rw [h0]) (by rw [hb]; exact d) t st, q⟩
theorem vx_ldivZ (hexec : p.tables.exec = Jvm.exec) (hb : c.code = cc) {a b : Int64} (h0 : b = 0) (d : decode cc pc = .ok (.ldiv, 1)) (k : vx_Note p l e R s m args below meth c H locs cells slots Q (F0 m pc ls rest) "java/lang/ArithmeticException" "/ by zero") :
    W p l e R s m args below meth c H locs cells slots Q (F0 m pc ls (.long b :: .long a :: rest)) := by
  intro T hT X
  obtain ⟨t, st, q⟩ := k T hT X
  exact ⟨t, X.ldivZero hexec (g := F0 m pc ls (.long b :: .long a :: rest)) rfl (a := a) (rest := rest) (by rw [h0]) (by rw [hb]; exact d) t st, q⟩
theorem vx_lremZ (hexec : p.tables.exec = Jvm.exec) (hb : c.code = cc) {a b : Int64} (h0 : b = 0) (d : decode cc pc = .ok (.lrem, 1)) (k : vx_Note p l e R s m args below meth c H locs cells slots Q (F0 m pc ls rest) "java/lang/ArithmeticException" "/ by zero") :
    W p l e R s m args below meth c H locs cells slots Q (F0 m pc ls (.long b :: .long a :: rest)) := by
  intro T hT X
  obtain ⟨t, st, q⟩ := k T hT X
  exact ⟨t, X.lremZero hexec (g := F0 m pc ls (.long b :: .long a :: rest)) rfl (a := a) (rest := rest) (by rw [h0]) (by rw [hb]; exact d) t st, q⟩
theorem vx_ialdZ {D : va_G} {cl : List vw_C} {ws : va_W} {tys : List (ClassId × FieldType)} {a : Nat} (hexec : p.tables.exec = Jvm.exec) (hb : c.code = cc) (hK : va_K D cl tys s) (hP : va_P D cl ws H) (q0 t0 : Nat) {cA : ClassId} {n : Nat} {f : Nat → Int32} (ha : ws[q0]? = some (a, .inl (cA, n, .inl f))) (ht : tys[t0]? = some (cA, .int)) {i : Int32} (hout : ¬ vp_in i n) (hdg : decode cc pc = .ok (.iaload, 1))
    (k : ∀ tx : String, tx = (toString "Index " ++ toString i ++ toString " out of bounds for length " ++ toString n : String) → vx_Note p l e R s m args below meth c H locs cells slots Q (F0 m pc ls rest) "java/lang/ArrayIndexOutOfBoundsException" tx) : W p l e R s m args below meth c H locs cells slots Q (F0 m pc ls (.int i :: .ref a :: rest)) := by
  intro T hT X
  obtain ⟨t, st, q⟩ := k _ rfl T hT X
  refine ⟨t, ?_, q⟩
  have h1 := X.ialoadOut hexec (by rw [hT]; exact hP q0 _ ha) ((hK.2 t0 _ ht).1 n (fun j => .int (f j))) (j := i) (by show (i < 0 ∨ (arrV _ _ _).slots.size ≤ _); rw [arrV_size]; exact Classical.byContradiction hout) (g := F0 m pc ls (.int i :: .ref a :: rest)) rfl (rest := rest) rfl (by rw [hb]; exact hdg) t
  simp only [arrV_size] at h1
  exact h1 st
theorem vx_iastZ {D : va_G} {cl : List vw_C} {ws : va_W} {tys : List (ClassId × FieldType)} {a : Nat} (hexec : p.tables.exec = Jvm.exec) (hb : c.code = cc) (hK : va_K D cl tys s) (hP : va_P D cl ws H) (q0 t0 : Nat) {cA : ClassId} {n : Nat} {f : Nat → Int32} (ha : ws[q0]? = some (a, .inl (cA, n, .inl f))) (ht : tys[t0]? = some (cA, .int)) {i : Int32} {x : Int32} (hout : ¬ vp_in i n) (hdg : decode cc pc = .ok (.iastore, 1))
    (k : ∀ tx : String, tx = (toString "Index " ++ toString i ++ toString " out of bounds for length " ++ toString n : String) → vx_Note p l e R s m args below meth c H locs cells slots Q (F0 m pc ls rest) "java/lang/ArrayIndexOutOfBoundsException" tx) : W p l e R s m args below meth c H locs cells slots Q (F0 m pc ls (.int x :: .int i :: .ref a :: rest)) := by
  intro T hT X
  obtain ⟨t, st, q⟩ := k _ rfl T hT X
  refine ⟨t, ?_, q⟩
  have h1 := X.iastoreOut hexec (by rw [hT]; exact hP q0 _ ha) ((hK.2 t0 _ ht).1 n (fun j => .int (f j))) (j := i) (by show (i < 0 ∨ (arrV _ _ _).slots.size ≤ _); rw [arrV_size]; exact Classical.byContradiction hout) (g := F0 m pc ls (.int x :: .int i :: .ref a :: rest)) rfl (rest := rest) rfl (by rw [hb]; exact hdg) t
  simp only [arrV_size] at h1
  exact h1 st
theorem vx_baldZ {D : va_G} {cl : List vw_C} {ws : va_W} {tys : List (ClassId × FieldType)} {a : Nat} (hexec : p.tables.exec = Jvm.exec) (hb : c.code = cc) (hK : va_K D cl tys s) (hP : va_P D cl ws H) (q0 t0 : Nat) {cA : ClassId} {n : Nat} {f : Nat → Int32} (ha : ws[q0]? = some (a, .inl (cA, n, .inl f))) (ht : tys[t0]? = some (cA, .byte)) {i : Int32} (hout : ¬ vp_in i n) (hdg : decode cc pc = .ok (.baload, 1))
    (k : ∀ tx : String, tx = (toString "Index " ++ toString i ++ toString " out of bounds for length " ++ toString n : String) → vx_Note p l e R s m args below meth c H locs cells slots Q (F0 m pc ls rest) "java/lang/ArrayIndexOutOfBoundsException" tx) : W p l e R s m args below meth c H locs cells slots Q (F0 m pc ls (.int i :: .ref a :: rest)) := by
  intro T hT X
  obtain ⟨t, st, q⟩ := k _ rfl T hT X
  refine ⟨t, ?_, q⟩
  have h1 := X.baloadOut hexec (by rw [hT]; exact hP q0 _ ha) ((hK.2 t0 _ ht).1 n (fun j => .int (f j))) (j := i) (by show (i < 0 ∨ (arrV _ _ _).slots.size ≤ _); rw [arrV_size]; exact Classical.byContradiction hout) (g := F0 m pc ls (.int i :: .ref a :: rest)) rfl (rest := rest) rfl (by rw [hb]; exact hdg) t
  simp only [arrV_size] at h1
  exact h1 st
theorem vx_bastZ {D : va_G} {cl : List vw_C} {ws : va_W} {tys : List (ClassId × FieldType)} {a : Nat} (hexec : p.tables.exec = Jvm.exec) (hb : c.code = cc) (hK : va_K D cl tys s) (hP : va_P D cl ws H) (q0 t0 : Nat) {cA : ClassId} {n : Nat} {f : Nat → Int32} (ha : ws[q0]? = some (a, .inl (cA, n, .inl f))) (ht : tys[t0]? = some (cA, .byte)) {i : Int32} {x : Int32} (hout : ¬ vp_in i n) (hdg : decode cc pc = .ok (.bastore, 1))
    (k : ∀ tx : String, tx = (toString "Index " ++ toString i ++ toString " out of bounds for length " ++ toString n : String) → vx_Note p l e R s m args below meth c H locs cells slots Q (F0 m pc ls rest) "java/lang/ArrayIndexOutOfBoundsException" tx) : W p l e R s m args below meth c H locs cells slots Q (F0 m pc ls (.int x :: .int i :: .ref a :: rest)) := by
  intro T hT X
  obtain ⟨t, st, q⟩ := k _ rfl T hT X
  refine ⟨t, ?_, q⟩
  have h1 := X.bastoreOut hexec (by rw [hT]; exact hP q0 _ ha) ((hK.2 t0 _ ht).1 n (fun j => .int (f j))) (j := i) (by show (i < 0 ∨ (arrV _ _ _).slots.size ≤ _); rw [arrV_size]; exact Classical.byContradiction hout) (g := F0 m pc ls (.int x :: .int i :: .ref a :: rest)) rfl (rest := rest) rfl (by rw [hb]; exact hdg) t
  simp only [arrV_size] at h1
  exact h1 st
theorem vx_zaldZ {D : va_G} {cl : List vw_C} {ws : va_W} {tys : List (ClassId × FieldType)} {a : Nat} (hexec : p.tables.exec = Jvm.exec) (hb : c.code = cc) (hK : va_K D cl tys s) (hP : va_P D cl ws H) (q0 t0 : Nat) {cA : ClassId} {n : Nat} {f : Nat → Int32} (ha : ws[q0]? = some (a, .inl (cA, n, .inl f))) (ht : tys[t0]? = some (cA, .boolean)) {i : Int32} (hout : ¬ vp_in i n) (hdg : decode cc pc = .ok (.baload, 1))
    (k : ∀ tx : String, tx = (toString "Index " ++ toString i ++ toString " out of bounds for length " ++ toString n : String) → vx_Note p l e R s m args below meth c H locs cells slots Q (F0 m pc ls rest) "java/lang/ArrayIndexOutOfBoundsException" tx) : W p l e R s m args below meth c H locs cells slots Q (F0 m pc ls (.int i :: .ref a :: rest)) := by
  intro T hT X
  obtain ⟨t, st, q⟩ := k _ rfl T hT X
  refine ⟨t, ?_, q⟩
  have h1 := X.baloadOut hexec (by rw [hT]; exact hP q0 _ ha) ((hK.2 t0 _ ht).1 n (fun j => .int (f j))) (j := i) (by show (i < 0 ∨ (arrV _ _ _).slots.size ≤ _); rw [arrV_size]; exact Classical.byContradiction hout) (g := F0 m pc ls (.int i :: .ref a :: rest)) rfl (rest := rest) rfl (by rw [hb]; exact hdg) t
  simp only [arrV_size] at h1
  exact h1 st
theorem vx_zastZ {D : va_G} {cl : List vw_C} {ws : va_W} {tys : List (ClassId × FieldType)} {a : Nat} (hexec : p.tables.exec = Jvm.exec) (hb : c.code = cc) (hK : va_K D cl tys s) (hP : va_P D cl ws H) (q0 t0 : Nat) {cA : ClassId} {n : Nat} {f : Nat → Int32} (ha : ws[q0]? = some (a, .inl (cA, n, .inl f))) (ht : tys[t0]? = some (cA, .boolean)) {i : Int32} {x : Int32} (hout : ¬ vp_in i n) (hdg : decode cc pc = .ok (.bastore, 1))
    (k : ∀ tx : String, tx = (toString "Index " ++ toString i ++ toString " out of bounds for length " ++ toString n : String) → vx_Note p l e R s m args below meth c H locs cells slots Q (F0 m pc ls rest) "java/lang/ArrayIndexOutOfBoundsException" tx) : W p l e R s m args below meth c H locs cells slots Q (F0 m pc ls (.int x :: .int i :: .ref a :: rest)) := by
  intro T hT X
  obtain ⟨t, st, q⟩ := k _ rfl T hT X
  refine ⟨t, ?_, q⟩
  have h1 := X.bastoreOut hexec (by rw [hT]; exact hP q0 _ ha) ((hK.2 t0 _ ht).1 n (fun j => .int (f j))) (j := i) (by show (i < 0 ∨ (arrV _ _ _).slots.size ≤ _); rw [arrV_size]; exact Classical.byContradiction hout) (g := F0 m pc ls (.int x :: .int i :: .ref a :: rest)) rfl (rest := rest) rfl (by rw [hb]; exact hdg) t
  simp only [arrV_size] at h1
  exact h1 st
theorem vx_caldZ {D : va_G} {cl : List vw_C} {ws : va_W} {tys : List (ClassId × FieldType)} {a : Nat} (hexec : p.tables.exec = Jvm.exec) (hb : c.code = cc) (hK : va_K D cl tys s) (hP : va_P D cl ws H) (q0 t0 : Nat) {cA : ClassId} {n : Nat} {f : Nat → Int32} (ha : ws[q0]? = some (a, .inl (cA, n, .inl f))) (ht : tys[t0]? = some (cA, .char)) {i : Int32} (hout : ¬ vp_in i n) (hdg : decode cc pc = .ok (.caload, 1))
    (k : ∀ tx : String, tx = (toString "Index " ++ toString i ++ toString " out of bounds for length " ++ toString n : String) → vx_Note p l e R s m args below meth c H locs cells slots Q (F0 m pc ls rest) "java/lang/ArrayIndexOutOfBoundsException" tx) : W p l e R s m args below meth c H locs cells slots Q (F0 m pc ls (.int i :: .ref a :: rest)) := by
  intro T hT X
  obtain ⟨t, st, q⟩ := k _ rfl T hT X
  refine ⟨t, ?_, q⟩
  have h1 := X.caloadOut hexec (by rw [hT]; exact hP q0 _ ha) ((hK.2 t0 _ ht).1 n (fun j => .int (f j))) (j := i) (by show (i < 0 ∨ (arrV _ _ _).slots.size ≤ _); rw [arrV_size]; exact Classical.byContradiction hout) (g := F0 m pc ls (.int i :: .ref a :: rest)) rfl (rest := rest) rfl (by rw [hb]; exact hdg) t
  simp only [arrV_size] at h1
  exact h1 st
theorem vx_castZ {D : va_G} {cl : List vw_C} {ws : va_W} {tys : List (ClassId × FieldType)} {a : Nat} (hexec : p.tables.exec = Jvm.exec) (hb : c.code = cc) (hK : va_K D cl tys s) (hP : va_P D cl ws H) (q0 t0 : Nat) {cA : ClassId} {n : Nat} {f : Nat → Int32} (ha : ws[q0]? = some (a, .inl (cA, n, .inl f))) (ht : tys[t0]? = some (cA, .char)) {i : Int32} {x : Int32} (hout : ¬ vp_in i n) (hdg : decode cc pc = .ok (.castore, 1))
    (k : ∀ tx : String, tx = (toString "Index " ++ toString i ++ toString " out of bounds for length " ++ toString n : String) → vx_Note p l e R s m args below meth c H locs cells slots Q (F0 m pc ls rest) "java/lang/ArrayIndexOutOfBoundsException" tx) : W p l e R s m args below meth c H locs cells slots Q (F0 m pc ls (.int x :: .int i :: .ref a :: rest)) := by
  intro T hT X
  obtain ⟨t, st, q⟩ := k _ rfl T hT X
  refine ⟨t, ?_, q⟩
  have h1 := X.castoreOut hexec (by rw [hT]; exact hP q0 _ ha) ((hK.2 t0 _ ht).1 n (fun j => .int (f j))) (j := i) (by show (i < 0 ∨ (arrV _ _ _).slots.size ≤ _); rw [arrV_size]; exact Classical.byContradiction hout) (g := F0 m pc ls (.int x :: .int i :: .ref a :: rest)) rfl (rest := rest) rfl (by rw [hb]; exact hdg) t
  simp only [arrV_size] at h1
  exact h1 st
theorem vx_saldZ {D : va_G} {cl : List vw_C} {ws : va_W} {tys : List (ClassId × FieldType)} {a : Nat} (hexec : p.tables.exec = Jvm.exec) (hb : c.code = cc) (hK : va_K D cl tys s) (hP : va_P D cl ws H) (q0 t0 : Nat) {cA : ClassId} {n : Nat} {f : Nat → Int32} (ha : ws[q0]? = some (a, .inl (cA, n, .inl f))) (ht : tys[t0]? = some (cA, .short)) {i : Int32} (hout : ¬ vp_in i n) (hdg : decode cc pc = .ok (.saload, 1))
    (k : ∀ tx : String, tx = (toString "Index " ++ toString i ++ toString " out of bounds for length " ++ toString n : String) → vx_Note p l e R s m args below meth c H locs cells slots Q (F0 m pc ls rest) "java/lang/ArrayIndexOutOfBoundsException" tx) : W p l e R s m args below meth c H locs cells slots Q (F0 m pc ls (.int i :: .ref a :: rest)) := by
  intro T hT X
  obtain ⟨t, st, q⟩ := k _ rfl T hT X
  refine ⟨t, ?_, q⟩
  have h1 := X.saloadOut hexec (by rw [hT]; exact hP q0 _ ha) ((hK.2 t0 _ ht).1 n (fun j => .int (f j))) (j := i) (by show (i < 0 ∨ (arrV _ _ _).slots.size ≤ _); rw [arrV_size]; exact Classical.byContradiction hout) (g := F0 m pc ls (.int i :: .ref a :: rest)) rfl (rest := rest) rfl (by rw [hb]; exact hdg) t
  simp only [arrV_size] at h1
  exact h1 st
theorem vx_sastZ {D : va_G} {cl : List vw_C} {ws : va_W} {tys : List (ClassId × FieldType)} {a : Nat} (hexec : p.tables.exec = Jvm.exec) (hb : c.code = cc) (hK : va_K D cl tys s) (hP : va_P D cl ws H) (q0 t0 : Nat) {cA : ClassId} {n : Nat} {f : Nat → Int32} (ha : ws[q0]? = some (a, .inl (cA, n, .inl f))) (ht : tys[t0]? = some (cA, .short)) {i : Int32} {x : Int32} (hout : ¬ vp_in i n) (hdg : decode cc pc = .ok (.sastore, 1))
    (k : ∀ tx : String, tx = (toString "Index " ++ toString i ++ toString " out of bounds for length " ++ toString n : String) → vx_Note p l e R s m args below meth c H locs cells slots Q (F0 m pc ls rest) "java/lang/ArrayIndexOutOfBoundsException" tx) : W p l e R s m args below meth c H locs cells slots Q (F0 m pc ls (.int x :: .int i :: .ref a :: rest)) := by
  intro T hT X
  obtain ⟨t, st, q⟩ := k _ rfl T hT X
  refine ⟨t, ?_, q⟩
  have h1 := X.sastoreOut hexec (by rw [hT]; exact hP q0 _ ha) ((hK.2 t0 _ ht).1 n (fun j => .int (f j))) (j := i) (by show (i < 0 ∨ (arrV _ _ _).slots.size ≤ _); rw [arrV_size]; exact Classical.byContradiction hout) (g := F0 m pc ls (.int x :: .int i :: .ref a :: rest)) rfl (rest := rest) rfl (by rw [hb]; exact hdg) t
  simp only [arrV_size] at h1
  exact h1 st
theorem vx_laldZ {D : va_G} {cl : List vw_C} {ws : va_W} {tys : List (ClassId × FieldType)} {a : Nat} (hexec : p.tables.exec = Jvm.exec) (hb : c.code = cc) (hK : va_K D cl tys s) (hP : va_P D cl ws H) (q0 t0 : Nat) {cA : ClassId} {n : Nat} {f : Nat → Int64} (ha : ws[q0]? = some (a, .inl (cA, n, .inr (.inl f)))) (ht : tys[t0]? = some (cA, .long)) {i : Int32} (hout : ¬ vp_in i n) (hdg : decode cc pc = .ok (.laload, 1))
    (k : ∀ tx : String, tx = (toString "Index " ++ toString i ++ toString " out of bounds for length " ++ toString n : String) → vx_Note p l e R s m args below meth c H locs cells slots Q (F0 m pc ls rest) "java/lang/ArrayIndexOutOfBoundsException" tx) : W p l e R s m args below meth c H locs cells slots Q (F0 m pc ls (.int i :: .ref a :: rest)) := by
  intro T hT X
  obtain ⟨t, st, q⟩ := k _ rfl T hT X
  refine ⟨t, ?_, q⟩
  have h1 := X.laloadOut hexec (by rw [hT]; exact hP q0 _ ha) ((hK.2 t0 _ ht).1 n (fun j => .long (f j))) (j := i) (by show (i < 0 ∨ (arrV _ _ _).slots.size ≤ _); rw [arrV_size]; exact Classical.byContradiction hout) (g := F0 m pc ls (.int i :: .ref a :: rest)) rfl (rest := rest) rfl (by rw [hb]; exact hdg) t
  simp only [arrV_size] at h1
  exact h1 st
theorem vx_lastZ {D : va_G} {cl : List vw_C} {ws : va_W} {tys : List (ClassId × FieldType)} {a : Nat} (hexec : p.tables.exec = Jvm.exec) (hb : c.code = cc) (hK : va_K D cl tys s) (hP : va_P D cl ws H) (q0 t0 : Nat) {cA : ClassId} {n : Nat} {f : Nat → Int64} (ha : ws[q0]? = some (a, .inl (cA, n, .inr (.inl f)))) (ht : tys[t0]? = some (cA, .long)) {i : Int32} {x : Int64} (hout : ¬ vp_in i n) (hdg : decode cc pc = .ok (.lastore, 1))
    (k : ∀ tx : String, tx = (toString "Index " ++ toString i ++ toString " out of bounds for length " ++ toString n : String) → vx_Note p l e R s m args below meth c H locs cells slots Q (F0 m pc ls rest) "java/lang/ArrayIndexOutOfBoundsException" tx) : W p l e R s m args below meth c H locs cells slots Q (F0 m pc ls (.long x :: .int i :: .ref a :: rest)) := by
  intro T hT X
  obtain ⟨t, st, q⟩ := k _ rfl T hT X
  refine ⟨t, ?_, q⟩
  have h1 := X.lastoreOut hexec (by rw [hT]; exact hP q0 _ ha) ((hK.2 t0 _ ht).1 n (fun j => .long (f j))) (j := i) (by show (i < 0 ∨ (arrV _ _ _).slots.size ≤ _); rw [arrV_size]; exact Classical.byContradiction hout) (g := F0 m pc ls (.long x :: .int i :: .ref a :: rest)) rfl (rest := rest) rfl (by rw [hb]; exact hdg) t
  simp only [arrV_size] at h1
  exact h1 st
theorem vx_faldZ {D : va_G} {cl : List vw_C} {ws : va_W} {tys : List (ClassId × FieldType)} {a : Nat} (hexec : p.tables.exec = Jvm.exec) (hb : c.code = cc) (hK : va_K D cl tys s) (hP : va_P D cl ws H) (q0 t0 : Nat) {cA : ClassId} {n : Nat} {f : Nat → UInt32} (ha : ws[q0]? = some (a, .inl (cA, n, .inr (.inr (.inl f))))) (ht : tys[t0]? = some (cA, .float)) {i : Int32} (hout : ¬ vp_in i n) (hdg : decode cc pc = .ok (.faload, 1))
    (k : ∀ tx : String, tx = (toString "Index " ++ toString i ++ toString " out of bounds for length " ++ toString n : String) → vx_Note p l e R s m args below meth c H locs cells slots Q (F0 m pc ls rest) "java/lang/ArrayIndexOutOfBoundsException" tx) : W p l e R s m args below meth c H locs cells slots Q (F0 m pc ls (.int i :: .ref a :: rest)) := by
  intro T hT X
  obtain ⟨t, st, q⟩ := k _ rfl T hT X
  refine ⟨t, ?_, q⟩
  have h1 := X.faloadOut hexec (by rw [hT]; exact hP q0 _ ha) ((hK.2 t0 _ ht).1 n (fun j => .float (f j))) (j := i) (by show (i < 0 ∨ (arrV _ _ _).slots.size ≤ _); rw [arrV_size]; exact Classical.byContradiction hout) (g := F0 m pc ls (.int i :: .ref a :: rest)) rfl (rest := rest) rfl (by rw [hb]; exact hdg) t
  simp only [arrV_size] at h1
  exact h1 st
theorem vx_fastZ {D : va_G} {cl : List vw_C} {ws : va_W} {tys : List (ClassId × FieldType)} {a : Nat} (hexec : p.tables.exec = Jvm.exec) (hb : c.code = cc) (hK : va_K D cl tys s) (hP : va_P D cl ws H) (q0 t0 : Nat) {cA : ClassId} {n : Nat} {f : Nat → UInt32} (ha : ws[q0]? = some (a, .inl (cA, n, .inr (.inr (.inl f))))) (ht : tys[t0]? = some (cA, .float)) {i : Int32} {x : UInt32} (hout : ¬ vp_in i n) (hdg : decode cc pc = .ok (.fastore, 1))
    (k : ∀ tx : String, tx = (toString "Index " ++ toString i ++ toString " out of bounds for length " ++ toString n : String) → vx_Note p l e R s m args below meth c H locs cells slots Q (F0 m pc ls rest) "java/lang/ArrayIndexOutOfBoundsException" tx) : W p l e R s m args below meth c H locs cells slots Q (F0 m pc ls (.float x :: .int i :: .ref a :: rest)) := by
  intro T hT X
  obtain ⟨t, st, q⟩ := k _ rfl T hT X
  refine ⟨t, ?_, q⟩
  have h1 := X.fastoreOut hexec (by rw [hT]; exact hP q0 _ ha) ((hK.2 t0 _ ht).1 n (fun j => .float (f j))) (j := i) (by show (i < 0 ∨ (arrV _ _ _).slots.size ≤ _); rw [arrV_size]; exact Classical.byContradiction hout) (g := F0 m pc ls (.float x :: .int i :: .ref a :: rest)) rfl (rest := rest) rfl (by rw [hb]; exact hdg) t
  simp only [arrV_size] at h1
  exact h1 st
theorem vx_daldZ {D : va_G} {cl : List vw_C} {ws : va_W} {tys : List (ClassId × FieldType)} {a : Nat} (hexec : p.tables.exec = Jvm.exec) (hb : c.code = cc) (hK : va_K D cl tys s) (hP : va_P D cl ws H) (q0 t0 : Nat) {cA : ClassId} {n : Nat} {f : Nat → UInt64} (ha : ws[q0]? = some (a, .inl (cA, n, .inr (.inr (.inr (.inl f)))))) (ht : tys[t0]? = some (cA, .double)) {i : Int32} (hout : ¬ vp_in i n) (hdg : decode cc pc = .ok (.daload, 1))
    (k : ∀ tx : String, tx = (toString "Index " ++ toString i ++ toString " out of bounds for length " ++ toString n : String) → vx_Note p l e R s m args below meth c H locs cells slots Q (F0 m pc ls rest) "java/lang/ArrayIndexOutOfBoundsException" tx) : W p l e R s m args below meth c H locs cells slots Q (F0 m pc ls (.int i :: .ref a :: rest)) := by
  intro T hT X
  obtain ⟨t, st, q⟩ := k _ rfl T hT X
  refine ⟨t, ?_, q⟩
  have h1 := X.daloadOut hexec (by rw [hT]; exact hP q0 _ ha) ((hK.2 t0 _ ht).1 n (fun j => .double (f j))) (j := i) (by show (i < 0 ∨ (arrV _ _ _).slots.size ≤ _); rw [arrV_size]; exact Classical.byContradiction hout) (g := F0 m pc ls (.int i :: .ref a :: rest)) rfl (rest := rest) rfl (by rw [hb]; exact hdg) t
  simp only [arrV_size] at h1
  exact h1 st
theorem vx_dastZ {D : va_G} {cl : List vw_C} {ws : va_W} {tys : List (ClassId × FieldType)} {a : Nat} (hexec : p.tables.exec = Jvm.exec) (hb : c.code = cc) (hK : va_K D cl tys s) (hP : va_P D cl ws H) (q0 t0 : Nat) {cA : ClassId} {n : Nat} {f : Nat → UInt64} (ha : ws[q0]? = some (a, .inl (cA, n, .inr (.inr (.inr (.inl f)))))) (ht : tys[t0]? = some (cA, .double)) {i : Int32} {x : UInt64} (hout : ¬ vp_in i n) (hdg : decode cc pc = .ok (.dastore, 1))
    (k : ∀ tx : String, tx = (toString "Index " ++ toString i ++ toString " out of bounds for length " ++ toString n : String) → vx_Note p l e R s m args below meth c H locs cells slots Q (F0 m pc ls rest) "java/lang/ArrayIndexOutOfBoundsException" tx) : W p l e R s m args below meth c H locs cells slots Q (F0 m pc ls (.double x :: .int i :: .ref a :: rest)) := by
  intro T hT X
  obtain ⟨t, st, q⟩ := k _ rfl T hT X
  refine ⟨t, ?_, q⟩
  have h1 := X.dastoreOut hexec (by rw [hT]; exact hP q0 _ ha) ((hK.2 t0 _ ht).1 n (fun j => .double (f j))) (j := i) (by show (i < 0 ∨ (arrV _ _ _).slots.size ≤ _); rw [arrV_size]; exact Classical.byContradiction hout) (g := F0 m pc ls (.double x :: .int i :: .ref a :: rest)) rfl (rest := rest) rfl (by rw [hb]; exact hdg) t
  simp only [arrV_size] at h1
  exact h1 st
theorem vx_arraylengthN (hexec : p.tables.exec = Jvm.exec) (hb : c.code = cc) (hdg : decode cc pc = .ok (.arraylength, 1)) (k : vx_NoteN p l e R s m args below meth c H locs cells slots Q (F0 m pc ls rest)) : W p l e R s m args below meth c H locs cells slots Q (F0 m pc ls (.null :: rest)) := by
  intro T hT X
  obtain ⟨t, st, q⟩ := k T hT X
  exact ⟨t, X.arraylengthNull hexec (g := F0 m pc ls (.null :: rest)) rfl (rest := rest) rfl (by rw [hb]; exact hdg) t st, q⟩
theorem vx_ialoadN (hexec : p.tables.exec = Jvm.exec) (hb : c.code = cc) {i : Int32} (hdg : decode cc pc = .ok (.iaload, 1)) (k : vx_NoteN p l e R s m args below meth c H locs cells slots Q (F0 m pc ls rest)) : W p l e R s m args below meth c H locs cells slots Q (F0 m pc ls (.int i :: .null :: rest)) := by
  intro T hT X
  obtain ⟨t, st, q⟩ := k T hT X
  exact ⟨t, X.ialoadNull hexec (g := F0 m pc ls (.int i :: .null :: rest)) rfl (rest := rest) rfl (by rw [hb]; exact hdg) t st, q⟩
theorem vx_laloadN (hexec : p.tables.exec = Jvm.exec) (hb : c.code = cc) {i : Int32} (hdg : decode cc pc = .ok (.laload, 1)) (k : vx_NoteN p l e R s m args below meth c H locs cells slots Q (F0 m pc ls rest)) : W p l e R s m args below meth c H locs cells slots Q (F0 m pc ls (.int i :: .null :: rest)) := by
  intro T hT X
  obtain ⟨t, st, q⟩ := k T hT X
  exact ⟨t, X.laloadNull hexec (g := F0 m pc ls (.int i :: .null :: rest)) rfl (rest := rest) rfl (by rw [hb]; exact hdg) t st, q⟩
theorem vx_faloadN (hexec : p.tables.exec = Jvm.exec) (hb : c.code = cc) {i : Int32} (hdg : decode cc pc = .ok (.faload, 1)) (k : vx_NoteN p l e R s m args below meth c H locs cells slots Q (F0 m pc ls rest)) : W p l e R s m args below meth c H locs cells slots Q (F0 m pc ls (.int i :: .null :: rest)) := by
  intro T hT X
  obtain ⟨t, st, q⟩ := k T hT X
  exact ⟨t, X.faloadNull hexec (g := F0 m pc ls (.int i :: .null :: rest)) rfl (rest := rest) rfl (by rw [hb]; exact hdg) t st, q⟩
theorem vx_daloadN (hexec : p.tables.exec = Jvm.exec) (hb : c.code = cc) {i : Int32} (hdg : decode cc pc = .ok (.daload, 1)) (k : vx_NoteN p l e R s m args below meth c H locs cells slots Q (F0 m pc ls rest)) : W p l e R s m args below meth c H locs cells slots Q (F0 m pc ls (.int i :: .null :: rest)) := by
  intro T hT X
  obtain ⟨t, st, q⟩ := k T hT X
  exact ⟨t, X.daloadNull hexec (g := F0 m pc ls (.int i :: .null :: rest)) rfl (rest := rest) rfl (by rw [hb]; exact hdg) t st, q⟩
theorem vx_aaloadN (hexec : p.tables.exec = Jvm.exec) (hb : c.code = cc) {i : Int32} (hdg : decode cc pc = .ok (.aaload, 1)) (k : vx_NoteN p l e R s m args below meth c H locs cells slots Q (F0 m pc ls rest)) : W p l e R s m args below meth c H locs cells slots Q (F0 m pc ls (.int i :: .null :: rest)) := by
  intro T hT X
  obtain ⟨t, st, q⟩ := k T hT X
  exact ⟨t, X.aaloadNull hexec (g := F0 m pc ls (.int i :: .null :: rest)) rfl (rest := rest) rfl (by rw [hb]; exact hdg) t st, q⟩
theorem vx_baloadN (hexec : p.tables.exec = Jvm.exec) (hb : c.code = cc) {i : Int32} (hdg : decode cc pc = .ok (.baload, 1)) (k : vx_NoteN p l e R s m args below meth c H locs cells slots Q (F0 m pc ls rest)) : W p l e R s m args below meth c H locs cells slots Q (F0 m pc ls (.int i :: .null :: rest)) := by
  intro T hT X
  obtain ⟨t, st, q⟩ := k T hT X
  exact ⟨t, X.baloadNull hexec (g := F0 m pc ls (.int i :: .null :: rest)) rfl (rest := rest) rfl (by rw [hb]; exact hdg) t st, q⟩
theorem vx_caloadN (hexec : p.tables.exec = Jvm.exec) (hb : c.code = cc) {i : Int32} (hdg : decode cc pc = .ok (.caload, 1)) (k : vx_NoteN p l e R s m args below meth c H locs cells slots Q (F0 m pc ls rest)) : W p l e R s m args below meth c H locs cells slots Q (F0 m pc ls (.int i :: .null :: rest)) := by
  intro T hT X
  obtain ⟨t, st, q⟩ := k T hT X
  exact ⟨t, X.caloadNull hexec (g := F0 m pc ls (.int i :: .null :: rest)) rfl (rest := rest) rfl (by rw [hb]; exact hdg) t st, q⟩
theorem vx_saloadN (hexec : p.tables.exec = Jvm.exec) (hb : c.code = cc) {i : Int32} (hdg : decode cc pc = .ok (.saload, 1)) (k : vx_NoteN p l e R s m args below meth c H locs cells slots Q (F0 m pc ls rest)) : W p l e R s m args below meth c H locs cells slots Q (F0 m pc ls (.int i :: .null :: rest)) := by
  intro T hT X
  obtain ⟨t, st, q⟩ := k T hT X
  exact ⟨t, X.saloadNull hexec (g := F0 m pc ls (.int i :: .null :: rest)) rfl (rest := rest) rfl (by rw [hb]; exact hdg) t st, q⟩
theorem vx_iastoreN (hexec : p.tables.exec = Jvm.exec) (hb : c.code = cc) {x : Int32} {i : Int32} (hdg : decode cc pc = .ok (.iastore, 1)) (k : vx_NoteN p l e R s m args below meth c H locs cells slots Q (F0 m pc ls rest)) : W p l e R s m args below meth c H locs cells slots Q (F0 m pc ls (.int x :: .int i :: .null :: rest)) := by
  intro T hT X
  obtain ⟨t, st, q⟩ := k T hT X
  exact ⟨t, X.iastoreNull hexec (g := F0 m pc ls (.int x :: .int i :: .null :: rest)) rfl (rest := rest) rfl (by rw [hb]; exact hdg) t st, q⟩
theorem vx_lastoreN (hexec : p.tables.exec = Jvm.exec) (hb : c.code = cc) {x : Int64} {i : Int32} (hdg : decode cc pc = .ok (.lastore, 1)) (k : vx_NoteN p l e R s m args below meth c H locs cells slots Q (F0 m pc ls rest)) : W p l e R s m args below meth c H locs cells slots Q (F0 m pc ls (.long x :: .int i :: .null :: rest)) := by
  intro T hT X
  obtain ⟨t, st, q⟩ := k T hT X
  exact ⟨t, X.lastoreNull hexec (g := F0 m pc ls (.long x :: .int i :: .null :: rest)) rfl (rest := rest) rfl (by rw [hb]; exact hdg) t st, q⟩
theorem vx_fastoreN (hexec : p.tables.exec = Jvm.exec) (hb : c.code = cc) {x : UInt32} {i : Int32} (hdg : decode cc pc = .ok (.fastore, 1)) (k : vx_NoteN p l e R s m args below meth c H locs cells slots Q (F0 m pc ls rest)) : W p l e R s m args below meth c H locs cells slots Q (F0 m pc ls (.float x :: .int i :: .null :: rest)) := by
  intro T hT X
  obtain ⟨t, st, q⟩ := k T hT X
  exact ⟨t, X.fastoreNull hexec (g := F0 m pc ls (.float x :: .int i :: .null :: rest)) rfl (rest := rest) rfl (by rw [hb]; exact hdg) t st, q⟩
theorem vx_dastoreN (hexec : p.tables.exec = Jvm.exec) (hb : c.code = cc) {x : UInt64} {i : Int32} (hdg : decode cc pc = .ok (.dastore, 1)) (k : vx_NoteN p l e R s m args below meth c H locs cells slots Q (F0 m pc ls rest)) : W p l e R s m args below meth c H locs cells slots Q (F0 m pc ls (.double x :: .int i :: .null :: rest)) := by
  intro T hT X
  obtain ⟨t, st, q⟩ := k T hT X
  exact ⟨t, X.dastoreNull hexec (g := F0 m pc ls (.double x :: .int i :: .null :: rest)) rfl (rest := rest) rfl (by rw [hb]; exact hdg) t st, q⟩
theorem vx_bastoreN (hexec : p.tables.exec = Jvm.exec) (hb : c.code = cc) {x : Int32} {i : Int32} (hdg : decode cc pc = .ok (.bastore, 1)) (k : vx_NoteN p l e R s m args below meth c H locs cells slots Q (F0 m pc ls rest)) : W p l e R s m args below meth c H locs cells slots Q (F0 m pc ls (.int x :: .int i :: .null :: rest)) := by
  intro T hT X
  obtain ⟨t, st, q⟩ := k T hT X
  exact ⟨t, X.bastoreNull hexec (g := F0 m pc ls (.int x :: .int i :: .null :: rest)) rfl (rest := rest) rfl (by rw [hb]; exact hdg) t st, q⟩
theorem vx_castoreN (hexec : p.tables.exec = Jvm.exec) (hb : c.code = cc) {x : Int32} {i : Int32} (hdg : decode cc pc = .ok (.castore, 1)) (k : vx_NoteN p l e R s m args below meth c H locs cells slots Q (F0 m pc ls rest)) : W p l e R s m args below meth c H locs cells slots Q (F0 m pc ls (.int x :: .int i :: .null :: rest)) := by
  intro T hT X
  obtain ⟨t, st, q⟩ := k T hT X
  exact ⟨t, X.castoreNull hexec (g := F0 m pc ls (.int x :: .int i :: .null :: rest)) rfl (rest := rest) rfl (by rw [hb]; exact hdg) t st, q⟩
theorem vx_sastoreN (hexec : p.tables.exec = Jvm.exec) (hb : c.code = cc) {x : Int32} {i : Int32} (hdg : decode cc pc = .ok (.sastore, 1)) (k : vx_NoteN p l e R s m args below meth c H locs cells slots Q (F0 m pc ls rest)) : W p l e R s m args below meth c H locs cells slots Q (F0 m pc ls (.int x :: .int i :: .null :: rest)) := by
  intro T hT X
  obtain ⟨t, st, q⟩ := k T hT X
  exact ⟨t, X.sastoreNull hexec (g := F0 m pc ls (.int x :: .int i :: .null :: rest)) rfl (rest := rest) rfl (by rw [hb]; exact hdg) t st, q⟩
theorem vx_invokeN {own C : String} {index maxL : Nat} {y : MethodName} {bytes : ByteArray} {ret : Option FieldType} (hexec : p.tables.exec = Jvm.exec) (hb : c.code = cc) (hown : s.vm.findClass own = some m.cls) (hlink : (Cond.methodLink own index y).before args s = true) (hinst : (Cond.instanceMethod y).before args s = true) (hcode : (Cond.code y bytes maxL ret).before args s = true) (hsel : (Cond.selects C y y).before args s = true)
    (hx : y.cls ≠ "java/lang/invoke/MethodHandle" ∧ y.cls ≠ "java/lang/invoke/VarHandle") {As : List Value} (hlen : (parseMethodDescriptor y.desc).map (fun d => d.parameters.length) = some As.length) (hdg : decode cc pc = .ok (.invokevirtual index, 3))
    (k : vx_NoteN p l e R s m args below meth c H locs cells slots Q (F0 m pc ls rest)) {st0 : List Value} (hst : st0 = As.reverse ++ .null :: rest) : W p l e R s m args below meth c H locs cells slots Q (F0 m pc ls st0) := by
  intro T hT X
  obtain ⟨r0, r, hn, hrm, hstR, hsigR⟩ := va_Decl.of hinst hcode
  obtain ⟨c2, r2, m2, q1, q2, q3, q4, kP, hkP, hkPi⟩ := Cond.selects_spec hsel
  cases hn.symm.trans q3
  have hl9 : As.length = r.sig.parameters.length := by
    rw [hsigR] at hlen
    exact (Option.some.inj hlen).symm
  obtain ⟨vm', X1, st1⟩ := X.invokevirtualNull hexec hown hlink hn hrm hstR hkP hkPi hx (g := F0 m pc ls st0) rfl (argsL := As) (rest := rest) hl9 hst (by rw [hb]; exact hdg)
  obtain ⟨t, st, q⟩ := k (T.setVm vm') hT X1
  exact ⟨t, st1 t st, q⟩
theorem vx_newarrayZ {atype : ArrayType} (hexec : p.tables.exec = Jvm.exec) (hb : c.code = cc) {n : Int32} (h0 : n < 0) (hdg : decode cc pc = .ok (.newarray atype, 2)) (k : ∀ tx : String, tx = toString n → vx_Note p l e R s m args below meth c H locs cells slots Q (F0 m pc ls rest) "java/lang/NegativeArraySizeException" tx) : W p l e R s m args below meth c H locs cells slots Q (F0 m pc ls (.int n :: rest)) := by
  intro T hT X
  obtain ⟨t, st, q⟩ := k _ rfl T hT X
  exact ⟨t, X.newarrayNegative hexec (g := F0 m pc ls (.int n :: rest)) rfl h0 (rest := rest) rfl (by rw [hb]; exact hdg) t st, q⟩
end
end VXM
/-! ===== END ===== -/
/-! ===== BEGIN an exception as an object: made, kept, thrown later (no traces kept) ===== -/
section VXK
variable {p : Program} {l : Launch} {e : Env} {R : Room} {s : State} {m₀ : MethodId} {args : Array Value} {below : List Frame} {meth : Method} {c : Code} {W : State} {locs : List Loc} {cells slots : Nat}
set_option maxHeartbeats 1000000 in
theorem vx_ctorMadeS (X : Stand p l e R s m₀ args below meth c W locs cells slots) (hexec : p.tables.exec = Jvm.exec) (htr : e.platform.stackTraces = false) {own cls : String} {names : List String} {ic : Nat}
    (hown : s.vm.findClass own = some m₀.cls) (hcls : Bundle.fit cls = true) (hnames : ∀ n ∈ names, Bundle.fit n = true)
    (h : ∀ a ∈ Bundle.ownAtoms own ic cls names, a.before args s = true)
    (hlocs : ∀ x ∈ locs, ∀ cell, s.heap[x.base]? = some cell → cell.vm.isStatics = false)
    {a : Addr} {cX : ClassId} {kX : Class} (hfoundX : s.vm.findClass cls = some cX) (hkX : s.vm.classes[cX]? = some kX) (hcell : W.heap[a]? = some (freshCell cX kX)) (hnew : s.heap.size ≤ a)
    {msg : Value} (hmsg : msg.isRef = true)
    {g : JFrame} (hg : g.method = m₀) (hsize : g.locals.size = c.maxLocals) {rest : List Value} (hstack : g.stack = msg :: .ref a :: .ref a :: rest)
    (hd6 : decode c.code g.pc = .ok (.invokespecial ic, 3))
    (hRframes : names.length + 3 < R.frames) (hRlocals : 2 * g.monitorRoom + ((Value.ref a :: rest).map fun v => v.category).sum + (13 * (names.length + 1) + 42) ≤ R.locals) :
    ∃ (V : State) (ce : Cell) (L : List Loc), Stand p l e R s m₀ args below meth c (V.setCell a ce) (locs ++ L) cells slots ∧ (∀ y ∈ L, y.base = a) ∧ a < V.heap.size ∧ ce.cls = cX ∧ ce.vm = .none ∧
      ∀ target, Steps p.tables e below ((V.setCell a ce).setTop { g with stack := .ref a :: rest, pc := g.pc + 3 }) target → Steps p.tables e below (W.setTop g) target := by
  have howns : e.platform.frameOwnsMonitors = true := by rw [X.admits.platform]
  have hfin : e.platform.finalization = false := by rw [X.admits.platform]
  have hpl : e.platform.magicAccessors = ({} : Platform).magicAccessors := by rw [X.admits.platform]
  have a' : ∀ x, x ∈ Bundle.ownAtoms own ic cls names → x.holds args s none s [] = true := fun x hx => h x hx
  obtain ⟨T, Z0, L, -, Y⟩ := ThrowableC.of_atoms (args := args) howns hfin hpl (fun x hx => h x (by simp [Bundle.ownAtoms, hx]))
  obtain ⟨Z, M, LZ, LM, hnZ⟩ := Init0T.ofS_atoms (args := args) hpl L Y (fun x hx => h x (by simp [Bundle.ownAtoms, hx]))
  obtain ⟨P1, Ps, hlen, L1, hL, hP1m, hlink1, hlink⟩ := Bundle.chainS (args := args) hpl hnZ names cls hcls hnames (fun x hx => h x (by simp [Bundle.ownAtoms, hx]))
  have hfound : s.vm.findClass cls = some P1.m.cls := findClass_of_methodNamed hP1m
  cases Option.some.inj (hfoundX.symm.trans hfound)
  obtain ⟨c1, kX', hc1, hk, hord, -, -, hn6⟩ := Cond.instantiable_spec (a' (.instantiable cls 6) (by simp [Bundle.ownAtoms]))
  cases Option.some.inj (hc1.symm.trans hfound)
  cases Option.some.inj (hkX.symm.trans hk)
  have hsel0 : selectMethod e.platform s.vm P1.m.cls T.fill0 = .method T.fill0 := by
    obtain ⟨c2, r2, m2, q1, q2, q3, q4, -⟩ := Cond.selects_spec (a' (.selects cls Bundle.tFill0 Bundle.tFill0) (by simp [Bundle.ownAtoms]))
    cases Option.some.inj (q1.symm.trans hfound)
    cases Option.some.inj (q2.symm.trans (State.methodFound?_of_named Y.fill0 (by decide)))
    cases Option.some.inj (q3.symm.trans Y.fill0)
    rw [Launch.admits_selectMethod X.admits]; exact q4
  have hselF : selectMethod e.platform s.vm P1.m.cls T.fill = .method T.fill := by
    obtain ⟨c2, r2, m2, q1, q2, q3, q4, -⟩ := Cond.selects_spec (a' (.selects cls Bundle.tFill Bundle.tFill) (by simp [Bundle.ownAtoms]))
    cases Option.some.inj (q1.symm.trans hfound)
    cases Option.some.inj (q2.symm.trans (State.methodFound?_of_named Y.fill (by decide)))
    cases Option.some.inj (q3.symm.trans Y.fill)
    rw [Launch.admits_selectMethod X.admits]; exact q4
  obtain ⟨cellS0, hcS0, hiss⟩ := Y.statics
  obtain ⟨u0, hu0⟩ := Cond.staticRefV Y.unassigned L.unassignedStatic L.statics hcS0 hiss (a' (.isRef (.static Bundle.tN "UNASSIGNED_STACK" Bundle.steD)) (by simp [Bundle.ownAtoms]))
  obtain ⟨sen, hsen⟩ := Cond.staticRefV Y.sentinel L.sentinelStatic L.statics hcS0 hiss (a' (.isRef (.static Bundle.tN "SUPPRESSED_SENTINEL" Bundle.listD)) (by simp [Bundle.ownAtoms]))
  obtain ⟨ci198, i198, fB, hk198, hg198, ha198, hsB, -, hnB, htB, hffB⟩ := Cond.ownField (t := .object "java/lang/Object") Y.found L.cls (by decide +kernel) (a' (.fieldLink Bundle.tN 198 Bundle.tN "backtrace" "Ljava/lang/Object;") (by simp [Bundle.ownAtoms])) (a' (.lays Bundle.tN Bundle.tN "backtrace" "Ljava/lang/Object;") (by simp [Bundle.ownAtoms])) e.platform hpl
  obtain ⟨cellS, hcS', heS, -, hkeep⟩ := X.same.2.2.2.2.2 T.aS cellS0 hcS0
  have hcellS : W.heap[T.aS]? = some cellS := hcS'
  have hout' : ∀ i, (⟨T.aS, i⟩ : Loc) ∉ locs := fun i hmem => by
    have := hlocs _ hmem cellS0 hcS0
    rw [hiss] at this; cases this
  have hknownS : cellS.vm ≠ .unknown := by
    rw [heS]; intro hu
    rw [show cellS0.vm = .unknown from hu] at hiss
    cases hiss
  have hneS : T.aS ≠ a := Nat.ne_of_lt (Nat.lt_of_lt_of_le (Array.getElem?_eq_some_iff.mp hcS0).1 hnew)
  obtain ⟨iM, hffM⟩ := Y.msg
  obtain ⟨tyC, dC, hdC, hdnC⟩ := Cond.laysAt hfound hk Y.cause (a' (.lays cls Bundle.tN "cause" "Ljava/lang/Throwable;") (by simp [Bundle.ownAtoms]))
  obtain ⟨tyS, dS, hdS, hdnS⟩ := Cond.laysAt hfound hk Y.stack (a' (.lays cls Bundle.tN "stackTrace" Bundle.steD) (by simp [Bundle.ownAtoms]))
  obtain ⟨tyP, dP, hdP, hdnP⟩ := Cond.laysAt hfound hk Y.supp (a' (.lays cls Bundle.tN "suppressedExceptions" Bundle.listD) (by simp [Bundle.ownAtoms]))
  obtain ⟨tyM, dM, hdM, hdnM⟩ := Cond.laysAt hfound hk hffM (a' (.lays cls Bundle.tN "detailMessage" "Ljava/lang/String;") (by simp [Bundle.ownAtoms]))
  obtain ⟨tyB, dB, hdB, hdnB⟩ := Cond.laysAt hfound hk hffB (a' (.lays cls Bundle.tN "backtrace" "Ljava/lang/Object;") (by simp [Bundle.ownAtoms]))
  have bC := Cond.laysApart hdB hdC hdnB hdnC (by rw [hnB, Y.causeName]; decide)
  have bS := Cond.laysApart hdB hdS hdnB hdnS (by rw [hnB, Y.stackName]; decide)
  have bP := Cond.laysApart hdB hdP hdnB hdnP (by rw [hnB, Y.suppName]; decide)
  have hskip : SkipFacts T e.platform s (fun u => u) u0 ((preparedCellV T.toThrowableT (freshCell P1.m.cls kX) a u0 sen).withEntry W.cur) :=
    ⟨{ ci198 := ci198, i198 := i198, fBack := fB }, ⟨hk198, hg198, ha198, hsB⟩, by
      have := fresh_default (c := P1.m.cls) tyB
      rw [htB] at this
      simpa [preparedCellV, Cell.setSlot, Cell.withEntry, Array.getElem?_setIfInBounds, bC, bS, bP, bC.symm, bS.symm, bP.symm, defaultValue] using this, fun _ _ => rfl⟩
  obtain ⟨tm, methC, cdC, kC, vm₁, hnC, -, -, -, -, -, -, -, hW₁, st1⟩ := Steps.initColdS (tb := p.tables) (e := e) (below := below) (s := s) (U := W) X.here hexec X.warmed hpl hown (t := Bundle.initS cls) rfl rfl (Bundle.fit_spec hcls).2
    (a' (.methodLink own ic (Bundle.initS cls)) (by simp [Bundle.ownAtoms])) (h (.instanceMethod (Bundle.initS cls)) (by cases names <;> simp [Bundle.ownAtoms, Bundle.chainSAtoms, Bundle.passSAtoms])) (bytes := Bundle.six) (maxL := 2) (h (.code (Bundle.initS cls) Bundle.six 2 none) (by cases names <;> simp [Bundle.ownAtoms, Bundle.chainSAtoms, Bundle.passSAtoms]))
    (f := g) hg (a := a) (msg := msg) (rest := .ref a :: rest) hstack hd6
  cases Option.some.inj (hnC.symm.trans hP1m)
  have X₁ := X.noted hW₁
  obtain ⟨vm₂, X₂, st2⟩ := X₁.ctorMessageOffV hexec (g := { g with stack := .ref a :: rest }) hg hsize T L Z LZ M LM (P1 :: Ps)
    (fun P hP => by rcases List.mem_cons.mp hP with rfl | hP; exact L1; exact hL P hP) ⟨hlink1, hlink⟩ (u0 := u0) (sen := sen) (self := a) hmsg (cell := freshCell P1.m.cls kX) (cellS := cellS)
    hcell (fun _ => by simp) (by simp) rfl rfl hsel0 hselF hcellS hneS hknownS (by rw [hkeep _ (hout' _)]; exact hu0) (by rw [hkeep _ (hout' _)]; exact hsen)
    (Takes.of_laid hk hord tyC (by rw [Y.causeType]; rfl)) (Takes.of_laid hk hord tyS (by rw [Y.stackType]; exact fits_refV_array _ u0)) (Takes.of_laid hk hord tyP (by rw [Y.suppType]; exact fits_refV_object _ sen))
    (Takes.of_laid hk hord tyM (by rw [Y.msgType]; exact fits_refV_object _ ⟨msg, hmsg⟩)) Y.objLocals hskip htr [] hd6
    (by simp only [List.length_cons, hlen]; omega) (by simp only [List.length_cons, hlen]; exact hRlocals)
  have hlt : a < ((W.setVm vm₁).setVm vm₂).heap.size := (Array.getElem?_eq_some_iff.mp hcell).1
  refine ⟨(W.setVm vm₁).setVm vm₂, _, _, X₂, fun y hy => ?_, hlt, rfl, rfl, fun target hwalk => st1 _ (fun acts => ?_)⟩
  · simp only [List.mem_cons, List.not_mem_nil, or_false] at hy
    rcases hy with rfl | rfl | rfl | rfl | rfl <;> rfl
  · rw [doInvoke_state]
    exact st2 _ hwalk
set_option maxHeartbeats 1000000 in
theorem vx_ctorMade0 (X : Stand p l e R s m₀ args below meth c W locs cells slots) (hexec : p.tables.exec = Jvm.exec) (htr : e.platform.stackTraces = false) {own cls : String} {names : List String} {ic : Nat}
    (hown : s.vm.findClass own = some m₀.cls) (hcls : Bundle.fit cls = true) (hnames : ∀ n ∈ names, Bundle.fit n = true)
    (h : ∀ a ∈ Bundle.ownAtoms0 own ic cls names, a.before args s = true)
    (hlocs : ∀ x ∈ locs, ∀ cell, s.heap[x.base]? = some cell → cell.vm.isStatics = false)
    {a : Addr} {cX : ClassId} {kX : Class} (hfoundX : s.vm.findClass cls = some cX) (hkX : s.vm.classes[cX]? = some kX) (hcell : W.heap[a]? = some (freshCell cX kX)) (hnew : s.heap.size ≤ a)
    {g : JFrame} (hg : g.method = m₀) (hsize : g.locals.size = c.maxLocals) {rest : List Value} (hstack : g.stack = .ref a :: .ref a :: rest)
    (hd6 : decode c.code g.pc = .ok (.invokespecial ic, 3))
    (hRframes : names.length + 3 < R.frames) (hRlocals : 2 * g.monitorRoom + ((Value.ref a :: rest).map fun v => v.category).sum + (13 * (names.length + 1) + 41) ≤ R.locals) :
    ∃ (V : State) (ce : Cell) (L : List Loc), Stand p l e R s m₀ args below meth c (V.setCell a ce) (locs ++ L) cells slots ∧ (∀ y ∈ L, y.base = a) ∧ a < V.heap.size ∧ ce.cls = cX ∧ ce.vm = .none ∧
      ∀ target, Steps p.tables e below ((V.setCell a ce).setTop { g with stack := .ref a :: rest, pc := g.pc + 3 }) target → Steps p.tables e below (W.setTop g) target := by
  have howns : e.platform.frameOwnsMonitors = true := by rw [X.admits.platform]
  have hfin : e.platform.finalization = false := by rw [X.admits.platform]
  have hpl : e.platform.magicAccessors = ({} : Platform).magicAccessors := by rw [X.admits.platform]
  have a' : ∀ x, x ∈ Bundle.ownAtoms0 own ic cls names → x.holds args s none s [] = true := fun x hx => h x hx
  obtain ⟨T, Z, L, LZ, Y⟩ := ThrowableC.of_atoms (args := args) howns hfin hpl (fun x hx => h x (by simp [Bundle.ownAtoms0, hx]))
  obtain ⟨P1, Ps, hlen, L1, hL, hP1m, hlink1, hlink⟩ := Bundle.chain0 (args := args) hpl Y.init0 names cls hcls hnames (fun x hx => h x (by simp [Bundle.ownAtoms0, hx]))
  have hfound : s.vm.findClass cls = some P1.m.cls := findClass_of_methodNamed hP1m
  cases Option.some.inj (hfoundX.symm.trans hfound)
  obtain ⟨c1, kX', hc1, hk, hord, -, -, hn6⟩ := Cond.instantiable_spec (a' (.instantiable cls 6) (by simp [Bundle.ownAtoms0]))
  cases Option.some.inj (hc1.symm.trans hfound)
  cases Option.some.inj (hkX.symm.trans hk)
  have hsel0 : selectMethod e.platform s.vm P1.m.cls T.fill0 = .method T.fill0 := by
    obtain ⟨c2, r2, m2, q1, q2, q3, q4, -⟩ := Cond.selects_spec (a' (.selects cls Bundle.tFill0 Bundle.tFill0) (by simp [Bundle.ownAtoms0]))
    cases Option.some.inj (q1.symm.trans hfound)
    cases Option.some.inj (q2.symm.trans (State.methodFound?_of_named Y.fill0 (by decide)))
    cases Option.some.inj (q3.symm.trans Y.fill0)
    rw [Launch.admits_selectMethod X.admits]; exact q4
  have hselF : selectMethod e.platform s.vm P1.m.cls T.fill = .method T.fill := by
    obtain ⟨c2, r2, m2, q1, q2, q3, q4, -⟩ := Cond.selects_spec (a' (.selects cls Bundle.tFill Bundle.tFill) (by simp [Bundle.ownAtoms0]))
    cases Option.some.inj (q1.symm.trans hfound)
    cases Option.some.inj (q2.symm.trans (State.methodFound?_of_named Y.fill (by decide)))
    cases Option.some.inj (q3.symm.trans Y.fill)
    rw [Launch.admits_selectMethod X.admits]; exact q4
  obtain ⟨cellS0, hcS0, hiss⟩ := Y.statics
  obtain ⟨u0, hu0⟩ := Cond.staticRefV Y.unassigned L.unassignedStatic L.statics hcS0 hiss (a' (.isRef (.static Bundle.tN "UNASSIGNED_STACK" Bundle.steD)) (by simp [Bundle.ownAtoms0]))
  obtain ⟨sen, hsen⟩ := Cond.staticRefV Y.sentinel L.sentinelStatic L.statics hcS0 hiss (a' (.isRef (.static Bundle.tN "SUPPRESSED_SENTINEL" Bundle.listD)) (by simp [Bundle.ownAtoms0]))
  obtain ⟨ci198, i198, fB, hk198, hg198, ha198, hsB, -, hnB, htB, hffB⟩ := Cond.ownField (t := .object "java/lang/Object") Y.found L.cls (by decide +kernel) (a' (.fieldLink Bundle.tN 198 Bundle.tN "backtrace" "Ljava/lang/Object;") (by simp [Bundle.ownAtoms0])) (a' (.lays Bundle.tN Bundle.tN "backtrace" "Ljava/lang/Object;") (by simp [Bundle.ownAtoms0])) e.platform hpl
  obtain ⟨cellS, hcS', heS, -, hkeep⟩ := X.same.2.2.2.2.2 T.aS cellS0 hcS0
  have hcellS : W.heap[T.aS]? = some cellS := hcS'
  have hout' : ∀ i, (⟨T.aS, i⟩ : Loc) ∉ locs := fun i hmem => by
    have := hlocs _ hmem cellS0 hcS0
    rw [hiss] at this; cases this
  have hknownS : cellS.vm ≠ .unknown := by
    rw [heS]; intro hu
    rw [show cellS0.vm = .unknown from hu] at hiss
    cases hiss
  have hneS : T.aS ≠ a := Nat.ne_of_lt (Nat.lt_of_lt_of_le (Array.getElem?_eq_some_iff.mp hcS0).1 hnew)
  obtain ⟨iM, hffM⟩ := Y.msg
  obtain ⟨tyC, dC, hdC, hdnC⟩ := Cond.laysAt hfound hk Y.cause (a' (.lays cls Bundle.tN "cause" "Ljava/lang/Throwable;") (by simp [Bundle.ownAtoms0]))
  obtain ⟨tyS, dS, hdS, hdnS⟩ := Cond.laysAt hfound hk Y.stack (a' (.lays cls Bundle.tN "stackTrace" Bundle.steD) (by simp [Bundle.ownAtoms0]))
  obtain ⟨tyP, dP, hdP, hdnP⟩ := Cond.laysAt hfound hk Y.supp (a' (.lays cls Bundle.tN "suppressedExceptions" Bundle.listD) (by simp [Bundle.ownAtoms0]))
  obtain ⟨tyM, dM, hdM, hdnM⟩ := Cond.laysAt hfound hk hffM (a' (.lays cls Bundle.tN "detailMessage" "Ljava/lang/String;") (by simp [Bundle.ownAtoms0]))
  obtain ⟨tyB, dB, hdB, hdnB⟩ := Cond.laysAt hfound hk hffB (a' (.lays cls Bundle.tN "backtrace" "Ljava/lang/Object;") (by simp [Bundle.ownAtoms0]))
  have bC := Cond.laysApart hdB hdC hdnB hdnC (by rw [hnB, Y.causeName]; decide)
  have bS := Cond.laysApart hdB hdS hdnB hdnS (by rw [hnB, Y.stackName]; decide)
  have bP := Cond.laysApart hdB hdP hdnB hdnP (by rw [hnB, Y.suppName]; decide)
  have hskip : SkipFacts T e.platform s (fun u => u) u0 ((preparedCellV T.toThrowableT (freshCell P1.m.cls kX) a u0 sen).withEntry W.cur) :=
    ⟨{ ci198 := ci198, i198 := i198, fBack := fB }, ⟨hk198, hg198, ha198, hsB⟩, by
      have := fresh_default (c := P1.m.cls) tyB
      rw [htB] at this
      simpa [preparedCellV, Cell.setSlot, Cell.withEntry, Array.getElem?_setIfInBounds, bC, bS, bP, bC.symm, bS.symm, bP.symm, defaultValue] using this, fun _ _ => rfl⟩
  obtain ⟨tm, methC, cdC, kC, vm₁, hnC, -, -, -, -, -, -, -, hW₁, st1⟩ := Steps.initCold (tb := p.tables) (e := e) (below := below) (s := s) (U := W) X.here hexec X.warmed hpl hown (t := Bundle.init0 cls) rfl rfl (Bundle.fit_spec hcls).2
    (a' (.methodLink own ic (Bundle.init0 cls)) (by simp [Bundle.ownAtoms0])) (h (.instanceMethod (Bundle.init0 cls)) (by cases names <;> simp [Bundle.ownAtoms0, Bundle.chain0Atoms, Bundle.passAtoms])) (bytes := Bundle.five) (maxL := 1) (h (.code (Bundle.init0 cls) Bundle.five 1 none) (by cases names <;> simp [Bundle.ownAtoms0, Bundle.chain0Atoms, Bundle.passAtoms]))
    (f := g) hg (a := a) (rest := .ref a :: rest) hstack hd6
  cases Option.some.inj (hnC.symm.trans hP1m)
  have X₁ := X.noted hW₁
  obtain ⟨vm₂, X₂, st2⟩ := X₁.ctorPlainOffV hexec (g := { g with stack := .ref a :: rest }) hg hsize T L Z LZ (P1 :: Ps)
    (fun P hP => by rcases List.mem_cons.mp hP with rfl | hP; exact L1; exact hL P hP) ⟨hlink1, hlink⟩ (u0 := u0) (sen := sen) (self := a) (cell := freshCell P1.m.cls kX) (cellS := cellS)
    hcell (fun _ => by simp) (by simp) rfl rfl hsel0 hselF hcellS hneS hknownS (by rw [hkeep _ (hout' _)]; exact hu0) (by rw [hkeep _ (hout' _)]; exact hsen)
    (Takes.of_laid hk hord tyC (by rw [Y.causeType]; rfl)) (Takes.of_laid hk hord tyS (by rw [Y.stackType]; exact fits_refV_array _ u0)) (Takes.of_laid hk hord tyP (by rw [Y.suppType]; exact fits_refV_object _ sen)) Y.objLocals hskip htr [] hd6
    (by simp only [List.length_cons, hlen]; omega) (by simp only [List.length_cons, hlen]; exact hRlocals)
  have hlt : a < ((W.setVm vm₁).setVm vm₂).heap.size := (Array.getElem?_eq_some_iff.mp hcell).1
  refine ⟨(W.setVm vm₁).setVm vm₂, _, _, X₂, fun y hy => ?_, hlt, rfl, rfl, fun target hwalk => st1 _ (fun acts => ?_)⟩
  · simp only [List.mem_cons, List.not_mem_nil, or_false] at hy
    rcases hy with rfl | rfl | rfl | rfl <;> rfl
  · rw [doInvoke_state]
    exact st2 _ hwalk
end VXK
section VXK2
variable {p : Program} {l : Launch} {e : Env} {R : Room} {s : State} {m : MethodId} {args : Array Value} {below : List Frame} {meth : Method} {c : Code} {H : Heap} {locs : List Loc} {cells slots : Nat} {Q : State → Prop}
variable {ls : Array Slot} {rest : List Value} {D : va_G} {cl : List vw_C} {tys : List (ClassId × FieldType)} {ws : va_W}
/-- 'new E("text")' that isn't thrown at once: the object goes on the stack -/
theorem vx_makeS {cc : ByteArray} {pc : Nat} (hexec : p.tables.exec = Jvm.exec) (hb : c.code = cc) (hl : l.stackTraces = false) {own cls text : String} {names : List String} {ik is ic sa ci : Nat} {A : Nat → Prop} {T0 : u_T}
    (hown : s.vm.findClass own = some m.cls) (hcls : Bundle.fit cls = true) (hnames : ∀ n ∈ names, Bundle.fit n = true)
    (hk : (Cond.classLink own ik cls).before args s = true) (hini : (Cond.initialized cls).before args s = true) (hstr : vk_R own is text sa s) (hat : ∀ w ∈ vx_atS own ic cls names, w.before args s = true)
    (hgood : ∀ w ∈ Cond.classLink own ik cls :: Cond.initialized cls :: vx_atS own ic cls names, vx_ot w = true)
    (hU : vx_Zq Bundle.tN "UNASSIGNED_STACK" Bundle.steD A s s.heap) (hN : vx_Zq Bundle.tN "SUPPRESSED_SENTINEL" Bundle.listD A s s.heap) (hS : va_S A s.heap H locs) (hsize : ls.size = c.maxLocals)
    (d0 : decode cc pc = .ok (.new ik, 3)) (d3 : decode cc (pc + 3) = .ok (.dup, 1)) (d4 : decode cc (pc + 4) = .ok (.ldc is, 2)) (d6 : decode cc (pc + 6) = .ok (.invokespecial ic, 3))
    (hK : va_K D cl tys s) (hP : va_P D cl ws H) (hD : va_D A ws) (hA : ∀ q, s.heap.size ≤ q → A q) (hc : cl[ci]? = some (cls, T0, 0))
    (hRframes : names.length + 3 < R.frames) (hRlocals : (rest.map fun v => v.category).sum + (13 * (names.length + 1) + 43) ≤ R.locals) (hRcells : cells + 1 ≤ R.cells) (hRslots : slots + 6 ≤ R.slots)
    (kk : ∀ (q : Nat) (H1 : Heap), va_P D cl (ws ++ [(q, .inr (ci, []))]) H1 → va_D A (ws ++ [(q, .inr (ci, []))]) → va_S A s.heap H1 locs → W p l e R s m args below meth c H1 locs (cells + 1) (slots + 6) Q (F0 m (pc + 9) ls (.ref q :: rest))) :
    W p l e R s m args below meth c H locs cells slots Q (F0 m pc ls rest) := by
  intro T hT X
  subst hT
  have htr : e.platform.stackTraces = false := (show e.platform.stackTraces = l.stackTraces by rw [X.admits.platform]).trans hl
  have Y := vx_rebase X (R' := { frames := R.frames, locals := R.locals, cells := 1, slots := 6 }) (Nat.le_refl _) (Nat.le_refl _) hRcells hRslots
  obtain ⟨s', hA'⟩ : ∃ z, z = (T.setVm s.vm).setFrames (.invoking m args :: below) := ⟨_, rfl⟩
  rw [← hA'] at Y
  have hvm : s'.vm = s.vm := by rw [hA']; rfl
  have hhp : s'.heap = T.heap := by rw [hA']; rfl
  have hW0 : s.WarmedH s'.vm := by rw [hvm]; exact State.WarmedH.refl s
  have hat' : ∀ w ∈ vx_atS own ic cls names, w.before args s' = true := fun w hw => vx_ot_at hW0 hvm.symm (hgood w (List.mem_cons_of_mem _ (List.mem_cons_of_mem _ hw))) (hat w hw)
  have hk' : (Cond.classLink own ik cls).before args s' = true := vx_ot_at hW0 hvm.symm (hgood _ List.mem_cons_self) hk
  have hini' : (Cond.initialized cls).before args s' = true := vx_ot_at hW0 hvm.symm (hgood _ (List.mem_cons_of_mem _ List.mem_cons_self)) hini
  have hU' : vx_Zq Bundle.tN "UNASSIGNED_STACK" Bundle.steD A s' s'.heap := by rw [hhp]; exact vx_Zq.moved hW0.alike (hU.kept hS.2.1)
  have hN' : vx_Zq Bundle.tN "SUPPRESSED_SENTINEL" Bundle.listD A s' s'.heap := by rw [hhp]; exact vx_Zq.moved hW0.alike (hN.kept hS.2.1)
  have h : ∀ w ∈ Bundle.ownAtoms own ic cls names, w.before args s' = true := vx_own hat' (vx_isRefq hU'.1) (vx_isRefq hN'.1) hU'.2.word hN'.2.word
  have hown' : s'.vm.findClass own = some m.cls := by rw [hvm]; exact hown
  have hins : (Cond.instantiable cls 6).before args s' = true := h _ (by simp [Bundle.ownAtoms])
  obtain ⟨vm₁, cX, kX, hfX, hkX, -, -, X₁, st1⟩ := Y.newCold hexec (own := own) (C := cls) (index := ik) (n := 6) hown' hk' hins hini'
    (g := F0 m pc ls rest) rfl (by rw [hb]; exact d0) (Nat.le_refl _) (Nat.le_refl _)
  generalize hT1 : (T.setVm vm₁).pushCell { cls := cX, slots := kX.instanceTypes.map defaultValue, vm := .none } = T1 at X₁ st1
  have hcat : (Value.ref T.heap.size).category = 1 := rfl
  have hcellA : T1.heap[T.heap.size]? = some (freshCell cX kX) := by rw [← hT1]; exact State.heap_pushCell_size _ _
  have d3' : decode c.code (pc + 3) = .ok (.dup, 1) := by rw [hb]; exact d3
  have d4' : decode c.code (pc + 4) = .ok (.ldc is, 2) := by rw [hb]; exact d4
  have hstr' : vk_R own is text sa s' := vk_R.warm hW0 hstr
  obtain ⟨V, ce, L, Z, hL, hlt, hcl9, hvm9, st⟩ := vx_ctorMadeS X₁ hexec htr (own := own) (cls := cls) (names := names) (ic := ic) hown' hcls hnames h (fun x hx => nomatch hx) hfX hkX hcellA (by rw [hhp]; exact Nat.le_refl _) (msg := .ref sa) rfl
    (g := { method := m, pc := pc + 6, locals := ls, stack := .ref sa :: .ref T.heap.size :: .ref T.heap.size :: rest, locked := none }) rfl hsize (rest := rest) rfl
    (by rw [hb]; exact d6) hRframes (by simp only [List.map_cons, List.sum_cons, hcat]; omega)
  have Z0 := Stand.forget (locs := []) Z (fun y hy => by rw [hL y hy, hhp]; exact Nat.le_refl _)
  obtain ⟨f1, f2⟩ := vx_frame Z0.same
  rw [hhp] at f1 f2
  have hcid : ce.cls = D.1 ci := by
    rw [hcl9]
    have h1 := (hK.1 ci _ hc).2.1
    rw [hvm] at hfX
    exact Option.some.inj (hfX.symm.trans h1)
  have hh : (V.setCell T.heap.size ce).heap[T.heap.size]? = some ce := heapAt_setCell_self (s := V) ce hlt
  subst hA'
  have X5 := vx_back9 X Y Z0
  have X6 : Stand p l e R s m args below meth c (V.setCell T.heap.size ce) locs (cells + 1) (slots + 6) := { X5 with same := X5.same.mono (by omega) (by omega) }
  have hk9 : ∀ (k : Nat) (x : Nat × va_E), ws[k]? = some x → (V.setCell T.heap.size ce).heap[x.1]? = T.heap[x.1]? := fun k x hx => f2 x.1 ((hP k x hx).lt) (fun z hz => nomatch hz)
  obtain ⟨t, a1, b1⟩ := kk T.heap.size (V.setCell T.heap.size ce).heap ((hP.kept hk9).app (fun k x hx => by
      have hz : k < 1 := (List.getElem?_eq_some_iff.mp hx).1
      rw [show k = 0 by omega] at hx
      cases hx
      exact ⟨_, hc, ce, hh, hcid, hvm9, fun k hk => absurd hk (Nat.not_lt_zero k)⟩)) (hD.push hP rfl (hA _ hS.1)) ⟨Nat.le_trans hS.1 f1, fun q h1 h2 => (f2 q (Nat.lt_of_lt_of_le h1 hS.1) (fun z hz => nomatch hz)).trans (hS.2.1 q h1 h2), hS.2.2⟩ _ rfl X6
  refine ⟨t, st1 _ ?_, b1⟩
  show Steps p.tables e below (T1.setTop { method := m, pc := pc + 3, locals := ls, stack := .ref T.heap.size :: rest, locked := none }) _
  jvm_step X₁.here [X₁.here.top, hexec, d3', Value.category]
  exact X₁.ldcString hexec (own := own) (text := text) (index := is) (a := sa) hown' hstr'.1 hstr'.2
    (g := { method := m, pc := pc + 4, locals := ls, stack := .ref T.heap.size :: .ref T.heap.size :: rest, locked := none }) rfl d4' _ (st _ a1)
/-- 'new E()' that isn't thrown at once: the object goes on the stack -/
theorem vx_make0 {cc : ByteArray} {pc : Nat} (hexec : p.tables.exec = Jvm.exec) (hb : c.code = cc) (hl : l.stackTraces = false) {own cls : String} {names : List String} {ik ic ci : Nat} {A : Nat → Prop} {T0 : u_T}
    (hown : s.vm.findClass own = some m.cls) (hcls : Bundle.fit cls = true) (hnames : ∀ n ∈ names, Bundle.fit n = true)
    (hk : (Cond.classLink own ik cls).before args s = true) (hini : (Cond.initialized cls).before args s = true) (hat : ∀ w ∈ vx_at0 own ic cls names, w.before args s = true)
    (hgood : ∀ w ∈ Cond.classLink own ik cls :: Cond.initialized cls :: vx_at0 own ic cls names, vx_ot w = true)
    (hU : vx_Zq Bundle.tN "UNASSIGNED_STACK" Bundle.steD A s s.heap) (hN : vx_Zq Bundle.tN "SUPPRESSED_SENTINEL" Bundle.listD A s s.heap) (hS : va_S A s.heap H locs) (hsize : ls.size = c.maxLocals)
    (d0 : decode cc pc = .ok (.new ik, 3)) (d3 : decode cc (pc + 3) = .ok (.dup, 1)) (d4 : decode cc (pc + 4) = .ok (.invokespecial ic, 3))
    (hK : va_K D cl tys s) (hP : va_P D cl ws H) (hD : va_D A ws) (hA : ∀ q, s.heap.size ≤ q → A q) (hc : cl[ci]? = some (cls, T0, 0))
    (hRframes : names.length + 3 < R.frames) (hRlocals : (rest.map fun v => v.category).sum + (13 * (names.length + 1) + 42) ≤ R.locals) (hRcells : cells + 1 ≤ R.cells) (hRslots : slots + 6 ≤ R.slots)
    (kk : ∀ (q : Nat) (H1 : Heap), va_P D cl (ws ++ [(q, .inr (ci, []))]) H1 → va_D A (ws ++ [(q, .inr (ci, []))]) → va_S A s.heap H1 locs → W p l e R s m args below meth c H1 locs (cells + 1) (slots + 6) Q (F0 m (pc + 7) ls (.ref q :: rest))) :
    W p l e R s m args below meth c H locs cells slots Q (F0 m pc ls rest) := by
  intro T hT X
  subst hT
  have htr : e.platform.stackTraces = false := (show e.platform.stackTraces = l.stackTraces by rw [X.admits.platform]).trans hl
  have Y := vx_rebase X (R' := { frames := R.frames, locals := R.locals, cells := 1, slots := 6 }) (Nat.le_refl _) (Nat.le_refl _) hRcells hRslots
  obtain ⟨s', hA'⟩ : ∃ z, z = (T.setVm s.vm).setFrames (.invoking m args :: below) := ⟨_, rfl⟩
  rw [← hA'] at Y
  have hvm : s'.vm = s.vm := by rw [hA']; rfl
  have hhp : s'.heap = T.heap := by rw [hA']; rfl
  have hW0 : s.WarmedH s'.vm := by rw [hvm]; exact State.WarmedH.refl s
  have hat' : ∀ w ∈ vx_at0 own ic cls names, w.before args s' = true := fun w hw => vx_ot_at hW0 hvm.symm (hgood w (List.mem_cons_of_mem _ (List.mem_cons_of_mem _ hw))) (hat w hw)
  have hk' : (Cond.classLink own ik cls).before args s' = true := vx_ot_at hW0 hvm.symm (hgood _ List.mem_cons_self) hk
  have hini' : (Cond.initialized cls).before args s' = true := vx_ot_at hW0 hvm.symm (hgood _ (List.mem_cons_of_mem _ List.mem_cons_self)) hini
  have hU' : vx_Zq Bundle.tN "UNASSIGNED_STACK" Bundle.steD A s' s'.heap := by rw [hhp]; exact vx_Zq.moved hW0.alike (hU.kept hS.2.1)
  have hN' : vx_Zq Bundle.tN "SUPPRESSED_SENTINEL" Bundle.listD A s' s'.heap := by rw [hhp]; exact vx_Zq.moved hW0.alike (hN.kept hS.2.1)
  have h : ∀ w ∈ Bundle.ownAtoms0 own ic cls names, w.before args s' = true := vx_own hat' (vx_isRefq hU'.1) (vx_isRefq hN'.1) hU'.2.word hN'.2.word
  have hown' : s'.vm.findClass own = some m.cls := by rw [hvm]; exact hown
  have hins : (Cond.instantiable cls 6).before args s' = true := h _ (by simp [Bundle.ownAtoms0])
  obtain ⟨vm₁, cX, kX, hfX, hkX, -, -, X₁, st1⟩ := Y.newCold hexec (own := own) (C := cls) (index := ik) (n := 6) hown' hk' hins hini'
    (g := F0 m pc ls rest) rfl (by rw [hb]; exact d0) (Nat.le_refl _) (Nat.le_refl _)
  generalize hT1 : (T.setVm vm₁).pushCell { cls := cX, slots := kX.instanceTypes.map defaultValue, vm := .none } = T1 at X₁ st1
  have hcat : (Value.ref T.heap.size).category = 1 := rfl
  have hcellA : T1.heap[T.heap.size]? = some (freshCell cX kX) := by rw [← hT1]; exact State.heap_pushCell_size _ _
  have d3' : decode c.code (pc + 3) = .ok (.dup, 1) := by rw [hb]; exact d3
  obtain ⟨V, ce, L, Z, hL, hlt, hcl9, hvm9, st⟩ := vx_ctorMade0 X₁ hexec htr (own := own) (cls := cls) (names := names) (ic := ic) hown' hcls hnames h (fun x hx => nomatch hx) hfX hkX hcellA (by rw [hhp]; exact Nat.le_refl _)
    (g := { method := m, pc := pc + 4, locals := ls, stack := .ref T.heap.size :: .ref T.heap.size :: rest, locked := none }) rfl hsize (rest := rest) rfl
    (by rw [hb]; exact d4) hRframes (by simp only [List.map_cons, List.sum_cons, hcat]; omega)
  have Z0 := Stand.forget (locs := []) Z (fun y hy => by rw [hL y hy, hhp]; exact Nat.le_refl _)
  obtain ⟨f1, f2⟩ := vx_frame Z0.same
  rw [hhp] at f1 f2
  have hcid : ce.cls = D.1 ci := by
    rw [hcl9]
    have h1 := (hK.1 ci _ hc).2.1
    rw [hvm] at hfX
    exact Option.some.inj (hfX.symm.trans h1)
  have hh : (V.setCell T.heap.size ce).heap[T.heap.size]? = some ce := heapAt_setCell_self (s := V) ce hlt
  subst hA'
  have X5 := vx_back9 X Y Z0
  have X6 : Stand p l e R s m args below meth c (V.setCell T.heap.size ce) locs (cells + 1) (slots + 6) := { X5 with same := X5.same.mono (by omega) (by omega) }
  have hk9 : ∀ (k : Nat) (x : Nat × va_E), ws[k]? = some x → (V.setCell T.heap.size ce).heap[x.1]? = T.heap[x.1]? := fun k x hx => f2 x.1 ((hP k x hx).lt) (fun z hz => nomatch hz)
  obtain ⟨t, a1, b1⟩ := kk T.heap.size (V.setCell T.heap.size ce).heap ((hP.kept hk9).app (fun k x hx => by
      have hz : k < 1 := (List.getElem?_eq_some_iff.mp hx).1
      rw [show k = 0 by omega] at hx
      cases hx
      exact ⟨_, hc, ce, hh, hcid, hvm9, fun k hk => absurd hk (Nat.not_lt_zero k)⟩)) (hD.push hP rfl (hA _ hS.1)) ⟨Nat.le_trans hS.1 f1, fun q h1 h2 => (f2 q (Nat.lt_of_lt_of_le h1 hS.1) (fun z hz => nomatch hz)).trans (hS.2.1 q h1 h2), hS.2.2⟩ _ rfl X6
  refine ⟨t, st1 _ ?_, b1⟩
  show Steps p.tables e below (T1.setTop { method := m, pc := pc + 3, locals := ls, stack := .ref T.heap.size :: rest, locked := none }) _
  jvm_step X₁.here [X₁.here.top, hexec, d3', Value.category]
  exact st _ a1
/-- 'throw x' of an object that was made before -/
theorem vx_athrow {cc : ByteArray} {pc : Nat} (hexec : p.tables.exec = Jvm.exec) (hb : c.code = cc) {q : Addr} (hdg : decode cc pc = .ok (.athrow, 1)) (k : vx_W p l e R s m args below meth c H locs cells slots Q (F0 m pc ls rest) q) : W p l e R s m args below meth c H locs cells slots Q (F0 m pc ls (.ref q :: rest)) := by
  intro T hT X
  obtain ⟨t, st, hq⟩ := k T hT X
  refine ⟨t, ?_, hq⟩
  have hdg' : decode c.code pc = .ok (.athrow, 1) := by rw [hb]; exact hdg
  jvm_step X.here [X.here.top, hexec, hdg', athrow.wp_sem]
  exact st
end VXK2
/-! ===== END ===== -/
/-! ===== BEGIN a constructor that throws (launches without stack traces) ===== -/
section VXIA
variable {p : Program} {l : Launch} {e : Env} {R : Room} {s : State} {m : MethodId} {args : Array Value} {below : List Frame} {meth : Method} {c : Code} {T : State} {locs : List Loc} {cells slots : Nat}
theorem vx_callI (X : Stand p l e R s m args below meth c T locs cells slots) (hexec : p.tables.exec = Jvm.exec) {own : String} {index : Nat} {y : MethodName} {bytes : ByteArray} {maxL : Nat}
    (hown : s.vm.findClass own = some m.cls) (hy1 : y.name = "<init>") (hlink : (Cond.methodLink own index y).before args s = true) (hinst : (Cond.instanceMethod y).before args s = true)
    (hcode : (Cond.code y bytes maxL none).before args s = true) (hy : y.cls ≠ "java/lang/invoke/MethodHandle" ∧ y.cls ≠ "java/lang/invoke/VarHandle")
    {W9 : Nat} {Pre : Pt → Array Value → Prop} {Post : Pt → Array Value → Option Value → Pt → Prop} {PostX : Pt → Array Value → Addr → Pt → Prop} (hK : vx_Back l R p e below s args y 3 W9 Pre Post PostX)
    {g : JFrame} (hg : g.method = m) (hsize : g.locals.size = c.maxLocals) {a : Addr} {argsL rest : List Value} (hlen : ∀ sig, parseMethodDescriptor y.desc = some sig → argsL.length = sig.parameters.length)
    (hstack : g.stack = argsL.reverse ++ .ref a :: rest) (hW : 2 * g.monitorRoom + (rest.map fun v => v.category).sum ≤ W9) (hdg : decode c.code g.pc = .ok (.invokespecial index, 3))
    (hpre : ∀ vm₁, s.WarmedH vm₁ → Pre ⟨T.setVm vm₁, locs, cells, slots⟩ (Value.ref a :: argsL).toArray) :
    (∃ (v : Option Value) (vm₁ : Vm) (B : Pt), s.WarmedH vm₁ ∧ Stand p l e R s m args below meth c B.U B.locs B.cells B.slots ∧ Post ⟨T.setVm vm₁, locs, cells, slots⟩ (Value.ref a :: argsL).toArray v B ∧
      ∀ target, Steps p.tables e below (B.U.setTop { g with pc := g.pc + 3, stack := v.toList ++ rest }) target → Steps p.tables e below (T.setTop g) target) ∨
    (∃ (q : Addr) (vm₁ : Vm) (B : Pt), s.WarmedH vm₁ ∧ Stand p l e R s m args below meth c B.U B.locs B.cells B.slots ∧ PostX ⟨T.setVm vm₁, locs, cells, slots⟩ (Value.ref a :: argsL).toArray q B ∧
      Steps p.tables e below (T.setTop g) ((B.U.setTop { g with stack := rest }).pushFrame (.throwing q))) := by
  subst hg
  have hpl : e.platform.magicAccessors = ({} : Platform).magicAccessors := by rw [X.admits.platform]
  obtain ⟨mk, methM, cM, kP, vm₁, hnamed, hmethM, hcodeM, -, hlocalsM, -, hkP, -, hW₁, hstep₁⟩ := Steps.initColdArgs (e := e) X.here hexec X.warmed hpl hown hy1 hy hlink hinst hcode (f := g) rfl hlen hstack hdg
  have X₁ := X.noted hW₁
  rcases hK g.method meth c ⟨T.setVm vm₁, locs, cells, slots⟩ { g with stack := rest } (.invokespecial index) mk (Value.ref a :: argsL).toArray X₁ rfl hsize hdg hW (X₁.named hnamed) (hpre vm₁ X₁.warmed) with ⟨v, B, X', hpost, hsteps⟩ | ⟨q, B, X', hpost, hsteps⟩
  · exact Or.inl ⟨v, vm₁, B, X₁.warmed, X', hpost, fun target h => hstep₁ _ fun acts => by rw [doInvoke_state]; exact hsteps.trans h⟩
  · exact Or.inr ⟨q, vm₁, B, X₁.warmed, X', hpost, hstep₁ _ fun acts => by rw [doInvoke_state]; exact hsteps⟩
end VXIA
section VXIB
variable {p : Program} {l : Launch} {e : Env} {R : Room} {s : State} {m : MethodId} {args : Array Value} {below : List Frame} {meth : Method} {c : Code} {H : Heap} {locs : List Loc} {cells slots : Nat}
variable {y : MethodName} {bytes cc : ByteArray} {maxL nL mc ms n index : Nat} {ret : Option FieldType} {ws : List Cond} {rm : Room} {Pc : Array Value → State → Prop} {Qc : Array Value → State → Outcome → State → Prop} {XC : String → State → State → Prop} {free : Addr → Prop} {Ts : List Cond} {own C : String} {b : Addr} {As rest : List Value} {g : JFrame}
theorem vx_runI (S : CallFix p m c cc nL s args Ts own) (hM : vx_Met l y ws rm Pc Qc XC mc ms free) (cw : CallB R s args own index y bytes maxL none ws rm mc ms n ∧ y.name = "<init>" ∧ (Cond.instanceMethod y).before args s = true) (hp : PreS s H Pc (.ref b :: As))
    (hg : g.method = m) (hn : As.length = n) (hsize : g.locals.size = nL) (hstack : g.stack = As.reverse ++ .ref b :: rest) (hW : 2 * g.monitorRoom + (rest.map fun v => v.category).sum ≤ 8) (hdg : decode cc g.pc = .ok (.invokespecial index, 3)) (hf : cells + mc ≤ R.cells ∧ slots + ms ≤ R.slots) :
    vx_Run p l e R s m args below meth c H locs cells slots mc ms g rest (Qc (Value.ref b :: As).toArray) XC free := by
  have hK : vx_Back l R p e below s args y 3 8 (PreOf R mc ms Pc) (PostOf Qc mc ms free) (vx_Post XC mc ms free) := vx_callBack cw.1 hM hp.1
  obtain ⟨⟨-, -, -, -, -, -, hcode, -, hy, hlen, hl⟩, hy1, hin⟩ := cw
  obtain ⟨hx, hb, hml, ho, -⟩ := S
  have hPc := hp.2
  intro T hT X
  rcases vx_callI X hx (bytes := bytes) (maxL := maxL) ho hy1 hl hin hcode hy hK hg (hsize.trans hml.symm) (a := b) (argsL := As) (rest := rest) (fun sig h => hn.trans (hlen sig h)) hstack hW (by rw [hb]; exact hdg)
    (fun vm₁ hW₁ => ⟨hf.1, hf.2, hPc (T.setVm vm₁) hT hW₁⟩) with ⟨v, vm₁, ⟨U', l2, c2, s2⟩, hW₁, X', ⟨g', mk, t, L, e1, e2, hq, h1, hL, h2, h3⟩, st⟩ | ⟨q, vm₁, ⟨U', l2, c2, s2⟩, hW₁, X', ⟨g', mk, t, L, E, ce, e1, e2, hq, hce, hcv, hcl, h1, hL, h2, h3⟩, st⟩
  · dsimp only [Pt.U, Pt.locs, Pt.cells, Pt.slots] at X' e1 e2 h1 h2 h3 st
    subst h1; subst h2; subst h3
    exact Or.inl ⟨v, (T.setVm vm₁).calling g' mk (Value.ref b :: As).toArray, t, U', L, hT, X', hL, e1, e2, hq, st⟩
  · dsimp only [Pt.U, Pt.locs, Pt.cells, Pt.slots] at X' e1 e2 h1 h2 h3 st hcl
    subst h1; subst h2; subst h3
    exact Or.inr ⟨q, (T.setVm vm₁).calling g' mk (Value.ref b :: As).toArray, t, U', L, E, ce, hT, X', hL, e1, e2, hq, hce, hcv, vx_cls hW₁ hcl, st⟩
end VXIB
/-! ===== END ===== -/
/-! ===== BEGIN a private constructor of a nest mate that throws ===== -/
section VXIC
variable {p : Program} {l : Launch} {e : Env} {R : Room} {s : State} {m : MethodId} {args : Array Value} {below : List Frame} {meth : Method} {c : Code} {T : State} {locs : List Loc} {cells slots : Nat}
theorem vx_callIN (X : Stand p l e R s m args below meth c T locs cells slots) (hexec : p.tables.exec = Jvm.exec) {own : String} {index : Nat} {host : String} {y : MethodName} {bytes : ByteArray} {maxL : Nat}
    (hown : s.vm.findClass own = some m.cls) (hy1 : y.name = "<init>") (hlink : (Cond.methodLinkNest own index y host).before args s = true) (hinst : (Cond.instanceMethod y).before args s = true)
    (hcode : (Cond.code y bytes maxL none).before args s = true) (hy : y.cls ≠ "java/lang/invoke/MethodHandle" ∧ y.cls ≠ "java/lang/invoke/VarHandle")
    {W9 : Nat} {Pre : Pt → Array Value → Prop} {Post : Pt → Array Value → Option Value → Pt → Prop} {PostX : Pt → Array Value → Addr → Pt → Prop} (hK : vx_Back l R p e below s args y 3 W9 Pre Post PostX)
    {g : JFrame} (hg : g.method = m) (hsize : g.locals.size = c.maxLocals) {a : Addr} {argsL rest : List Value} (hlen : ∀ sig, parseMethodDescriptor y.desc = some sig → argsL.length = sig.parameters.length)
    (hstack : g.stack = argsL.reverse ++ .ref a :: rest) (hW : 2 * g.monitorRoom + (rest.map fun v => v.category).sum ≤ W9) (hdg : decode c.code g.pc = .ok (.invokespecial index, 3))
    (hpre : ∀ vm₁, s.WarmedH vm₁ → Pre ⟨T.setVm vm₁, locs, cells, slots⟩ (Value.ref a :: argsL).toArray) :
    (∃ (v : Option Value) (vm₁ : Vm) (B : Pt), s.WarmedH vm₁ ∧ Stand p l e R s m args below meth c B.U B.locs B.cells B.slots ∧ Post ⟨T.setVm vm₁, locs, cells, slots⟩ (Value.ref a :: argsL).toArray v B ∧
      ∀ target, Steps p.tables e below (B.U.setTop { g with pc := g.pc + 3, stack := v.toList ++ rest }) target → Steps p.tables e below (T.setTop g) target) ∨
    (∃ (q : Addr) (vm₁ : Vm) (B : Pt), s.WarmedH vm₁ ∧ Stand p l e R s m args below meth c B.U B.locs B.cells B.slots ∧ PostX ⟨T.setVm vm₁, locs, cells, slots⟩ (Value.ref a :: argsL).toArray q B ∧
      Steps p.tables e below (T.setTop g) ((B.U.setTop { g with stack := rest }).pushFrame (.throwing q))) := by
  subst hg
  have hpl : e.platform.magicAccessors = ({} : Platform).magicAccessors := by rw [X.admits.platform]
  obtain ⟨mk, methM, cM, kP, vm₁, hnamed, hmethM, hcodeM, -, hlocalsM, -, hkP, -, hW₁, hstep₁⟩ := Steps.initColdArgsNest (e := e) X.here hexec X.warmed hpl hown hy1 hy hlink hinst hcode (f := g) rfl hlen hstack hdg
  have X₁ := X.noted hW₁
  rcases hK g.method meth c ⟨T.setVm vm₁, locs, cells, slots⟩ { g with stack := rest } (.invokespecial index) mk (Value.ref a :: argsL).toArray X₁ rfl hsize hdg hW (X₁.named hnamed) (hpre vm₁ X₁.warmed) with ⟨v, B, X', hpost, hsteps⟩ | ⟨q, B, X', hpost, hsteps⟩
  · exact Or.inl ⟨v, vm₁, B, X₁.warmed, X', hpost, fun target h => hstep₁ _ fun acts => by rw [doInvoke_state]; exact hsteps.trans h⟩
  · exact Or.inr ⟨q, vm₁, B, X₁.warmed, X', hpost, hstep₁ _ fun acts => by rw [doInvoke_state]; exact hsteps⟩
end VXIC
section VXID
variable {p : Program} {l : Launch} {e : Env} {R : Room} {s : State} {m : MethodId} {args : Array Value} {below : List Frame} {meth : Method} {c : Code} {H : Heap} {locs : List Loc} {cells slots : Nat}
theorem vx_runIN {y : MethodName} {bytes cc : ByteArray} {maxL nL mc ms n index : Nat} {ws : List Cond} {rm : Room} {Pc : Array Value → State → Prop} {Qc : Array Value → State → Outcome → State → Prop} {XC : String → State → State → Prop} {free : Addr → Prop} {Ts : List Cond} {own host : String} {b : Addr} {As rest : List Value} {g : JFrame}
    (S : CallFix p m c cc nL s args Ts own) (hM : vx_Met l y ws rm Pc Qc XC mc ms free) (cw : va_CN R s args own index y host bytes maxL none ws rm mc ms n ∧ y.name = "<init>" ∧ (Cond.instanceMethod y).before args s = true) (hp : PreS s H Pc (.ref b :: As))
    (hg : g.method = m) (hn : As.length = n) (hsize : g.locals.size = nL) (hstack : g.stack = As.reverse ++ .ref b :: rest) (hW : 2 * g.monitorRoom + (rest.map fun v => v.category).sum ≤ 8) (hdg : decode cc g.pc = .ok (.invokespecial index, 3)) (hf : cells + mc ≤ R.cells ∧ slots + ms ≤ R.slots) :
    vx_Run p l e R s m args below meth c H locs cells slots mc ms g rest (Qc (Value.ref b :: As).toArray) XC free := by
  obtain ⟨⟨⟨hrc, hrs, hfr, hlo, hws, hcw⟩, hcode, hini, hy, hlen, hl⟩, hx1, hx2⟩ := cw
  have hK : vx_Back l R p e below s args y 3 8 (PreOf R mc ms Pc) (PostOf Qc mc ms free) (vx_Post XC mc ms free) := vx_back (bytes := bytes) (maxL := maxL) (ret := none) hM hp.1 hrc hrs hfr hlo hws hcw (fun a' U hW => word_at hW (Or.inl (by first | rfl | simp [Cond.onTables, Cond.keeps, Cond.steady])) hini)
  obtain ⟨hx, hb, hml, ho, -⟩ := S
  have hPc := hp.2
  intro T hT X
  rcases vx_callIN X hx (bytes := bytes) (maxL := maxL) ho hx1 hl hx2 hcode hy hK hg (hsize.trans hml.symm) (a := b) (argsL := As) (rest := rest) (fun sig h => hn.trans (hlen sig h)) hstack hW (by rw [hb]; exact hdg)
    (fun vm₁ hW₁ => ⟨hf.1, hf.2, hPc (T.setVm vm₁) hT hW₁⟩) with ⟨v, vm₁, ⟨U', l2, c2, s2⟩, hW₁, X', ⟨g', mk, t, L, e1, e2, hq, h1, hL, h2, h3⟩, st⟩ | ⟨q, vm₁, ⟨U', l2, c2, s2⟩, hW₁, X', ⟨g', mk, t, L, E, ce, e1, e2, hq, hce, hcv, hcl, h1, hL, h2, h3⟩, st⟩
  · dsimp only [Pt.U, Pt.locs, Pt.cells, Pt.slots] at X' e1 e2 h1 h2 h3 st
    subst h1; subst h2; subst h3
    exact Or.inl ⟨v, (T.setVm vm₁).calling g' mk (Value.ref b :: As).toArray, t, U', L, hT, X', hL, e1, e2, hq, st⟩
  · dsimp only [Pt.U, Pt.locs, Pt.cells, Pt.slots] at X' e1 e2 h1 h2 h3 st hcl
    subst h1; subst h2; subst h3
    exact Or.inr ⟨q, (T.setVm vm₁).calling g' mk (Value.ref b :: As).toArray, t, U', L, E, ce, hT, X', hL, e1, e2, hq, hce, hcv, vx_cls hW₁ hcl, st⟩
end VXID
/-! ===== END ===== -/
/-! ===== BEGIN a method of a class above, found by the receiver, that may throw (follows va_callVU, va_runU of this kit) ===== -/
section
variable {p : Program} {l : Launch} {e : Env} {R : Room} {s : State} {m : MethodId} {args : Array Value} {below : List Frame} {meth : Method} {c : Code} {H : Heap} {locs : List Loc} {cells slots : Nat}
theorem vx_callVU {T : State} {locs : List Loc} {cells slots : Nat} (X : Stand p l e R s m args below meth c T locs cells slots) (hexec : p.tables.exec = Jvm.exec) {own C owner : String} {index : Nat} {x y : MethodName} {bytes : ByteArray} {maxL : Nat} {ret : Option FieldType}
    (hown : s.vm.findClass own = some m.cls) (hlink : (Cond.methodLink own index x).before args s = true) (hsame : (Cond.sameMethod x.cls owner x.name x.desc).before args s = true)
    (hd0 : va_Decl s ⟨owner, x.name, x.desc⟩) (howner : owner ≠ "java/lang/invoke/MethodHandle" ∧ owner ≠ "java/lang/invoke/VarHandle")
    (hsel : (Cond.selects C x y).before args s = true) (hinst : (Cond.instanceMethod y).before args s = true) (hcode : (Cond.code y bytes maxL ret).before args s = true)
    {W : Nat} {Pre : Pt → Array Value → Prop} {Post : Pt → Array Value → Option Value → Pt → Prop} {PostX : Pt → Array Value → Addr → Pt → Prop} (hK : vx_Back l R p e below s args y 3 W Pre Post PostX)
    {b : Addr} {cellB : Cell} (hcell : T.heap[b]? = some cellB) (hobj : cellB.vm.isStatics = false) (hcls : s.vm.findClass C = some cellB.cls)
    {g : JFrame} (hg : g.method = m) (hsize : g.locals.size = c.maxLocals) {argsL rest : List Value} (hlen : ∀ sig, parseMethodDescriptor x.desc = some sig → argsL.length = sig.parameters.length)
    (hstack : g.stack = argsL.reverse ++ .ref b :: rest) (hW : 2 * g.monitorRoom + (rest.map fun v => v.category).sum ≤ W) (hdg : decode c.code g.pc = .ok (.invokevirtual index, 3))
    (hpre : ∀ vm₁, s.WarmedH vm₁ → Pre ⟨T.setVm vm₁, locs, cells, slots⟩ (Value.ref b :: argsL).toArray) :
    (∃ (v : Option Value) (vm₁ : Vm) (B : Pt), s.WarmedH vm₁ ∧ Stand p l e R s m args below meth c B.U B.locs B.cells B.slots ∧ Post ⟨T.setVm vm₁, locs, cells, slots⟩ (Value.ref b :: argsL).toArray v B ∧
      ∀ target, Steps p.tables e below (B.U.setTop { g with pc := g.pc + 3, stack := v.toList ++ rest }) target → Steps p.tables e below (T.setTop g) target) ∨
    (∃ (q : Addr) (vm₁ : Vm) (B : Pt), s.WarmedH vm₁ ∧ Stand p l e R s m args below meth c B.U B.locs B.cells B.slots ∧ PostX ⟨T.setVm vm₁, locs, cells, slots⟩ (Value.ref b :: argsL).toArray q B ∧
      Steps p.tables e below (T.setTop g) ((B.U.setTop { g with stack := rest }).pushFrame (.throwing q))) := by
  obtain ⟨r0, r, hn, hrm, hstR, hsigR⟩ := hd0
  obtain ⟨cn, ck, r1, hcn, hck, hni, hf, hn1⟩ := Cond.sameMethod_found hsame
  cases hn.symm.trans hn1
  obtain ⟨mk, methM, hnamed, hmethM, -, habM⟩ := Cond.instanceMethod_spec hinst
  obtain ⟨c2, r2, m2, q1, q2, q3, q4, kP, hkP, hkPi⟩ := Cond.selects_spec hsel
  cases hcls.symm.trans q1
  cases hf.symm.trans q2
  cases hnamed.symm.trans q3
  have hselP : selectMethod e.platform s.vm cellB.cls r0 = .method mk := by rw [Launch.admits_selectMethod X.admits]; exact q4
  obtain ⟨vm₁, X₁, hstep₁⟩ := X.invokevirtualUp hexec hown hlink hsame howner hn hrm hstR (a := b) (cell := cellB) hcell
    (fun z h => by rw [h] at hobj; cases hobj) hselP hmethM habM hkP hkPi (g := g) hg (argsL := argsL) (rest := rest) (hlen _ hsigR) hstack hdg
  rcases hK m meth c ⟨T.setVm vm₁, locs, cells, slots⟩ { g with stack := rest } (.invokevirtual index) mk (Value.ref b :: argsL).toArray X₁ hg hsize hdg hW (X₁.named hnamed) (hpre vm₁ X₁.warmed) with ⟨v, B, X', hpost, hsteps⟩ | ⟨q, B, X', hpost, hsteps⟩
  · exact Or.inl ⟨v, vm₁, B, X₁.warmed, X', hpost, fun target h => hstep₁ _ fun acts => by rw [doInvoke_state]; exact hsteps.trans h⟩
  · exact Or.inr ⟨q, vm₁, B, X₁.warmed, X', hpost, hstep₁ _ fun acts => by rw [doInvoke_state]; exact hsteps⟩
theorem vx_runU {x y : MethodName} {bytes cc : ByteArray} {maxL nL mc ms n index : Nat} {ret : Option FieldType} {ws : List Cond} {rm : Room} {Pc : Array Value → State → Prop} {Qc : Array Value → State → Outcome → State → Prop} {XC : String → State → State → Prop} {free : Addr → Prop} {Ts : List Cond} {own C owner : String} {b : Addr} {As rest : List Value} {g : JFrame}
    (S : CallFix p m c cc nL s args Ts own) (hM : vx_Met l y ws rm Pc Qc XC mc ms free) (cw : va_CU R s args own C owner index x y bytes maxL ret ws rm mc ms n) (hp : PreV s H C b Pc As)
    (hg : g.method = m) (hn : As.length = n) (hsize : g.locals.size = nL) (hstack : g.stack = As.reverse ++ .ref b :: rest) (hW : 2 * g.monitorRoom + (rest.map fun v => v.category).sum ≤ 8) (hdg : decode cc g.pc = .ok (.invokevirtual index, 3)) (hf : cells + mc ≤ R.cells ∧ slots + ms ≤ R.slots) :
    vx_Run p l e R s m args below meth c H locs cells slots mc ms g rest (Qc (Value.ref b :: As).toArray) XC free := by
  obtain ⟨hrc, hrs, hfr, hlo, hws, hcw⟩ := cw.back
  have hini := cw.init
  have hK : vx_Back l R p e below s args y 3 8 (PreOf R mc ms Pc) (PostOf Qc mc ms free) (vx_Post XC mc ms free) := vx_back (bytes := bytes) (maxL := maxL) (ret := ret) hM hp.1 hrc hrs hfr hlo hws hcw (fun a' U hW => word_at hW (Or.inl (by first | rfl | simp [Cond.onTables, Cond.keeps, Cond.steady])) hini)
  obtain ⟨hx, hb, hml, ho, -⟩ := S
  obtain ⟨-, ⟨cellB, hcB, hoB, hclB⟩, hPc⟩ := hp
  intro T hT X
  rcases vx_callVU X hx (C := C) (owner := owner) (bytes := bytes) (maxL := maxL) (ret := ret) ho cw.link cw.same cw.decl cw.notMH cw.sel cw.inst cw.code hK (by rw [hT]; exact hcB) hoB hclB hg (hsize.trans hml.symm) (argsL := As) (rest := rest) (fun sig h => hn.trans (cw.len sig h)) hstack hW (by rw [hb]; exact hdg)
    (fun vm₁ hW₁ => ⟨hf.1, hf.2, hPc (T.setVm vm₁) hT hW₁⟩) with ⟨v, vm₁, ⟨U', l2, c2, s2⟩, hW₁, X', ⟨g', mk, t, L, e1, e2, hq, h1, hL, h2, h3⟩, st⟩ | ⟨q, vm₁, ⟨U', l2, c2, s2⟩, hW₁, X', ⟨g', mk, t, L, E, ce, e1, e2, hq, hce, hcv, hcl, h1, hL, h2, h3⟩, st⟩
  · dsimp only [Pt.U, Pt.locs, Pt.cells, Pt.slots] at X' e1 e2 h1 h2 h3 st
    subst h1; subst h2; subst h3
    exact Or.inl ⟨v, (T.setVm vm₁).calling g' mk (Value.ref b :: As).toArray, t, U', L, hT, X', hL, e1, e2, hq, st⟩
  · dsimp only [Pt.U, Pt.locs, Pt.cells, Pt.slots] at X' e1 e2 h1 h2 h3 st hcl
    subst h1; subst h2; subst h3
    exact Or.inr ⟨q, (T.setVm vm₁).calling g' mk (Value.ref b :: As).toArray, t, U', L, E, ce, hT, X', hL, e1, e2, hq, hce, hcv, vx_cls hW₁ hcl, st⟩
end
/-! ===== END ===== -/
/-! ===== BEGIN super.m(..) that may throw (follows va_callSU, va_runSU) ===== -/
section
variable {p : Program} {l : Launch} {e : Env} {R : Room} {s : State} {m : MethodId} {args : Array Value} {below : List Frame} {meth : Method} {c : Code} {H : Heap} {locs : List Loc} {cells slots : Nat}
theorem vx_callSU {T : State} {locs : List Loc} {cells slots : Nat} (X : Stand p l e R s m args below meth c T locs cells slots) (hexec : p.tables.exec = Jvm.exec) {own : String} {index : Nat} {y : MethodName} {bytes : ByteArray} {maxL : Nat} {ret : Option FieldType}
    (hown : s.vm.findClass own = some m.cls) (hlink : (Cond.methodLink own index y).before args s = true) (hsame : (Cond.sameMethod y.cls y.cls y.name y.desc).before args s = true) (hsup : (Cond.superclass own y.cls).before args s = true)
    (hinst : (Cond.instanceMethod y).before args s = true) (hcode : (Cond.code y bytes maxL ret).before args s = true) (hno : y.name ≠ "<init>")
    {W : Nat} {Pre : Pt → Array Value → Prop} {Post : Pt → Array Value → Option Value → Pt → Prop} {PostX : Pt → Array Value → Addr → Pt → Prop} (hK : vx_Back l R p e below s args y 3 W Pre Post PostX)
    {b : Addr} {cellB : Cell} {kB : Class} (hcell : T.heap[b]? = some cellB) (hobj : cellB.vm.isStatics = false) (hkB : s.vm.classes[cellB.cls]? = some kB)
    {g : JFrame} (hg : g.method = m) (hsize : g.locals.size = c.maxLocals) {argsL rest : List Value} (hlen : ∀ sig, parseMethodDescriptor y.desc = some sig → argsL.length = sig.parameters.length)
    (hstack : g.stack = argsL.reverse ++ .ref b :: rest) (hW : 2 * g.monitorRoom + (rest.map fun v => v.category).sum ≤ W) (hdg : decode c.code g.pc = .ok (.invokespecial index, 3))
    (hpre : ∀ vm₁, s.WarmedH vm₁ → Pre ⟨T.setVm vm₁, locs, cells, slots⟩ (Value.ref b :: argsL).toArray) :
    (∃ (v : Option Value) (vm₁ : Vm) (B : Pt), s.WarmedH vm₁ ∧ Stand p l e R s m args below meth c B.U B.locs B.cells B.slots ∧ Post ⟨T.setVm vm₁, locs, cells, slots⟩ (Value.ref b :: argsL).toArray v B ∧
      ∀ target, Steps p.tables e below (B.U.setTop { g with pc := g.pc + 3, stack := v.toList ++ rest }) target → Steps p.tables e below (T.setTop g) target) ∨
    (∃ (q : Addr) (vm₁ : Vm) (B : Pt), s.WarmedH vm₁ ∧ Stand p l e R s m args below meth c B.U B.locs B.cells B.slots ∧ PostX ⟨T.setVm vm₁, locs, cells, slots⟩ (Value.ref b :: argsL).toArray q B ∧
      Steps p.tables e below (T.setTop g) ((B.U.setTop { g with stack := rest }).pushFrame (.throwing q))) := by
  obtain ⟨mk, methM, hnamed, hmethM, hstM, habM⟩ := Cond.instanceMethod_spec hinst
  obtain ⟨methM', cM, hmethM', -, -, -, -, -, -, hsigM⟩ := Cond.code_spec hnamed hcode
  cases hmethM.symm.trans hmethM'
  obtain ⟨ps, dk, kp, hps, hdk, hkp, hsuper, -, -, hnid⟩ := Cond.superclass_spec hown hsup
  have hn : s.methodNamed? ⟨y.cls, y.name, y.desc⟩ = some mk := hnamed
  have hpm : ps = mk.cls := Option.some.inj (hps.symm.trans (findClass_of_methodNamed hnamed))
  have hsub : s.vm.isSubclass ps mk.cls = true := by rw [hpm]; simp [Vm.isSubclass, Vm.isSubclassAux]
  obtain ⟨vm₁, X₁, hstep₁⟩ := X.invokespecialUp hexec hown hlink hsame hn hmethM hstM habM hno hdk hnid hps hsuper hsub (a := b) (cell := cellB) hcell
    (fun z h => by rw [h] at hobj; cases hobj) hkB (g := g) hg (argsL := argsL) (rest := rest) (hlen _ hsigM) hstack hdg
  rcases hK m meth c ⟨T.setVm vm₁, locs, cells, slots⟩ { g with stack := rest } (.invokespecial index) mk (Value.ref b :: argsL).toArray X₁ hg hsize hdg hW (X₁.named hnamed) (hpre vm₁ X₁.warmed) with ⟨v, B, X', hpost, hsteps⟩ | ⟨q, B, X', hpost, hsteps⟩
  · exact Or.inl ⟨v, vm₁, B, X₁.warmed, X', hpost, fun target h => hstep₁ _ (by rw [doInvoke_state]; exact hsteps.trans h)⟩
  · exact Or.inr ⟨q, vm₁, B, X₁.warmed, X', hpost, hstep₁ _ (by rw [doInvoke_state]; exact hsteps)⟩
theorem vx_runSU {y : MethodName} {bytes cc : ByteArray} {maxL nL mc ms n index : Nat} {ret : Option FieldType} {ws : List Cond} {rm : Room} {Pc : Array Value → State → Prop} {Qc : Array Value → State → Outcome → State → Prop} {XC : String → State → State → Prop} {free : Addr → Prop} {Ts : List Cond} {own C : String} {cC : ClassId} {b : Addr} {As rest : List Value} {g : JFrame}
    (hat : ClassAt s C cC) (S : CallFix p m c cc nL s args Ts own) (hM : vx_Met l y ws rm Pc Qc XC mc ms free) (cw : va_CS R s args own index y bytes maxL ret ws rm mc ms n) (hp : PreV s H C b Pc As)
    (hg : g.method = m) (hn : As.length = n) (hsize : g.locals.size = nL) (hstack : g.stack = As.reverse ++ .ref b :: rest) (hW : 2 * g.monitorRoom + (rest.map fun v => v.category).sum ≤ 8) (hdg : decode cc g.pc = .ok (.invokespecial index, 3)) (hf : cells + mc ≤ R.cells ∧ slots + ms ≤ R.slots) :
    vx_Run p l e R s m args below meth c H locs cells slots mc ms g rest (Qc (Value.ref b :: As).toArray) XC free := by
  obtain ⟨⟨hrc, hrs, hfr, hlo, hws, hcw⟩, hl1, hl2, hl3, hl4, hini, hcode, hno, hlen⟩ := cw
  have hK : vx_Back l R p e below s args y 3 8 (PreOf R mc ms Pc) (PostOf Qc mc ms free) (vx_Post XC mc ms free) := vx_back (bytes := bytes) (maxL := maxL) (ret := ret) hM hp.1 hrc hrs hfr hlo hws hcw (fun a' U hW => word_at hW (Or.inl (by first | rfl | simp [Cond.onTables, Cond.keeps, Cond.steady])) hini)
  obtain ⟨hx, hb, hml, ho, -⟩ := S
  obtain ⟨-, ⟨cellB, hcB, hoB, hclB⟩, hPc⟩ := hp
  obtain ⟨hfc, kB, hkB, -⟩ := hat
  cases hfc.symm.trans hclB
  intro T hT X
  rcases vx_callSU X hx (bytes := bytes) (maxL := maxL) (ret := ret) ho hl1 hl2 hl3 hl4 hcode hno hK (by rw [hT]; exact hcB) hoB hkB hg (hsize.trans hml.symm) (argsL := As) (rest := rest) (fun sig h => hn.trans (hlen sig h)) hstack hW (by rw [hb]; exact hdg)
    (fun vm₁ hW₁ => ⟨hf.1, hf.2, hPc (T.setVm vm₁) hT hW₁⟩) with ⟨v, vm₁, ⟨U', l2, c2, s2⟩, hW₁, X', ⟨g', mk, t, L, e1, e2, hq, h1, hL, h2, h3⟩, st⟩ | ⟨q, vm₁, ⟨U', l2, c2, s2⟩, hW₁, X', ⟨g', mk, t, L, E, ce, e1, e2, hq, hce, hcv, hcl, h1, hL, h2, h3⟩, st⟩
  · dsimp only [Pt.U, Pt.locs, Pt.cells, Pt.slots] at X' e1 e2 h1 h2 h3 st
    subst h1; subst h2; subst h3
    exact Or.inl ⟨v, (T.setVm vm₁).calling g' mk (Value.ref b :: As).toArray, t, U', L, hT, X', hL, e1, e2, hq, st⟩
  · dsimp only [Pt.U, Pt.locs, Pt.cells, Pt.slots] at X' e1 e2 h1 h2 h3 st hcl
    subst h1; subst h2; subst h3
    exact Or.inr ⟨q, (T.setVm vm₁).calling g' mk (Value.ref b :: As).toArray, t, U', L, E, ce, hT, X', hL, e1, e2, hq, hce, hcv, vx_cls hW₁ hcl, st⟩
end
/-! ===== END ===== -/
/-! ===== BEGIN a private method of a nest mate that may throw (follows va_callVN, va_callSN, va_runVN, va_runSN) ===== -/
section
variable {p : Program} {l : Launch} {e : Env} {R : Room} {s : State} {m : MethodId} {args : Array Value} {below : List Frame} {meth : Method} {c : Code} {H : Heap} {locs : List Loc} {cells slots : Nat}
variable {T : State}
theorem vx_callVN (X : Stand p l e R s m args below meth c T locs cells slots) (hexec : p.tables.exec = Jvm.exec) {own C : String} {index : Nat} {host : String} {y : MethodName} {bytes : ByteArray} {maxL : Nat} {ret : Option FieldType}
    (hown : s.vm.findClass own = some m.cls) (hlink : (Cond.methodLinkNest own index y host).before args s = true) (hinst : (Cond.instanceMethod y).before args s = true) (hsel : (Cond.selects C y y).before args s = true)
    (hcode : (Cond.code y bytes maxL ret).before args s = true) (hy : y.cls ≠ "java/lang/invoke/MethodHandle" ∧ y.cls ≠ "java/lang/invoke/VarHandle")
    {W : Nat} {Pre : Pt → Array Value → Prop} {Post : Pt → Array Value → Option Value → Pt → Prop} {PostX : Pt → Array Value → Addr → Pt → Prop} (hK : vx_Back l R p e below s args y 3 W Pre Post PostX)
    {b : Addr} {cellB : Cell} (hcell : T.heap[b]? = some cellB) (hobj : cellB.vm.isStatics = false) (hcls : s.vm.findClass C = some cellB.cls)
    {g : JFrame} (hg : g.method = m) (hsize : g.locals.size = c.maxLocals) {argsL rest : List Value} (hlen : ∀ sig, parseMethodDescriptor y.desc = some sig → argsL.length = sig.parameters.length)
    (hstack : g.stack = argsL.reverse ++ .ref b :: rest) (hW : 2 * g.monitorRoom + (rest.map fun v => v.category).sum ≤ W) (hdg : decode c.code g.pc = .ok (.invokevirtual index, 3))
    (hpre : ∀ vm₁, s.WarmedH vm₁ → Pre ⟨T.setVm vm₁, locs, cells, slots⟩ (Value.ref b :: argsL).toArray) :
    (∃ (v : Option Value) (vm₁ : Vm) (B : Pt), s.WarmedH vm₁ ∧ Stand p l e R s m args below meth c B.U B.locs B.cells B.slots ∧ Post ⟨T.setVm vm₁, locs, cells, slots⟩ (Value.ref b :: argsL).toArray v B ∧
      ∀ target, Steps p.tables e below (B.U.setTop { g with pc := g.pc + 3, stack := v.toList ++ rest }) target → Steps p.tables e below (T.setTop g) target) ∨
    (∃ (q : Addr) (vm₁ : Vm) (B : Pt), s.WarmedH vm₁ ∧ Stand p l e R s m args below meth c B.U B.locs B.cells B.slots ∧ PostX ⟨T.setVm vm₁, locs, cells, slots⟩ (Value.ref b :: argsL).toArray q B ∧
      Steps p.tables e below (T.setTop g) ((B.U.setTop { g with stack := rest }).pushFrame (.throwing q))) := by
  obtain ⟨mk, methM, hnamed, hmethM, hstM, habM⟩ := Cond.instanceMethod_spec hinst
  obtain ⟨methM', cM, hmethM', -, -, -, -, -, -, hsigM⟩ := Cond.code_spec hnamed hcode
  cases hmethM.symm.trans hmethM'
  obtain ⟨c2, r2, m2, q1, q2, q3, q4, kP, hkP, hkPi⟩ := Cond.selects_spec hsel
  cases hcls.symm.trans q1
  cases (State.methodFound?_of_named hnamed hy).symm.trans q2
  cases hnamed.symm.trans q3
  have hselP : selectMethod e.platform s.vm cellB.cls mk = .method mk := by rw [Launch.admits_selectMethod X.admits]; exact q4
  obtain ⟨vm₁, X₁, hstep₁⟩ := X.invokevirtualNest hexec hown hlink hnamed hmethM hstM hkP hkPi hy (a := b) (cell := cellB) hcell
    (fun z h => by rw [h] at hobj; cases hobj) hselP hmethM habM hkP hkPi (g := g) hg (argsL := argsL) (rest := rest) (hlen _ hsigM) hstack hdg
  rcases hK m meth c ⟨T.setVm vm₁, locs, cells, slots⟩ { g with stack := rest } (.invokevirtual index) mk (Value.ref b :: argsL).toArray X₁ hg hsize hdg hW (X₁.named hnamed) (hpre vm₁ X₁.warmed) with ⟨v, B, X', hpost, hsteps⟩ | ⟨q, B, X', hpost, hsteps⟩
  · exact Or.inl ⟨v, vm₁, B, X₁.warmed, X', hpost, fun target h => hstep₁ _ fun acts => by rw [doInvoke_state]; exact hsteps.trans h⟩
  · exact Or.inr ⟨q, vm₁, B, X₁.warmed, X', hpost, hstep₁ _ fun acts => by rw [doInvoke_state]; exact hsteps⟩
theorem vx_callSN (X : Stand p l e R s m args below meth c T locs cells slots) (hexec : p.tables.exec = Jvm.exec) {own : String} {index : Nat} {host : String} {y : MethodName} {bytes : ByteArray} {maxL : Nat} {ret : Option FieldType}
    (hown : s.vm.findClass own = some m.cls) (hlink : (Cond.methodLinkNest own index y host).before args s = true) (hstat : (Cond.static y).before args s = true) (hinit : (Cond.initialized y.cls).before args s = true)
    (hcode : (Cond.code y bytes maxL ret).before args s = true) (hy : y.cls ≠ "java/lang/invoke/MethodHandle" ∧ y.cls ≠ "java/lang/invoke/VarHandle")
    {W : Nat} {Pre : Pt → Array Value → Prop} {Post : Pt → Array Value → Option Value → Pt → Prop} {PostX : Pt → Array Value → Addr → Pt → Prop} (hK : vx_Back l R p e below s args y 3 W Pre Post PostX)
    {g : JFrame} (hg : g.method = m) (hsize : g.locals.size = c.maxLocals) {argsL rest : List Value} (hlen : ∀ sig, parseMethodDescriptor y.desc = some sig → argsL.length = sig.parameters.length)
    (hstack : g.stack = argsL.reverse ++ rest) (hW : 2 * g.monitorRoom + (rest.map fun v => v.category).sum ≤ W) (hdg : decode c.code g.pc = .ok (.invokestatic index, 3))
    (hpre : ∀ vm₁, s.WarmedH vm₁ → Pre ⟨T.setVm vm₁, locs, cells, slots⟩ argsL.toArray) :
    (∃ (v : Option Value) (vm₁ : Vm) (B : Pt), s.WarmedH vm₁ ∧ Stand p l e R s m args below meth c B.U B.locs B.cells B.slots ∧ Post ⟨T.setVm vm₁, locs, cells, slots⟩ argsL.toArray v B ∧
      ∀ target, Steps p.tables e below (B.U.setTop { g with pc := g.pc + 3, stack := v.toList ++ rest }) target → Steps p.tables e below (T.setTop g) target) ∨
    (∃ (q : Addr) (vm₁ : Vm) (B : Pt), s.WarmedH vm₁ ∧ Stand p l e R s m args below meth c B.U B.locs B.cells B.slots ∧ PostX ⟨T.setVm vm₁, locs, cells, slots⟩ argsL.toArray q B ∧
      Steps p.tables e below (T.setTop g) ((B.U.setTop { g with stack := rest }).pushFrame (.throwing q))) := by
  obtain ⟨mk, hnamed⟩ := Cond.code_named hcode
  obtain ⟨methM, cM, hmethM, -, -, -, -, -, -, hsigM⟩ := Cond.code_spec hnamed hcode
  have hstatic : methM.isStatic = true := Cond.static_spec hnamed hmethM hstat
  obtain ⟨kP, hkP, -⟩ := className_of_methodNamed hnamed
  have hinitP : kP.init = .initialized := Cond.initialized_spec (findClass_of_methodNamed hnamed) hkP hinit
  obtain ⟨vm₁, X₁, hstep₁⟩ := X.invokestaticNest hexec hown hlink hnamed hmethM hstatic hkP hinitP hy (g := g) hg (argsL := argsL) (rest := rest) (hlen _ hsigM) hstack hdg
  rcases hK m meth c ⟨T.setVm vm₁, locs, cells, slots⟩ { g with stack := rest } (.invokestatic index) mk argsL.toArray X₁ hg hsize hdg hW (X₁.named hnamed) (hpre vm₁ X₁.warmed) with ⟨v, B, X', hpost, hsteps⟩ | ⟨q, B, X', hpost, hsteps⟩
  · exact Or.inl ⟨v, vm₁, B, X₁.warmed, X', hpost, fun target h => hstep₁ _ fun acts => by rw [doInvoke_state]; exact hsteps.trans h⟩
  · exact Or.inr ⟨q, vm₁, B, X₁.warmed, X', hpost, hstep₁ _ fun acts => by rw [doInvoke_state]; exact hsteps⟩
theorem vx_runVN {y : MethodName} {bytes cc : ByteArray} {maxL nL mc ms n index : Nat} {ret : Option FieldType} {ws : List Cond} {rm : Room} {Pc : Array Value → State → Prop} {Qc : Array Value → State → Outcome → State → Prop} {XC : String → State → State → Prop} {free : Addr → Prop} {Ts : List Cond} {own C host : String} {b : Addr} {As rest : List Value} {g : JFrame}
    (S : CallFix p m c cc nL s args Ts own) (hM : vx_Met l y ws rm Pc Qc XC mc ms free) (cw : va_CN R s args own index y host bytes maxL ret ws rm mc ms n ∧ (Cond.instanceMethod y).before args s = true ∧ (Cond.selects C y y).before args s = true) (hp : PreV s H C b Pc As)
    (hg : g.method = m) (hn : As.length = n) (hsize : g.locals.size = nL) (hstack : g.stack = As.reverse ++ .ref b :: rest) (hW : 2 * g.monitorRoom + (rest.map fun v => v.category).sum ≤ 8) (hdg : decode cc g.pc = .ok (.invokevirtual index, 3)) (hf : cells + mc ≤ R.cells ∧ slots + ms ≤ R.slots) :
    vx_Run p l e R s m args below meth c H locs cells slots mc ms g rest (Qc (Value.ref b :: As).toArray) XC free := by
  obtain ⟨⟨⟨hrc, hrs, hfr, hlo, hws, hcw⟩, hcode, hini, hy, hlen, hl⟩, hx1, hx2⟩ := cw
  have hK : vx_Back l R p e below s args y 3 8 (PreOf R mc ms Pc) (PostOf Qc mc ms free) (vx_Post XC mc ms free) := vx_back (bytes := bytes) (maxL := maxL) (ret := ret) hM hp.1 hrc hrs hfr hlo hws hcw (fun a' U hW => word_at hW (Or.inl (by first | rfl | simp [Cond.onTables, Cond.keeps, Cond.steady])) hini)
  obtain ⟨hx, hb, hml, ho, -⟩ := S
  obtain ⟨-, ⟨cellB, hcB, hoB, hclB⟩, hPc⟩ := hp
  intro T hT X
  rcases vx_callVN X hx (C := C) (bytes := bytes) (maxL := maxL) (ret := ret) ho hl hx1 hx2 hcode hy hK (by rw [hT]; exact hcB) hoB hclB hg (hsize.trans hml.symm) (argsL := As) (rest := rest) (fun sig h => hn.trans (hlen sig h)) hstack hW (by rw [hb]; exact hdg)
    (fun vm₁ hW₁ => ⟨hf.1, hf.2, hPc (T.setVm vm₁) hT hW₁⟩) with ⟨v, vm₁, ⟨U', l2, c2, s2⟩, hW₁, X', ⟨g', mk, t, L, e1, e2, hq, h1, hL, h2, h3⟩, st⟩ | ⟨q, vm₁, ⟨U', l2, c2, s2⟩, hW₁, X', ⟨g', mk, t, L, E, ce, e1, e2, hq, hce, hcv, hcl, h1, hL, h2, h3⟩, st⟩
  · dsimp only [Pt.U, Pt.locs, Pt.cells, Pt.slots] at X' e1 e2 h1 h2 h3 st
    subst h1; subst h2; subst h3
    exact Or.inl ⟨v, (T.setVm vm₁).calling g' mk (Value.ref b :: As).toArray, t, U', L, hT, X', hL, e1, e2, hq, st⟩
  · dsimp only [Pt.U, Pt.locs, Pt.cells, Pt.slots] at X' e1 e2 h1 h2 h3 st hcl
    subst h1; subst h2; subst h3
    exact Or.inr ⟨q, (T.setVm vm₁).calling g' mk (Value.ref b :: As).toArray, t, U', L, E, ce, hT, X', hL, e1, e2, hq, hce, hcv, vx_cls hW₁ hcl, st⟩
theorem vx_runSN {y : MethodName} {bytes cc : ByteArray} {maxL nL mc ms n index : Nat} {ret : Option FieldType} {ws : List Cond} {rm : Room} {Pc : Array Value → State → Prop} {Qc : Array Value → State → Outcome → State → Prop} {XC : String → State → State → Prop} {free : Addr → Prop} {Ts : List Cond} {own host : String} {As rest : List Value} {g : JFrame}
    (S : CallFix p m c cc nL s args Ts own) (hM : vx_Met l y ws rm Pc Qc XC mc ms free) (cw : va_CN R s args own index y host bytes maxL ret ws rm mc ms n ∧ (Cond.static y).before args s = true ∧ True) (hp : PreS s H Pc As)
    (hg : g.method = m) (hn : As.length = n) (hsize : g.locals.size = nL) (hstack : g.stack = As.reverse ++ rest) (hW : 2 * g.monitorRoom + (rest.map fun v => v.category).sum ≤ 8) (hdg : decode cc g.pc = .ok (.invokestatic index, 3)) (hf : cells + mc ≤ R.cells ∧ slots + ms ≤ R.slots) :
    vx_Run p l e R s m args below meth c H locs cells slots mc ms g rest (Qc As.toArray) XC free := by
  obtain ⟨⟨⟨hrc, hrs, hfr, hlo, hws, hcw⟩, hcode, hini, hy, hlen, hl⟩, hx1, hx2⟩ := cw
  have hK : vx_Back l R p e below s args y 3 8 (PreOf R mc ms Pc) (PostOf Qc mc ms free) (vx_Post XC mc ms free) := vx_back (bytes := bytes) (maxL := maxL) (ret := ret) hM hp.1 hrc hrs hfr hlo hws hcw (fun a' U hW => word_at hW (Or.inl (by first | rfl | simp [Cond.onTables, Cond.keeps, Cond.steady])) hini)
  obtain ⟨hx, hb, hml, ho, -⟩ := S
  have hPc := hp.2
  intro T hT X
  rcases vx_callSN X hx (bytes := bytes) (maxL := maxL) (ret := ret) ho hl hx1 hini hcode hy hK hg (hsize.trans hml.symm) (argsL := As) (rest := rest) (fun sig h => hn.trans (hlen sig h)) hstack hW (by rw [hb]; exact hdg)
    (fun vm₁ hW₁ => ⟨hf.1, hf.2, hPc (T.setVm vm₁) hT hW₁⟩) with ⟨v, vm₁, ⟨U', l2, c2, s2⟩, hW₁, X', ⟨g', mk, t, L, e1, e2, hq, h1, hL, h2, h3⟩, st⟩ | ⟨q, vm₁, ⟨U', l2, c2, s2⟩, hW₁, X', ⟨g', mk, t, L, E, ce, e1, e2, hq, hce, hcv, hcl, h1, hL, h2, h3⟩, st⟩
  · dsimp only [Pt.U, Pt.locs, Pt.cells, Pt.slots] at X' e1 e2 h1 h2 h3 st
    subst h1; subst h2; subst h3
    exact Or.inl ⟨v, (T.setVm vm₁).calling g' mk As.toArray, t, U', L, hT, X', hL, e1, e2, hq, st⟩
  · dsimp only [Pt.U, Pt.locs, Pt.cells, Pt.slots] at X' e1 e2 h1 h2 h3 st hcl
    subst h1; subst h2; subst h3
    exact Or.inr ⟨q, (T.setVm vm₁).calling g' mk As.toArray, t, U', L, E, ce, hT, X', hL, e1, e2, hq, hce, hcv, vx_cls hW₁ hcl, st⟩
end
/-! ===== END ===== -/
/-! ===== BEGIN calls by an interface of methods that may throw (vx_callIF, vx_runF follow va_callIF, va_runF of this kit) ===== -/
section
variable {p : Program} {l : Launch} {e : Env} {R : Room} {s : State} {m : MethodId} {args : Array Value} {below : List Frame} {meth : Method} {c : Code} {H : Heap} {locs : List Loc} {cells slots : Nat} {Q : State → Prop}
variable {mc ms : Nat} {free : Addr → Prop} {A0 A1 : Nat → Prop} {H0 : Heap} {a : Array Value} {pc : Nat} {ls : Array Slot} {st0 rest : List Value}
def vx_Run5 (p : Program) (l : Launch) (e : Env) (R : Room) (s : State) (m : MethodId) (args : Array Value) (below : List Frame) (meth : Method) (c : Code) (H : Heap) (locs : List Loc) (cells slots mc ms : Nat) (g : JFrame) (rest : List Value) (Qa : State → Outcome → State → Prop) (XC : String → State → State → Prop) (free : Addr → Prop) : Prop :=
  ∀ T : State, T.heap = H → Stand p l e R s m args below meth c T locs cells slots →
    (∃ (v : Option Value) (st₀ t T' : State) (L : List Loc), st₀.heap = H ∧ Stand p l e R s m args below meth c T' (locs ++ L) (cells + mc) (slots + ms) ∧ (∀ q ∈ L, free q.base) ∧ T'.heap = t.heap ∧ T'.vm = t.vm ∧ Qa st₀ (.returned v) t ∧
      Goes p e below T g T' { g with pc := g.pc + 5, stack := v.toList ++ rest }) ∨
    (∃ (q : Addr) (st₀ t T' : State) (L : List Loc) (E : String) (ce : Cell), st₀.heap = H ∧ Stand p l e R s m args below meth c T' (locs ++ L) (cells + mc) (slots + ms) ∧ (∀ z ∈ L, free z.base) ∧ T'.heap = t.heap ∧ T'.vm = t.vm ∧ XC E st₀ t ∧ t.heap[q]? = some ce ∧ ce.vm = .none ∧ s.vm.findClass E = some ce.cls ∧
      Steps p.tables e below (T.setTop g) ((T'.setTop { g with stack := rest }).pushFrame (.throwing q)))
theorem vx_callIF {T : State} (X : Stand p l e R s m args below meth c T locs cells slots) (hexec : p.tables.exec = Jvm.exec) {own C : String} {index count : Nat} {x y : MethodName} {bytes : ByteArray} {maxL : Nat} {ret : Option FieldType}
    (hown : s.vm.findClass own = some m.cls) (hlink : (Cond.methodLink own index x).before args s = true) (hdecl : (Cond.declares x).before args s = true) (hface : (Cond.interfaceMethod x.cls x.cls x.name x.desc).before args s = true)
    (hsel : (Cond.selects C x y).before args s = true) (hinst : (Cond.instanceMethod y).before args s = true) (hpub : (Cond.publicMethod y).before args s = true) (hunh : (Cond.unhidden C x.name x.desc).before args s = true)
    (hcast : (Cond.castable C x.cls).before args s = true) (hcode : (Cond.code y bytes maxL ret).before args s = true) (hx : x.cls ≠ "java/lang/invoke/MethodHandle" ∧ x.cls ≠ "java/lang/invoke/VarHandle")
    {W9 : Nat} {Pre : Pt → Array Value → Prop} {Post : Pt → Array Value → Option Value → Pt → Prop} {PostX : Pt → Array Value → Addr → Pt → Prop} (hK : vx_Back l R p e below s args y 5 W9 Pre Post PostX)
    {b : Addr} {cellB : Cell} {kB : Class} (hcell : T.heap[b]? = some cellB) (hobj : cellB.vm.isStatics = false) (hcls : s.vm.findClass C = some cellB.cls) (hkB : s.vm.classes[cellB.cls]? = some kB)
    {g : JFrame} (hg : g.method = m) (hsize : g.locals.size = c.maxLocals) {argsL rest : List Value} (hlen : ∀ sig, parseMethodDescriptor x.desc = some sig → argsL.length = sig.parameters.length)
    (hstack : g.stack = argsL.reverse ++ .ref b :: rest) (hW : 2 * g.monitorRoom + (rest.map fun v => v.category).sum ≤ W9) (hdg : decode c.code g.pc = .ok (.invokeinterface index count, 5))
    (hpre : ∀ vm₁, s.WarmedH vm₁ → Pre ⟨T.setVm vm₁, locs, cells, slots⟩ (Value.ref b :: argsL).toArray) :
    (∃ (v : Option Value) (vm₁ : Vm) (B : Pt), s.WarmedH vm₁ ∧ Stand p l e R s m args below meth c B.U B.locs B.cells B.slots ∧ Post ⟨T.setVm vm₁, locs, cells, slots⟩ (Value.ref b :: argsL).toArray v B ∧
      ∀ target, Steps p.tables e below (B.U.setTop { g with pc := g.pc + 5, stack := v.toList ++ rest }) target → Steps p.tables e below (T.setTop g) target) ∨
    (∃ (q : Addr) (vm₁ : Vm) (B : Pt), s.WarmedH vm₁ ∧ Stand p l e R s m args below meth c B.U B.locs B.cells B.slots ∧ PostX ⟨T.setVm vm₁, locs, cells, slots⟩ (Value.ref b :: argsL).toArray q B ∧
      Steps p.tables e below (T.setTop g) ((B.U.setTop { g with stack := rest }).pushFrame (.throwing q))) := by
  obtain ⟨r0, r, hn, hrm, hstR, hsigR⟩ := Cond.declares_spec hdecl
  obtain ⟨cL, kL, r1, hcL, hkL, hiL, hfoundL, hn1⟩ := Cond.interfaceMethod_spec hface
  cases hn.symm.trans hn1
  have hr0cls : r0.cls = cL := Option.some.inj ((findClass_of_methodNamed hn).symm.trans hcL)
  obtain ⟨hnameR, hdescR⟩ := name_of_methodNamed hn hrm
  obtain ⟨mk, methM, hnamed, hmethM, -, habM⟩ := Cond.instanceMethod_spec hinst
  obtain ⟨c2, r2, m2, q1, q2, q3, q4, -⟩ := Cond.selects_spec hsel
  cases hcls.symm.trans q1
  cases hfoundL.symm.trans q2
  cases hnamed.symm.trans q3
  have hselP : selectMethod e.platform s.vm cellB.cls r0 = .method mk := by rw [Launch.admits_selectMethod X.admits]; exact q4
  have hpubM : hasFlag methM.accessFlags Acc.public_ = true := Cond.publicMethod_spec hnamed hmethM hpub
  have hway : ((cellB.cls :: s.vm.superclasses cellB.cls).any fun k => (declaredIn s.vm r.name r.desc k).any fun (_, z) => z.isPrivate || z.isStatic) = false := by
    rw [hnameR, hdescR]; exact Cond.unhidden_spec hcls hunh
  obtain ⟨c3, t3, w1, w2, w3⟩ := Cond.castable_spec hcast
  cases hcls.symm.trans w1
  cases hcL.symm.trans w2
  obtain ⟨vm₁, X₁, hstep₁⟩ := X.invokeinterface hexec hown hlink hn hrm hstR (by rw [hr0cls]; exact hkL) hiL hx (a := b) (cell := cellB) (kcell := kB) hcell
    (fun z h => by rw [h] at hobj; cases hobj) hkB (by rw [hr0cls]; exact w3) hselP hmethM hway hpubM habM (g := g) hg (argsL := argsL) (rest := rest) (hlen _ hsigR) hstack hdg
  rcases hK m meth c ⟨T.setVm vm₁, locs, cells, slots⟩ { g with stack := rest } (.invokeinterface index count) mk (Value.ref b :: argsL).toArray X₁ hg hsize hdg hW (X₁.named hnamed) (hpre vm₁ X₁.warmed) with ⟨v, B, X', hpost, hsteps⟩ | ⟨q, B, X', hpost, hsteps⟩
  · exact Or.inl ⟨v, vm₁, B, X₁.warmed, X', hpost, fun target h => hstep₁ _ fun acts => by rw [doInvoke_state]; exact hsteps.trans h⟩
  · exact Or.inr ⟨q, vm₁, B, X₁.warmed, X', hpost, hstep₁ _ fun acts => by rw [doInvoke_state]; exact hsteps⟩
theorem vx_runF {x y : MethodName} {bytes cc : ByteArray} {maxL nL mc ms n index count : Nat} {ret : Option FieldType} {ws : List Cond} {rm : Room} {Pc : Array Value → State → Prop} {Qc : Array Value → State → Outcome → State → Prop} {XC : String → State → State → Prop} {free : Addr → Prop} {Ts : List Cond} {own C : String} {cC : ClassId} {b : Addr} {As rest : List Value} {g : JFrame}
    (hat : ClassAt s C cC) (S : CallFix p m c cc nL s args Ts own) (hM : vx_Met l y ws rm Pc Qc XC mc ms free) (cw : va_CI R s args own C index x y bytes maxL ret ws rm mc ms n) (hp : PreV s H C b Pc As)
    (hg : g.method = m) (hn : As.length = n) (hsize : g.locals.size = nL) (hstack : g.stack = As.reverse ++ .ref b :: rest) (hW : 2 * g.monitorRoom + (rest.map fun v => v.category).sum ≤ 8) (hdg : decode cc g.pc = .ok (.invokeinterface index count, 5)) (hf : cells + mc ≤ R.cells ∧ slots + ms ≤ R.slots) :
    vx_Run5 p l e R s m args below meth c H locs cells slots mc ms g rest (Qc (Value.ref b :: As).toArray) XC free := by
  obtain ⟨hrc, hrs, hfr, hlo, hws, hcw⟩ := cw.back
  have hini := cw.init
  have hK : vx_Back l R p e below s args y 5 8 (PreOf R mc ms Pc) (PostOf Qc mc ms free) (vx_Post XC mc ms free) := vx_back (bytes := bytes) (maxL := maxL) (ret := ret) hM hp.1 hrc hrs hfr hlo hws hcw (fun a' U hW => word_at hW (Or.inl (by first | rfl | simp [Cond.onTables, Cond.keeps, Cond.steady])) hini)
  obtain ⟨hx, hb, hml, ho, -⟩ := S
  obtain ⟨-, ⟨cellB, hcB, hoB, hclB⟩, hPc⟩ := hp
  obtain ⟨hfc, kB, hkB, -⟩ := hat
  cases hfc.symm.trans hclB
  intro T hT X
  rcases vx_callIF X hx (C := C) (bytes := bytes) (maxL := maxL) (ret := ret) ho cw.link cw.decl cw.face cw.sel cw.inst cw.pub cw.unh cw.cast cw.code cw.notMH hK (by rw [hT]; exact hcB) hoB hclB hkB hg (hsize.trans hml.symm) (argsL := As) (rest := rest) (fun sig h => hn.trans (cw.len sig h)) hstack hW (by rw [hb]; exact hdg)
    (fun vm₁ hW₁ => ⟨hf.1, hf.2, hPc (T.setVm vm₁) hT hW₁⟩) with ⟨v, vm₁, ⟨U', l2, c2, s2⟩, hW₁, X', ⟨g', mk, t, L, e1, e2, hq, h1, hL, h2, h3⟩, st⟩ | ⟨q, vm₁, ⟨U', l2, c2, s2⟩, hW₁, X', ⟨g', mk, t, L, E, ce, e1, e2, hq, hce, hcv, hcl, h1, hL, h2, h3⟩, st⟩
  · dsimp only [Pt.U, Pt.locs, Pt.cells, Pt.slots] at X' e1 e2 h1 h2 h3 st
    subst h1; subst h2; subst h3
    exact Or.inl ⟨v, (T.setVm vm₁).calling g' mk (Value.ref b :: As).toArray, t, U', L, hT, X', hL, e1, e2, hq, st⟩
  · dsimp only [Pt.U, Pt.locs, Pt.cells, Pt.slots] at X' e1 e2 h1 h2 h3 st hcl
    subst h1; subst h2; subst h3
    exact Or.inr ⟨q, (T.setVm vm₁).calling g' mk (Value.ref b :: As).toArray, t, U', L, E, ce, hT, X', hL, e1, e2, hq, hce, hcv, vx_cls hW₁ hcl, st⟩
theorem vx_callFv {S SX : Type} {post : S → Prop} {px : SX → Prop} {B : S → State → Prop} {BX : String → SX → State → Prop} {AX : Nat → Prop} (hr : vx_Run5 p l e R s m args below meth c H locs cells slots mc ms (F0 m pc ls st0) rest (va_Qv post B A1 a) (vx_X px BX AX) free) (hS : va_S A0 H0 H locs) (hA : ∀ q, q < H.size → A1 q → A0 q) (hf : ∀ q, free q → A0 q) (hAX : ∀ q, q < H.size → AX q → A0 q)
    (kx : ∀ (E : String) (ce : Cell) (q9 : Addr) (u : SX) (t : State) (H1 : Heap) (locs1 : List Loc), t.heap = H1 → s.vm.Alike t.vm → px u → BX E u t → H.size ≤ H1.size → (∀ q : Nat, q < H.size → ¬ AX q → H1[q]? = H[q]?) → va_S A0 H0 H1 locs1 → H1[q9]? = some ce → ce.vm = .none → s.vm.findClass E = some ce.cls → vx_W p l e R s m args below meth c H1 locs1 (cells + mc) (slots + ms) Q (F0 m pc ls rest) q9)
    (kk : ∀ (u : S) (t : State) (H1 : Heap) (locs1 : List Loc), t.heap = H1 → s.vm.Alike t.vm → post u → B u t → H.size ≤ H1.size → (∀ q : Nat, q < H.size → ¬ A1 q → H1[q]? = H[q]?) → va_S A0 H0 H1 locs1 → W p l e R s m args below meth c H1 locs1 (cells + mc) (slots + ms) Q (F0 m (pc + 5) ls (rest))) : W p l e R s m args below meth c H locs cells slots Q (F0 m pc ls st0) := by
  intro T hT X
  rcases hr T hT X with ⟨v, st₀, t, T', L, h0, X', hL, e1, e2, ⟨⟨u, hv, hp, hb⟩, hF⟩, st⟩ | ⟨q, st₀, t, T', L, E, ce, h0, X', hL, e1, e2, ⟨u, hp, hb, hF⟩, hce, hcv, hcl, st⟩
  · cases hv
    obtain ⟨k1, k2, k3⟩ := vx_keep h0 e1 hS hA hf hL hF
    obtain ⟨t2, a1, b1⟩ := kk u t T'.heap (locs ++ L) e1.symm (by rw [← e2]; exact X'.warmed.alike) hp hb k1 k2 k3 T' rfl X'
    exact ⟨t2, st t2 a1, b1⟩
  · obtain ⟨k1, k2, k3⟩ := vx_keep h0 e1 hS hAX hf hL hF
    obtain ⟨t2, a1, b1⟩ := kx E ce q u t T'.heap (locs ++ L) e1.symm (by rw [← e2]; exact X'.warmed.alike) hp hb k1 k2 k3 (by rw [e1]; exact hce) hcv hcl T' rfl X'
    exact ⟨t2, st.trans a1, b1⟩
theorem vx_callFi {S SX : Type} {post : Int32 → S → Prop} {px : SX → Prop} {B : S → State → Prop} {BX : String → SX → State → Prop} {AX : Nat → Prop} (hr : vx_Run5 p l e R s m args below meth c H locs cells slots mc ms (F0 m pc ls st0) rest (va_Qi post B A1 a) (vx_X px BX AX) free) (hS : va_S A0 H0 H locs) (hA : ∀ q, q < H.size → A1 q → A0 q) (hf : ∀ q, free q → A0 q) (hAX : ∀ q, q < H.size → AX q → A0 q)
    (kx : ∀ (E : String) (ce : Cell) (q9 : Addr) (u : SX) (t : State) (H1 : Heap) (locs1 : List Loc), t.heap = H1 → s.vm.Alike t.vm → px u → BX E u t → H.size ≤ H1.size → (∀ q : Nat, q < H.size → ¬ AX q → H1[q]? = H[q]?) → va_S A0 H0 H1 locs1 → H1[q9]? = some ce → ce.vm = .none → s.vm.findClass E = some ce.cls → vx_W p l e R s m args below meth c H1 locs1 (cells + mc) (slots + ms) Q (F0 m pc ls rest) q9)
    (kk : ∀ (r : Int32) (u : S) (t : State) (H1 : Heap) (locs1 : List Loc), t.heap = H1 → s.vm.Alike t.vm → post r u → B u t → H.size ≤ H1.size → (∀ q : Nat, q < H.size → ¬ A1 q → H1[q]? = H[q]?) → va_S A0 H0 H1 locs1 → W p l e R s m args below meth c H1 locs1 (cells + mc) (slots + ms) Q (F0 m (pc + 5) ls (.int r :: rest))) : W p l e R s m args below meth c H locs cells slots Q (F0 m pc ls st0) := by
  intro T hT X
  rcases hr T hT X with ⟨v, st₀, t, T', L, h0, X', hL, e1, e2, ⟨⟨r, u, hv, hp, hb⟩, hF⟩, st⟩ | ⟨q, st₀, t, T', L, E, ce, h0, X', hL, e1, e2, ⟨u, hp, hb, hF⟩, hce, hcv, hcl, st⟩
  · cases hv
    obtain ⟨k1, k2, k3⟩ := vx_keep h0 e1 hS hA hf hL hF
    obtain ⟨t2, a1, b1⟩ := kk r u t T'.heap (locs ++ L) e1.symm (by rw [← e2]; exact X'.warmed.alike) hp hb k1 k2 k3 T' rfl X'
    exact ⟨t2, st t2 a1, b1⟩
  · obtain ⟨k1, k2, k3⟩ := vx_keep h0 e1 hS hAX hf hL hF
    obtain ⟨t2, a1, b1⟩ := kx E ce q u t T'.heap (locs ++ L) e1.symm (by rw [← e2]; exact X'.warmed.alike) hp hb k1 k2 k3 (by rw [e1]; exact hce) hcv hcl T' rfl X'
    exact ⟨t2, st.trans a1, b1⟩
theorem vx_callFl {S SX : Type} {post : Int64 → S → Prop} {px : SX → Prop} {B : S → State → Prop} {BX : String → SX → State → Prop} {AX : Nat → Prop} (hr : vx_Run5 p l e R s m args below meth c H locs cells slots mc ms (F0 m pc ls st0) rest (va_Ql post B A1 a) (vx_X px BX AX) free) (hS : va_S A0 H0 H locs) (hA : ∀ q, q < H.size → A1 q → A0 q) (hf : ∀ q, free q → A0 q) (hAX : ∀ q, q < H.size → AX q → A0 q)
    (kx : ∀ (E : String) (ce : Cell) (q9 : Addr) (u : SX) (t : State) (H1 : Heap) (locs1 : List Loc), t.heap = H1 → s.vm.Alike t.vm → px u → BX E u t → H.size ≤ H1.size → (∀ q : Nat, q < H.size → ¬ AX q → H1[q]? = H[q]?) → va_S A0 H0 H1 locs1 → H1[q9]? = some ce → ce.vm = .none → s.vm.findClass E = some ce.cls → vx_W p l e R s m args below meth c H1 locs1 (cells + mc) (slots + ms) Q (F0 m pc ls rest) q9)
    (kk : ∀ (r : Int64) (u : S) (t : State) (H1 : Heap) (locs1 : List Loc), t.heap = H1 → s.vm.Alike t.vm → post r u → B u t → H.size ≤ H1.size → (∀ q : Nat, q < H.size → ¬ A1 q → H1[q]? = H[q]?) → va_S A0 H0 H1 locs1 → W p l e R s m args below meth c H1 locs1 (cells + mc) (slots + ms) Q (F0 m (pc + 5) ls (.long r :: rest))) : W p l e R s m args below meth c H locs cells slots Q (F0 m pc ls st0) := by
  intro T hT X
  rcases hr T hT X with ⟨v, st₀, t, T', L, h0, X', hL, e1, e2, ⟨⟨r, u, hv, hp, hb⟩, hF⟩, st⟩ | ⟨q, st₀, t, T', L, E, ce, h0, X', hL, e1, e2, ⟨u, hp, hb, hF⟩, hce, hcv, hcl, st⟩
  · cases hv
    obtain ⟨k1, k2, k3⟩ := vx_keep h0 e1 hS hA hf hL hF
    obtain ⟨t2, a1, b1⟩ := kk r u t T'.heap (locs ++ L) e1.symm (by rw [← e2]; exact X'.warmed.alike) hp hb k1 k2 k3 T' rfl X'
    exact ⟨t2, st t2 a1, b1⟩
  · obtain ⟨k1, k2, k3⟩ := vx_keep h0 e1 hS hAX hf hL hF
    obtain ⟨t2, a1, b1⟩ := kx E ce q u t T'.heap (locs ++ L) e1.symm (by rw [← e2]; exact X'.warmed.alike) hp hb k1 k2 k3 (by rw [e1]; exact hce) hcv hcl T' rfl X'
    exact ⟨t2, st.trans a1, b1⟩
theorem vx_callFf {S SX : Type} {post : UInt32 → S → Prop} {px : SX → Prop} {B : S → State → Prop} {BX : String → SX → State → Prop} {AX : Nat → Prop} (hr : vx_Run5 p l e R s m args below meth c H locs cells slots mc ms (F0 m pc ls st0) rest (va_Qf post B A1 a) (vx_X px BX AX) free) (hS : va_S A0 H0 H locs) (hA : ∀ q, q < H.size → A1 q → A0 q) (hf : ∀ q, free q → A0 q) (hAX : ∀ q, q < H.size → AX q → A0 q)
    (kx : ∀ (E : String) (ce : Cell) (q9 : Addr) (u : SX) (t : State) (H1 : Heap) (locs1 : List Loc), t.heap = H1 → s.vm.Alike t.vm → px u → BX E u t → H.size ≤ H1.size → (∀ q : Nat, q < H.size → ¬ AX q → H1[q]? = H[q]?) → va_S A0 H0 H1 locs1 → H1[q9]? = some ce → ce.vm = .none → s.vm.findClass E = some ce.cls → vx_W p l e R s m args below meth c H1 locs1 (cells + mc) (slots + ms) Q (F0 m pc ls rest) q9)
    (kk : ∀ (r : UInt32) (u : S) (t : State) (H1 : Heap) (locs1 : List Loc), t.heap = H1 → s.vm.Alike t.vm → post r u → B u t → H.size ≤ H1.size → (∀ q : Nat, q < H.size → ¬ A1 q → H1[q]? = H[q]?) → va_S A0 H0 H1 locs1 → W p l e R s m args below meth c H1 locs1 (cells + mc) (slots + ms) Q (F0 m (pc + 5) ls (.float r :: rest))) : W p l e R s m args below meth c H locs cells slots Q (F0 m pc ls st0) := by
  intro T hT X
  rcases hr T hT X with ⟨v, st₀, t, T', L, h0, X', hL, e1, e2, ⟨⟨r, u, hv, hp, hb⟩, hF⟩, st⟩ | ⟨q, st₀, t, T', L, E, ce, h0, X', hL, e1, e2, ⟨u, hp, hb, hF⟩, hce, hcv, hcl, st⟩
  · cases hv
    obtain ⟨k1, k2, k3⟩ := vx_keep h0 e1 hS hA hf hL hF
    obtain ⟨t2, a1, b1⟩ := kk r u t T'.heap (locs ++ L) e1.symm (by rw [← e2]; exact X'.warmed.alike) hp hb k1 k2 k3 T' rfl X'
    exact ⟨t2, st t2 a1, b1⟩
  · obtain ⟨k1, k2, k3⟩ := vx_keep h0 e1 hS hAX hf hL hF
    obtain ⟨t2, a1, b1⟩ := kx E ce q u t T'.heap (locs ++ L) e1.symm (by rw [← e2]; exact X'.warmed.alike) hp hb k1 k2 k3 (by rw [e1]; exact hce) hcv hcl T' rfl X'
    exact ⟨t2, st.trans a1, b1⟩
theorem vx_callFd {S SX : Type} {post : UInt64 → S → Prop} {px : SX → Prop} {B : S → State → Prop} {BX : String → SX → State → Prop} {AX : Nat → Prop} (hr : vx_Run5 p l e R s m args below meth c H locs cells slots mc ms (F0 m pc ls st0) rest (va_Qd post B A1 a) (vx_X px BX AX) free) (hS : va_S A0 H0 H locs) (hA : ∀ q, q < H.size → A1 q → A0 q) (hf : ∀ q, free q → A0 q) (hAX : ∀ q, q < H.size → AX q → A0 q)
    (kx : ∀ (E : String) (ce : Cell) (q9 : Addr) (u : SX) (t : State) (H1 : Heap) (locs1 : List Loc), t.heap = H1 → s.vm.Alike t.vm → px u → BX E u t → H.size ≤ H1.size → (∀ q : Nat, q < H.size → ¬ AX q → H1[q]? = H[q]?) → va_S A0 H0 H1 locs1 → H1[q9]? = some ce → ce.vm = .none → s.vm.findClass E = some ce.cls → vx_W p l e R s m args below meth c H1 locs1 (cells + mc) (slots + ms) Q (F0 m pc ls rest) q9)
    (kk : ∀ (r : UInt64) (u : S) (t : State) (H1 : Heap) (locs1 : List Loc), t.heap = H1 → s.vm.Alike t.vm → post r u → B u t → H.size ≤ H1.size → (∀ q : Nat, q < H.size → ¬ A1 q → H1[q]? = H[q]?) → va_S A0 H0 H1 locs1 → W p l e R s m args below meth c H1 locs1 (cells + mc) (slots + ms) Q (F0 m (pc + 5) ls (.double r :: rest))) : W p l e R s m args below meth c H locs cells slots Q (F0 m pc ls st0) := by
  intro T hT X
  rcases hr T hT X with ⟨v, st₀, t, T', L, h0, X', hL, e1, e2, ⟨⟨r, u, hv, hp, hb⟩, hF⟩, st⟩ | ⟨q, st₀, t, T', L, E, ce, h0, X', hL, e1, e2, ⟨u, hp, hb, hF⟩, hce, hcv, hcl, st⟩
  · cases hv
    obtain ⟨k1, k2, k3⟩ := vx_keep h0 e1 hS hA hf hL hF
    obtain ⟨t2, a1, b1⟩ := kk r u t T'.heap (locs ++ L) e1.symm (by rw [← e2]; exact X'.warmed.alike) hp hb k1 k2 k3 T' rfl X'
    exact ⟨t2, st t2 a1, b1⟩
  · obtain ⟨k1, k2, k3⟩ := vx_keep h0 e1 hS hAX hf hL hF
    obtain ⟨t2, a1, b1⟩ := kx E ce q u t T'.heap (locs ++ L) e1.symm (by rw [← e2]; exact X'.warmed.alike) hp hb k1 k2 k3 (by rw [e1]; exact hce) hcv hcl T' rfl X'
    exact ⟨t2, st.trans a1, b1⟩
end
/-! ===== END ===== -/
/-! ===== BEGIN by an interface, a method with a table of its own that may throw (follows va_callIFW, va_runFW) ===== -/
section
variable {p : Program} {l : Launch} {e : Env} {R : Room} {s : State} {m : MethodId} {args : Array Value} {below : List Frame} {meth : Method} {c : Code} {H : Heap} {locs : List Loc} {cells slots : Nat}
theorem vx_callIFW {T : State} (X : Stand p l e R s m args below meth c T locs cells slots) (hexec : p.tables.exec = Jvm.exec) {own C : String} {index count : Nat} {x y : MethodName} {bytes : ByteArray} {maxL : Nat} {ret : Option FieldType} {hh : List (Nat × Nat × Nat × Nat)}
    (hown : s.vm.findClass own = some m.cls) (hlink : (Cond.methodLink own index x).before args s = true) (hdecl : (Cond.declares x).before args s = true) (hface : (Cond.interfaceMethod x.cls x.cls x.name x.desc).before args s = true)
    (hsel : (Cond.selects C x y).before args s = true) (hinst : (Cond.instanceMethod y).before args s = true) (hpub : (Cond.publicMethod y).before args s = true) (hunh : (Cond.unhidden C x.name x.desc).before args s = true)
    (hcast : (Cond.castable C x.cls).before args s = true) (hcode : (Cond.codeWith y bytes maxL ret hh).before args s = true) (hx : x.cls ≠ "java/lang/invoke/MethodHandle" ∧ x.cls ≠ "java/lang/invoke/VarHandle")
    {W : Nat} {Pre : Pt → Array Value → Prop} {Post : Pt → Array Value → Option Value → Pt → Prop} {PostX : Pt → Array Value → Addr → Pt → Prop} (hK : vx_Back l R p e below s args y 5 W Pre Post PostX)
    {b : Addr} {cellB : Cell} {kB : Class} (hcell : T.heap[b]? = some cellB) (hobj : cellB.vm.isStatics = false) (hcls : s.vm.findClass C = some cellB.cls) (hkB : s.vm.classes[cellB.cls]? = some kB)
    {g : JFrame} (hg : g.method = m) (hsize : g.locals.size = c.maxLocals) {argsL rest : List Value} (hlen : ∀ sig, parseMethodDescriptor x.desc = some sig → argsL.length = sig.parameters.length)
    (hstack : g.stack = argsL.reverse ++ .ref b :: rest) (hW : 2 * g.monitorRoom + (rest.map fun v => v.category).sum ≤ W) (hdg : decode c.code g.pc = .ok (.invokeinterface index count, 5))
    (hpre : ∀ vm₁, s.WarmedH vm₁ → Pre ⟨T.setVm vm₁, locs, cells, slots⟩ (Value.ref b :: argsL).toArray) :
    (∃ (v : Option Value) (vm₁ : Vm) (B : Pt), s.WarmedH vm₁ ∧ Stand p l e R s m args below meth c B.U B.locs B.cells B.slots ∧ Post ⟨T.setVm vm₁, locs, cells, slots⟩ (Value.ref b :: argsL).toArray v B ∧
      ∀ target, Steps p.tables e below (B.U.setTop { g with pc := g.pc + 5, stack := v.toList ++ rest }) target → Steps p.tables e below (T.setTop g) target) ∨
    (∃ (q : Addr) (vm₁ : Vm) (B : Pt), s.WarmedH vm₁ ∧ Stand p l e R s m args below meth c B.U B.locs B.cells B.slots ∧ PostX ⟨T.setVm vm₁, locs, cells, slots⟩ (Value.ref b :: argsL).toArray q B ∧
      Steps p.tables e below (T.setTop g) ((B.U.setTop { g with stack := rest }).pushFrame (.throwing q))) := by
  obtain ⟨r0, r, hn, hrm, hstR, hsigR⟩ := Cond.declares_spec hdecl
  obtain ⟨cL, kL, r1, hcL, hkL, hiL, hfoundL, hn1⟩ := Cond.interfaceMethod_spec hface
  cases hn.symm.trans hn1
  have hr0cls : r0.cls = cL := Option.some.inj ((findClass_of_methodNamed hn).symm.trans hcL)
  obtain ⟨hnameR, hdescR⟩ := name_of_methodNamed hn hrm
  obtain ⟨mk, methM, hnamed, hmethM, -, habM⟩ := Cond.instanceMethod_spec hinst
  obtain ⟨c2, r2, m2, q1, q2, q3, q4, -⟩ := Cond.selects_spec hsel
  cases hcls.symm.trans q1
  cases hfoundL.symm.trans q2
  cases hnamed.symm.trans q3
  have hselP : selectMethod e.platform s.vm cellB.cls r0 = .method mk := by rw [Launch.admits_selectMethod X.admits]; exact q4
  have hpubM : hasFlag methM.accessFlags Acc.public_ = true := Cond.publicMethod_spec hnamed hmethM hpub
  have hway : ((cellB.cls :: s.vm.superclasses cellB.cls).any fun k => (declaredIn s.vm r.name r.desc k).any fun (_, z) => z.isPrivate || z.isStatic) = false := by
    rw [hnameR, hdescR]; exact Cond.unhidden_spec hcls hunh
  obtain ⟨c3, t3, w1, w2, w3⟩ := Cond.castable_spec hcast
  cases hcls.symm.trans w1
  cases hcL.symm.trans w2
  obtain ⟨vm₁, X₁, hstep₁⟩ := X.invokeinterface hexec hown hlink hn hrm hstR (by rw [hr0cls]; exact hkL) hiL hx (a := b) (cell := cellB) (kcell := kB) hcell
    (fun z h => by rw [h] at hobj; cases hobj) hkB (by rw [hr0cls]; exact w3) hselP hmethM hway hpubM habM (g := g) hg (argsL := argsL) (rest := rest) (hlen _ hsigR) hstack hdg
  rcases hK m meth c ⟨T.setVm vm₁, locs, cells, slots⟩ { g with stack := rest } (.invokeinterface index count) mk (Value.ref b :: argsL).toArray X₁ hg hsize hdg hW (X₁.named hnamed) (hpre vm₁ X₁.warmed) with ⟨v, B, X', hpost, hsteps⟩ | ⟨q, B, X', hpost, hsteps⟩
  · exact Or.inl ⟨v, vm₁, B, X₁.warmed, X', hpost, fun target h => hstep₁ _ fun acts => by rw [doInvoke_state]; exact hsteps.trans h⟩
  · exact Or.inr ⟨q, vm₁, B, X₁.warmed, X', hpost, hstep₁ _ fun acts => by rw [doInvoke_state]; exact hsteps⟩
theorem vx_runFW {x y : MethodName} {bytes cc : ByteArray} {maxL nL mc ms n index count : Nat} {ret : Option FieldType} {hh : List (Nat × Nat × Nat × Nat)} {ws : List Cond} {rm : Room} {Pc : Array Value → State → Prop} {Qc : Array Value → State → Outcome → State → Prop} {XC : String → State → State → Prop} {free : Addr → Prop} {Ts : List Cond} {own C : String} {cC : ClassId} {b : Addr} {As rest : List Value} {g : JFrame}
    (hat : ClassAt s C cC) (S : CallFix p m c cc nL s args Ts own) (hM : vx_Met l y ws rm Pc Qc XC mc ms free) (cw : va_CIW R s args own C index x y bytes maxL ret hh ws rm mc ms n) (hp : PreV s H C b Pc As)
    (hg : g.method = m) (hn : As.length = n) (hsize : g.locals.size = nL) (hstack : g.stack = As.reverse ++ .ref b :: rest) (hW : 2 * g.monitorRoom + (rest.map fun v => v.category).sum ≤ 8) (hdg : decode cc g.pc = .ok (.invokeinterface index count, 5)) (hf : cells + mc ≤ R.cells ∧ slots + ms ≤ R.slots) :
    vx_Run5 p l e R s m args below meth c H locs cells slots mc ms g rest (Qc (Value.ref b :: As).toArray) XC free := by
  obtain ⟨hrc, hrs, hfr, hlo, hws, hcw⟩ := cw.back
  have hini := cw.init
  have hK : vx_Back l R p e below s args y 5 8 (PreOf R mc ms Pc) (PostOf Qc mc ms free) (vx_Post XC mc ms free) := vx_backW (hh := hh) (bytes := bytes) (maxL := maxL) (ret := ret) hM hp.1 hrc hrs hfr hlo hws hcw (fun a' U hW => word_at hW (Or.inl (by first | rfl | simp [Cond.onTables, Cond.keeps, Cond.steady])) hini)
  obtain ⟨hx, hb, hml, ho, -⟩ := S
  obtain ⟨-, ⟨cellB, hcB, hoB, hclB⟩, hPc⟩ := hp
  obtain ⟨hfc, kB, hkB, -⟩ := hat
  cases hfc.symm.trans hclB
  intro T hT X
  rcases vx_callIFW X hx (C := C) (hh := hh) (bytes := bytes) (maxL := maxL) (ret := ret) ho cw.link cw.decl cw.face cw.sel cw.inst cw.pub cw.unh cw.cast cw.code cw.notMH hK (by rw [hT]; exact hcB) hoB hclB hkB hg (hsize.trans hml.symm) (argsL := As) (rest := rest) (fun sig h => hn.trans (cw.len sig h)) hstack hW (by rw [hb]; exact hdg)
    (fun vm₁ hW₁ => ⟨hf.1, hf.2, hPc (T.setVm vm₁) hT hW₁⟩) with ⟨v, vm₁, ⟨U', l2, c2, s2⟩, hW₁, X', ⟨g', mk, t, L, e1, e2, hq, h1, hL, h2, h3⟩, st⟩ | ⟨q, vm₁, ⟨U', l2, c2, s2⟩, hW₁, X', ⟨g', mk, t, L, E, ce, e1, e2, hq, hce, hcv, hcl, h1, hL, h2, h3⟩, st⟩
  · dsimp only [Pt.U, Pt.locs, Pt.cells, Pt.slots] at X' e1 e2 h1 h2 h3 st
    subst h1; subst h2; subst h3
    exact Or.inl ⟨v, (T.setVm vm₁).calling g' mk (Value.ref b :: As).toArray, t, U', L, hT, X', hL, e1, e2, hq, st⟩
  · dsimp only [Pt.U, Pt.locs, Pt.cells, Pt.slots] at X' e1 e2 h1 h2 h3 st hcl
    subst h1; subst h2; subst h3
    exact Or.inr ⟨q, (T.setVm vm₁).calling g' mk (Value.ref b :: As).toArray, t, U', L, E, ce, hT, X', hL, e1, e2, hq, hce, hcv, vx_cls hW₁ hcl, st⟩
end
/-! ===== END ===== -/
/-! ===== BEGIN .. of methods that hand back an object of the pool ===== -/
section
variable {p : Program} {l : Launch} {e : Env} {R : Room} {s : State} {m : MethodId} {args : Array Value} {below : List Frame} {meth : Method} {c : Code} {H : Heap} {locs : List Loc} {cells slots : Nat} {Q : State → Prop}
variable {mc ms : Nat} {free : Addr → Prop} {A0 A1 : Nat → Prop} {H0 : Heap} {a : Array Value} {pc : Nat} {ls : Array Slot} {st0 rest : List Value}
theorem vx_callq {S SX : Type} {post : Option Nat → S → Prop} {px : SX → Prop} {B : S → State → Prop} {BX : String → SX → State → Prop} {AX : Nat → Prop} (hr : vx_Run p l e R s m args below meth c H locs cells slots mc ms (F0 m pc ls st0) rest (va_Qq post B A1 a) (vx_X px BX AX) free) (hS : va_S A0 H0 H locs) (hA : ∀ q, q < H.size → A1 q → A0 q) (hf : ∀ q, free q → A0 q) (hAX : ∀ q, q < H.size → AX q → A0 q)
    (kx : ∀ (E : String) (ce : Cell) (q9 : Addr) (u : SX) (t : State) (H1 : Heap) (locs1 : List Loc), t.heap = H1 → s.vm.Alike t.vm → px u → BX E u t → H.size ≤ H1.size → (∀ q : Nat, q < H.size → ¬ AX q → H1[q]? = H[q]?) → va_S A0 H0 H1 locs1 → H1[q9]? = some ce → ce.vm = .none → s.vm.findClass E = some ce.cls → vx_W p l e R s m args below meth c H1 locs1 (cells + mc) (slots + ms) Q (F0 m pc ls rest) q9)
    (kk : ∀ (r : Option Nat) (u : S) (t : State) (H1 : Heap) (locs1 : List Loc), t.heap = H1 → s.vm.Alike t.vm → post r u → B u t → H.size ≤ H1.size → (∀ q : Nat, q < H.size → ¬ A1 q → H1[q]? = H[q]?) → va_S A0 H0 H1 locs1 → W p l e R s m args below meth c H1 locs1 (cells + mc) (slots + ms) Q (F0 m (pc + 3) ls (va_rf r :: rest))) : W p l e R s m args below meth c H locs cells slots Q (F0 m pc ls st0) := by
  intro T hT X
  rcases hr T hT X with ⟨v, st₀, t, T', L, h0, X', hL, e1, e2, ⟨⟨r, u, hv, hp, hb⟩, hF⟩, st⟩ | ⟨q, st₀, t, T', L, E, ce, h0, X', hL, e1, e2, ⟨u, hp, hb, hF⟩, hce, hcv, hcl, st⟩
  · cases hv
    obtain ⟨k1, k2, k3⟩ := vx_keep h0 e1 hS hA hf hL hF
    obtain ⟨t2, a1, b1⟩ := kk r u t T'.heap (locs ++ L) e1.symm (by rw [← e2]; exact X'.warmed.alike) hp hb k1 k2 k3 T' rfl X'
    exact ⟨t2, st t2 a1, b1⟩
  · obtain ⟨k1, k2, k3⟩ := vx_keep h0 e1 hS hAX hf hL hF
    obtain ⟨t2, a1, b1⟩ := kx E ce q u t T'.heap (locs ++ L) e1.symm (by rw [← e2]; exact X'.warmed.alike) hp hb k1 k2 k3 (by rw [e1]; exact hce) hcv hcl T' rfl X'
    exact ⟨t2, st.trans a1, b1⟩
end
/-! ===== END ===== -/
/-! ===== BEGIN .. a constant ===== -/
section
variable {p : Program} {l : Launch} {e : Env} {R : Room} {s : State} {m : MethodId} {args : Array Value} {below : List Frame} {meth : Method} {c : Code} {H : Heap} {locs : List Loc} {cells slots : Nat} {Q : State → Prop}
variable {mc ms : Nat} {free : Addr → Prop} {A0 A1 : Nat → Prop} {H0 : Heap} {a : Array Value} {pc : Nat} {ls : Array Slot} {st0 rest : List Value}
theorem vx_calle {ad : Nat → Nat} {S SX : Type} {post : Option Nat → S → Prop} {px : SX → Prop} {B : S → State → Prop} {BX : String → SX → State → Prop} {AX : Nat → Prop} (hr : vx_Run p l e R s m args below meth c H locs cells slots mc ms (F0 m pc ls st0) rest (va_Qe ad post B A1 a) (vx_X px BX AX) free) (hS : va_S A0 H0 H locs) (hA : ∀ q, q < H.size → A1 q → A0 q) (hf : ∀ q, free q → A0 q) (hAX : ∀ q, q < H.size → AX q → A0 q)
    (kx : ∀ (E : String) (ce : Cell) (q9 : Addr) (u : SX) (t : State) (H1 : Heap) (locs1 : List Loc), t.heap = H1 → s.vm.Alike t.vm → px u → BX E u t → H.size ≤ H1.size → (∀ q : Nat, q < H.size → ¬ AX q → H1[q]? = H[q]?) → va_S A0 H0 H1 locs1 → H1[q9]? = some ce → ce.vm = .none → s.vm.findClass E = some ce.cls → vx_W p l e R s m args below meth c H1 locs1 (cells + mc) (slots + ms) Q (F0 m pc ls rest) q9)
    (kk : ∀ (r : Option Nat) (u : S) (t : State) (H1 : Heap) (locs1 : List Loc), t.heap = H1 → s.vm.Alike t.vm → post r u → B u t → H.size ≤ H1.size → (∀ q : Nat, q < H.size → ¬ A1 q → H1[q]? = H[q]?) → va_S A0 H0 H1 locs1 → W p l e R s m args below meth c H1 locs1 (cells + mc) (slots + ms) Q (F0 m (pc + 3) ls (va_re ad r :: rest))) : W p l e R s m args below meth c H locs cells slots Q (F0 m pc ls st0) := by
  intro T hT X
  rcases hr T hT X with ⟨v, st₀, t, T', L, h0, X', hL, e1, e2, ⟨⟨r, u, hv, hp, hb⟩, hF⟩, st⟩ | ⟨q, st₀, t, T', L, E, ce, h0, X', hL, e1, e2, ⟨u, hp, hb, hF⟩, hce, hcv, hcl, st⟩
  · cases hv
    obtain ⟨k1, k2, k3⟩ := vx_keep h0 e1 hS hA hf hL hF
    obtain ⟨t2, a1, b1⟩ := kk r u t T'.heap (locs ++ L) e1.symm (by rw [← e2]; exact X'.warmed.alike) hp hb k1 k2 k3 T' rfl X'
    exact ⟨t2, st t2 a1, b1⟩
  · obtain ⟨k1, k2, k3⟩ := vx_keep h0 e1 hS hAX hf hL hF
    obtain ⟨t2, a1, b1⟩ := kx E ce q u t T'.heap (locs ++ L) e1.symm (by rw [← e2]; exact X'.warmed.alike) hp hb k1 k2 k3 (by rw [e1]; exact hce) hcv hcl T' rfl X'
    exact ⟨t2, st.trans a1, b1⟩
end
/-! ===== END ===== -/
/-! ===== BEGIN .. by an interface, an object ===== -/
section
variable {p : Program} {l : Launch} {e : Env} {R : Room} {s : State} {m : MethodId} {args : Array Value} {below : List Frame} {meth : Method} {c : Code} {H : Heap} {locs : List Loc} {cells slots : Nat} {Q : State → Prop}
variable {mc ms : Nat} {free : Addr → Prop} {A0 A1 : Nat → Prop} {H0 : Heap} {a : Array Value} {pc : Nat} {ls : Array Slot} {st0 rest : List Value}
theorem vx_callFq {S SX : Type} {post : Option Nat → S → Prop} {px : SX → Prop} {B : S → State → Prop} {BX : String → SX → State → Prop} {AX : Nat → Prop} (hr : vx_Run5 p l e R s m args below meth c H locs cells slots mc ms (F0 m pc ls st0) rest (va_Qq post B A1 a) (vx_X px BX AX) free) (hS : va_S A0 H0 H locs) (hA : ∀ q, q < H.size → A1 q → A0 q) (hf : ∀ q, free q → A0 q) (hAX : ∀ q, q < H.size → AX q → A0 q)
    (kx : ∀ (E : String) (ce : Cell) (q9 : Addr) (u : SX) (t : State) (H1 : Heap) (locs1 : List Loc), t.heap = H1 → s.vm.Alike t.vm → px u → BX E u t → H.size ≤ H1.size → (∀ q : Nat, q < H.size → ¬ AX q → H1[q]? = H[q]?) → va_S A0 H0 H1 locs1 → H1[q9]? = some ce → ce.vm = .none → s.vm.findClass E = some ce.cls → vx_W p l e R s m args below meth c H1 locs1 (cells + mc) (slots + ms) Q (F0 m pc ls rest) q9)
    (kk : ∀ (r : Option Nat) (u : S) (t : State) (H1 : Heap) (locs1 : List Loc), t.heap = H1 → s.vm.Alike t.vm → post r u → B u t → H.size ≤ H1.size → (∀ q : Nat, q < H.size → ¬ A1 q → H1[q]? = H[q]?) → va_S A0 H0 H1 locs1 → W p l e R s m args below meth c H1 locs1 (cells + mc) (slots + ms) Q (F0 m (pc + 5) ls (va_rf r :: rest))) : W p l e R s m args below meth c H locs cells slots Q (F0 m pc ls st0) := by
  intro T hT X
  rcases hr T hT X with ⟨v, st₀, t, T', L, h0, X', hL, e1, e2, ⟨⟨r, u, hv, hp, hb⟩, hF⟩, st⟩ | ⟨q, st₀, t, T', L, E, ce, h0, X', hL, e1, e2, ⟨u, hp, hb, hF⟩, hce, hcv, hcl, st⟩
  · cases hv
    obtain ⟨k1, k2, k3⟩ := vx_keep h0 e1 hS hA hf hL hF
    obtain ⟨t2, a1, b1⟩ := kk r u t T'.heap (locs ++ L) e1.symm (by rw [← e2]; exact X'.warmed.alike) hp hb k1 k2 k3 T' rfl X'
    exact ⟨t2, st t2 a1, b1⟩
  · obtain ⟨k1, k2, k3⟩ := vx_keep h0 e1 hS hAX hf hL hF
    obtain ⟨t2, a1, b1⟩ := kx E ce q u t T'.heap (locs ++ L) e1.symm (by rw [← e2]; exact X'.warmed.alike) hp hb k1 k2 k3 (by rw [e1]; exact hce) hcv hcl T' rfl X'
    exact ⟨t2, st.trans a1, b1⟩
end
/-! ===== END ===== -/
/-! ===== BEGIN .. by an interface, a constant ===== -/
section
variable {p : Program} {l : Launch} {e : Env} {R : Room} {s : State} {m : MethodId} {args : Array Value} {below : List Frame} {meth : Method} {c : Code} {H : Heap} {locs : List Loc} {cells slots : Nat} {Q : State → Prop}
variable {mc ms : Nat} {free : Addr → Prop} {A0 A1 : Nat → Prop} {H0 : Heap} {a : Array Value} {pc : Nat} {ls : Array Slot} {st0 rest : List Value}
theorem vx_callFe {ad : Nat → Nat} {S SX : Type} {post : Option Nat → S → Prop} {px : SX → Prop} {B : S → State → Prop} {BX : String → SX → State → Prop} {AX : Nat → Prop} (hr : vx_Run5 p l e R s m args below meth c H locs cells slots mc ms (F0 m pc ls st0) rest (va_Qe ad post B A1 a) (vx_X px BX AX) free) (hS : va_S A0 H0 H locs) (hA : ∀ q, q < H.size → A1 q → A0 q) (hf : ∀ q, free q → A0 q) (hAX : ∀ q, q < H.size → AX q → A0 q)
    (kx : ∀ (E : String) (ce : Cell) (q9 : Addr) (u : SX) (t : State) (H1 : Heap) (locs1 : List Loc), t.heap = H1 → s.vm.Alike t.vm → px u → BX E u t → H.size ≤ H1.size → (∀ q : Nat, q < H.size → ¬ AX q → H1[q]? = H[q]?) → va_S A0 H0 H1 locs1 → H1[q9]? = some ce → ce.vm = .none → s.vm.findClass E = some ce.cls → vx_W p l e R s m args below meth c H1 locs1 (cells + mc) (slots + ms) Q (F0 m pc ls rest) q9)
    (kk : ∀ (r : Option Nat) (u : S) (t : State) (H1 : Heap) (locs1 : List Loc), t.heap = H1 → s.vm.Alike t.vm → post r u → B u t → H.size ≤ H1.size → (∀ q : Nat, q < H.size → ¬ A1 q → H1[q]? = H[q]?) → va_S A0 H0 H1 locs1 → W p l e R s m args below meth c H1 locs1 (cells + mc) (slots + ms) Q (F0 m (pc + 5) ls (va_re ad r :: rest))) : W p l e R s m args below meth c H locs cells slots Q (F0 m pc ls st0) := by
  intro T hT X
  rcases hr T hT X with ⟨v, st₀, t, T', L, h0, X', hL, e1, e2, ⟨⟨r, u, hv, hp, hb⟩, hF⟩, st⟩ | ⟨q, st₀, t, T', L, E, ce, h0, X', hL, e1, e2, ⟨u, hp, hb, hF⟩, hce, hcv, hcl, st⟩
  · cases hv
    obtain ⟨k1, k2, k3⟩ := vx_keep h0 e1 hS hA hf hL hF
    obtain ⟨t2, a1, b1⟩ := kk r u t T'.heap (locs ++ L) e1.symm (by rw [← e2]; exact X'.warmed.alike) hp hb k1 k2 k3 T' rfl X'
    exact ⟨t2, st t2 a1, b1⟩
  · obtain ⟨k1, k2, k3⟩ := vx_keep h0 e1 hS hAX hf hL hF
    obtain ⟨t2, a1, b1⟩ := kx E ce q u t T'.heap (locs ++ L) e1.symm (by rw [← e2]; exact X'.warmed.alike) hp hb k1 k2 k3 (by rw [e1]; exact hce) hcv hcl T' rfl X'
    exact ⟨t2, st.trans a1, b1⟩
end
/-! ===== END ===== -/
/-! ===== BEGIN what the machine throws by itself: null at a field, at athrow ===== -/
section VXM2
variable {p : Program} {l : Launch} {e : Env} {R : Room} {s : State} {m : MethodId} {args : Array Value} {below : List Frame} {meth : Method} {c : Code} {H : Heap} {locs : List Loc} {cells slots : Nat}
variable {Q : State → Prop} {cc : ByteArray} {pc : Nat} {ls : Array Slot} {rest : List Value}
theorem vx_getfN {D cl tys} {own ref C : String} {T : u_T} {N ci index : Nat} {Ts : List Cond} (hexec : p.tables.exec = Jvm.exec) (hb : c.code = cc) (hts : ∀ w ∈ Ts, w.before args s = true) (hin : ∀ w ∈ u_ws C T N, w ∈ Ts) (hown : s.vm.findClass own = some m.cls) (hK : va_K D cl tys s) (hc : cl[ci]? = some (C, T, N)) (k : Nat) (hk : k < N) (hlink : (Cond.fieldLink own index ref (T k).2.1 (T k).2.2.1).before args s = true) (hsame : ∀ x, s.fieldFound? (T k).1 (T k).2.1 (T k).2.2.1 = some x → s.fieldFound? ref (T k).2.1 (T k).2.2.1 = some x) (hdg : decode cc pc = .ok (.getfield index, 3)) (kk : vx_NoteN p l e R s m args below meth c H locs cells slots Q (F0 m pc ls rest)) : W p l e R s m args below meth c H locs cells slots Q (F0 m pc ls (.null :: rest)) := by
  obtain ⟨hS, hfc, kC, hkC, -⟩ := hK.1 ci _ hc
  obtain ⟨cf, kf, fi, f, hi, -⟩ := hS k hk
  intro U hU X
  obtain ⟨vm', X1, st1⟩ := X.getfieldNull hexec hown hlink (hsame _ hi) (u_facts hfc hkC (u_lays hts hin hk) hi).1 (g := F0 m pc ls (.null :: rest)) rfl (rest := rest) rfl (by rw [hb]; exact hdg)
  obtain ⟨t, st, q⟩ := kk (U.setVm vm') hU X1
  exact ⟨t, st1 t st, q⟩
theorem vx_getfNN {D cl tys} {own ref C host : String} {T : u_T} {N ci index : Nat} {Ts : List Cond} (hexec : p.tables.exec = Jvm.exec) (hb : c.code = cc) (hts : ∀ w ∈ Ts, w.before args s = true) (hin : ∀ w ∈ u_ws C T N, w ∈ Ts) (hown : s.vm.findClass own = some m.cls) (hK : va_K D cl tys s) (hc : cl[ci]? = some (C, T, N)) (k : Nat) (hk : k < N) (hlink : (Cond.fieldLinkNest own index ref (T k).2.1 (T k).2.2.1 host).before args s = true) (hsame : ∀ x, s.fieldFound? (T k).1 (T k).2.1 (T k).2.2.1 = some x → s.fieldFound? ref (T k).2.1 (T k).2.2.1 = some x) (hdg : decode cc pc = .ok (.getfield index, 3)) (kk : vx_NoteN p l e R s m args below meth c H locs cells slots Q (F0 m pc ls rest)) : W p l e R s m args below meth c H locs cells slots Q (F0 m pc ls (.null :: rest)) := by
  obtain ⟨hS, hfc, kC, hkC, -⟩ := hK.1 ci _ hc
  obtain ⟨cf, kf, fi, f, hi, -⟩ := hS k hk
  intro U hU X
  obtain ⟨vm', X1, st1⟩ := X.getfieldNullNest hexec hown hlink (hsame _ hi) (u_facts hfc hkC (u_lays hts hin hk) hi).1 (g := F0 m pc ls (.null :: rest)) rfl (rest := rest) rfl (by rw [hb]; exact hdg)
  obtain ⟨t, st, q⟩ := kk (U.setVm vm') hU X1
  exact ⟨t, st1 t st, q⟩
theorem vx_putfN {D cl tys} {own ref C : String} {T : u_T} {N ci index : Nat} {Ts : List Cond} (hexec : p.tables.exec = Jvm.exec) (hb : c.code = cc) (hts : ∀ w ∈ Ts, w.before args s = true) (hin : ∀ w ∈ u_ws C T N, w ∈ Ts) (hown : s.vm.findClass own = some m.cls) (hK : va_K D cl tys s) (hc : cl[ci]? = some (C, T, N)) (k : Nat) (hk : k < N) (hlink : (Cond.fieldLink own index ref (T k).2.1 (T k).2.2.1).before args s = true) (hsame : ∀ x, s.fieldFound? (T k).1 (T k).2.1 (T k).2.2.1 = some x → s.fieldFound? ref (T k).2.1 (T k).2.2.1 = some x) (hfin : (T k).2.2.2 = false) {v : Value} (hdg : decode cc pc = .ok (.putfield index, 3)) (kk : vx_NoteN p l e R s m args below meth c H locs cells slots Q (F0 m pc ls rest)) : W p l e R s m args below meth c H locs cells slots Q (F0 m pc ls (v :: .null :: rest)) := by
  obtain ⟨hS, hfc, kC, hkC, -⟩ := hK.1 ci _ hc
  obtain ⟨cf, kf, fi, f, hi, -⟩ := hS k hk
  have hlay := hts _ (hin _ (u_in_lay hk))
  unfold u_lay at hlay
  rw [if_neg (by rw [hfin]; decide)] at hlay
  obtain ⟨c9, k9, cf9, kf9, fi9, f9, -, -, hi9, hst9, hnf9, -⟩ := Cond.lays_spec hlay
  cases hi.symm.trans hi9
  intro U hU X
  obtain ⟨vm', X1, st1⟩ := X.putfieldNull hexec hown hlink (hsame _ hi) hst9 hnf9 (g := F0 m pc ls (v :: .null :: rest)) rfl (v := v) (rest := rest) rfl (by rw [hb]; exact hdg)
  obtain ⟨t, st, q⟩ := kk (U.setVm vm') hU X1
  exact ⟨t, st1 t st, q⟩
theorem vx_putfNN {D cl tys} {own ref C host : String} {T : u_T} {N ci index : Nat} {Ts : List Cond} (hexec : p.tables.exec = Jvm.exec) (hb : c.code = cc) (hts : ∀ w ∈ Ts, w.before args s = true) (hin : ∀ w ∈ u_ws C T N, w ∈ Ts) (hown : s.vm.findClass own = some m.cls) (hK : va_K D cl tys s) (hc : cl[ci]? = some (C, T, N)) (k : Nat) (hk : k < N) (hlink : (Cond.fieldLinkNest own index ref (T k).2.1 (T k).2.2.1 host).before args s = true) (hsame : ∀ x, s.fieldFound? (T k).1 (T k).2.1 (T k).2.2.1 = some x → s.fieldFound? ref (T k).2.1 (T k).2.2.1 = some x) (hfin : (T k).2.2.2 = false) {v : Value} (hdg : decode cc pc = .ok (.putfield index, 3)) (kk : vx_NoteN p l e R s m args below meth c H locs cells slots Q (F0 m pc ls rest)) : W p l e R s m args below meth c H locs cells slots Q (F0 m pc ls (v :: .null :: rest)) := by
  obtain ⟨hS, hfc, kC, hkC, -⟩ := hK.1 ci _ hc
  obtain ⟨cf, kf, fi, f, hi, -⟩ := hS k hk
  have hlay := hts _ (hin _ (u_in_lay hk))
  unfold u_lay at hlay
  rw [if_neg (by rw [hfin]; decide)] at hlay
  obtain ⟨c9, k9, cf9, kf9, fi9, f9, -, -, hi9, hst9, hnf9, -⟩ := Cond.lays_spec hlay
  cases hi.symm.trans hi9
  intro U hU X
  obtain ⟨vm', X1, st1⟩ := X.putfieldNullNest hexec hown hlink (hsame _ hi) hst9 hnf9 (g := F0 m pc ls (v :: .null :: rest)) rfl (v := v) (rest := rest) rfl (by rw [hb]; exact hdg)
  obtain ⟨t, st, q⟩ := kk (U.setVm vm') hU X1
  exact ⟨t, st1 t st, q⟩
theorem vx_athrowN (hexec : p.tables.exec = Jvm.exec) (hb : c.code = cc) (hdg : decode cc pc = .ok (.athrow, 1)) (k : vx_NoteN p l e R s m args below meth c H locs cells slots Q (F0 m pc ls rest)) : W p l e R s m args below meth c H locs cells slots Q (F0 m pc ls (.null :: rest)) := by
  intro T hT X
  obtain ⟨t, st, q⟩ := k T hT X
  exact ⟨t, X.athrowNull hexec (g := F0 m pc ls (.null :: rest)) rfl (rest := rest) rfl (by rw [hb]; exact hdg) t st, q⟩
end VXM2
/-! ===== END ===== -/
end
section
/-! AN ABSTRACT MACHINE over resolved bytecode: ints and longs as integers, the heap as numbered cells. Names begin with gm_. -/
/-- a value: an int, a long, a cell's number (0: null), a thing that is only passed on (a String constant, a caught exception) -/
abbrev gm_V : Type := Int ⊕ (Int ⊕ (Nat ⊕ Nat))
abbrev gm_vi (x : Int) : gm_V := .inl x
abbrev gm_vl (x : Int) : gm_V := .inr (.inl x)
abbrev gm_vr (k : Nat) : gm_V := .inr (.inr (.inl k))
abbrev gm_vo (k : Nat) : gm_V := .inr (.inr (.inr k))
/-- the int, the long, the byte that goes round -/
def gm_w (x : Int) : Int := (x + 2147483648) % 4294967296 - 2147483648
def gm_w6 (x : Int) : Int := (x + 9223372036854775808) % 18446744073709551616 - 9223372036854775808
def gm_wb (x : Int) : Int := (x + 128) % 256 - 128
def gm_ws (x : Int) : Int := (x + 32768) % 65536 - 32768
theorem gm_w_toInt (x : Int) : (Int32.ofInt x).toInt = gm_w x := by
  rw [Int32.toInt_ofInt, show (Int32.size : Nat) = 4294967296 from rfl]
  unfold gm_w
  rw [Int.bmod_def]
  split <;> omega
theorem gm_w6_toInt (x : Int) : (Int64.ofInt x).toInt = gm_w6 x := by
  rw [Int64.toInt_ofInt, show (Int64.size : Nat) = 18446744073709551616 from rfl]
  unfold gm_w6
  rw [Int.bmod_def]
  split <;> omega
theorem gm_w_of (x : Int) : Int32.ofInt (gm_w x) = Int32.ofInt x := by
  apply Int32.toInt_inj.mp
  rw [gm_w_toInt, gm_w_toInt]
  unfold gm_w
  omega
theorem gm_w_id {x : Int} (h1 : -2147483648 ≤ x) (h2 : x < 2147483648) : gm_w x = x := by unfold gm_w; omega
theorem gm_w_lo (x : Int) : -2147483648 ≤ gm_w x := by unfold gm_w; omega
theorem gm_w_hi (x : Int) : gm_w x < 2147483648 := by unfold gm_w; omega
theorem gm_lt (x y : Int) : Int32.ofInt x < Int32.ofInt y ↔ gm_w x < gm_w y := by rw [Int32.lt_iff_toInt_lt, gm_w_toInt, gm_w_toInt]
theorem gm_le (x y : Int) : Int32.ofInt x ≤ Int32.ofInt y ↔ gm_w x ≤ gm_w y := by rw [Int32.le_iff_toInt_le, gm_w_toInt, gm_w_toInt]
theorem gm_eq (x y : Int) : Int32.ofInt x = Int32.ofInt y ↔ gm_w x = gm_w y := by rw [← Int32.toInt_inj, gm_w_toInt, gm_w_toInt]
theorem gm_cl (x : Int) : (Int32.ofInt x).toNatClampNeg = (gm_w x).toNat := by
  show (Int32.ofInt x).toInt.toNat = _
  rw [gm_w_toInt]
theorem gm_in {x : Int} {n : Nat} (h0 : 0 ≤ gm_w x) (h1 : gm_w x < n) : vp_in (Int32.ofInt x) n := by
  rw [vp_in_iff, gm_w_toInt]; exact ⟨h0, h1⟩
abbrev gm_K : Type := Nat → Nat × Nat
abbrev gm_R : Type := Nat → Int → Nat
abbrev gm_M : Type := Nat → Int → Int
abbrev gm_L : Type := List (Option gm_V)
/-- how a method ends: with a value or none, or a throw of the class with this number -/
abbrev gm_O : Type := Option gm_V ⊕ Nat
abbrev gm_Q : Type := gm_O → Nat → gm_K → gm_R → gm_M → Prop
def gm_uM (M : gm_M) (k : Nat) (j v : Int) : gm_M := fun a b => if a = k ∧ b = j then v else M a b
def gm_uR (R : gm_R) (k : Nat) (j : Int) (v : Nat) : gm_R := fun a b => if a = k ∧ b = j then v else R a b
/-- a new cell: number n + 1, all 0 -/
def gm_nK (K : gm_K) (n kind len : Nat) : gm_K := fun a => if a = n + 1 then (kind, len) else K a
def gm_nM (M : gm_M) (n : Nat) : gm_M := fun a b => if a = n + 1 then 0 else M a b
def gm_nR (R : gm_R) (n : Nat) : gm_R := fun a b => if a = n + 1 then 0 else R a b
/-! instructions in groups -/
def gm_const : Instr → Option gm_V
  | .iconst i => some (gm_vi i)
  | .bipush i => some (gm_vi (gm_wb i))
  | .sipush i => some (gm_vi (gm_ws i))
  | .lconst l => some (gm_vl (l : Nat))
  | .aconst_null => some (gm_vr 0)
  | _ => none
/-- which local is loaded, of which sort (0 int, 1 long, 2 reference) -/
def gm_load : Instr → Option (Nat × Nat)
  | .iload i => some (0, i)
  | .iload_n i => some (0, i)
  | .lload i => some (1, i)
  | .lload_n i => some (1, i)
  | .aload i => some (2, i)
  | .aload_n i => some (2, i)
  | _ => none
def gm_stor : Instr → Option (Nat × Nat)
  | .istore i => some (0, i)
  | .istore_n i => some (0, i)
  | .lstore i => some (1, i)
  | .lstore_n i => some (1, i)
  | .astore i => some (2, i)
  | .astore_n i => some (2, i)
  | _ => none
def gm_sort : gm_V → Nat
  | .inl _ => 0
  | .inr (.inl _) => 1
  | .inr (.inr _) => 2
def gm_cat (v : gm_V) : Nat := if gm_sort v = 1 then 2 else 1
/-- int operations that always have a value: second, first on the stack -/
def gm_bin : Instr → Option (Int → Int → Int)
  | .iadd => some fun x y => x + y
  | .isub => some fun x y => x - y
  | .imul => some fun x y => x * y
  | .iand => some fun x y => (Int32.ofInt x &&& Int32.ofInt y).toInt
  | .ior => some fun x y => (Int32.ofInt x ||| Int32.ofInt y).toInt
  | .ixor => some fun x y => (Int32.ofInt x ^^^ Int32.ofInt y).toInt
  | .ishl => some fun x y => (Int32.ofInt x <<< (Int32.ofInt y &&& 31)).toInt
  | .ishr => some fun x y => (Int32.ofInt x >>> (Int32.ofInt y &&& 31)).toInt
  | .iushr => some fun x y => ((Int32.ofInt x).toUInt32 >>> ((Int32.ofInt y).toUInt32 &&& Int32.toUInt32 31)).toInt32.toInt
  | _ => none
def gm_cmp : ClassFile.Cond → Int → Int → Prop
  | .eq, x, y => gm_w x = gm_w y
  | .ne, x, y => ¬ gm_w x = gm_w y
  | .lt, x, y => gm_w x < gm_w y
  | .ge, x, y => gm_w y ≤ gm_w x
  | .gt, x, y => gm_w y < gm_w x
  | .le, x, y => gm_w x ≤ gm_w y
/-- the locals behind a store -/
def gm_lc (L : gm_L) : Nat → gm_L
  | 0 => L
  | i + 1 => match L[i]? with
    | some (some (.inr (.inl _))) => L.set i none
    | _ => L
def gm_lst (L : gm_L) (j : Nat) (v : gm_V) : gm_L := match v with
  | .inr (.inl _) => ((gm_lc L j).set j (some v)).set (j + 1) none
  | _ => (gm_lc L j).set j (some v)
def gm_div (x y : Int) : Int := Int.tdiv (gm_w x) (gm_w y)
def gm_rem (x y : Int) : Int := Int.tmod (gm_w x) (gm_w y)
/-- long operations: second, first on the stack -/
def gm_lbin : Instr → Option (Int → Int → Int)
  | .land => some fun x y => (Int64.ofInt x &&& Int64.ofInt y).toInt
  | .lor => some fun x y => (Int64.ofInt x ||| Int64.ofInt y).toInt
  | .lxor => some fun x y => (Int64.ofInt x ^^^ Int64.ofInt y).toInt
  | _ => none
/-- a long moved by an int -/
def gm_lsh : Instr → Option (Int → Int → Int)
  | .lshl => some fun x y => (Int64.ofInt x <<< ((Int32.ofInt y).toInt64 &&& 63)).toInt
  | .lushr => some fun x y => ((Int64.ofInt x).toUInt64 >>> ((Int32.ofInt y).toInt64.toUInt64 &&& Int64.toUInt64 63)).toInt64.toInt
  | _ => none
def gm_lcm (x y : Int) : Int := if gm_w6 y < gm_w6 x then 1 else if gm_w6 x = gm_w6 y then 0 else -1
/-- one int to another sort -/
def gm_un : Instr → Option (Int → Int)
  | .ineg => some fun x => - x
  | .i2b => some fun x => gm_wb x
  | _ => none
/-- the answer of a method with that return type -/
def gm_nar : Option FieldType → Int → Int
  | some .boolean, x => gm_w x % 2
  | _, x => x
def gm_tgt (pc : Nat) (off : Int) : Nat := ((pc : Int) + off).toNat
end
section
/-- the exception tables of the methods that have one -/
def gm_hhl : List (Nat × List (Nat × Nat × Nat × Nat)) := [(70, [(0, 8, 11, 13), (0, 8, 14, 15)]), (122, [(0, 8, 11, 13)]), (127, [(0, 9, 12, 13)]), (130, [(0, 10, 13, 28)]), (135, [(0, 12, 15, 28), (0, 12, 19, 13)]), (137, [(0, 10, 13, 28), (0, 10, 17, 37)]), (141, [(0, 10, 13, 28), (0, 10, 17, 37)]), (146, [(0, 10, 13, 28), (0, 10, 17, 13)]), (149, [(0, 10, 13, 28), (0, 10, 17, 13)]), (151, [(0, 10, 13, 28), (0, 10, 17, 13), (0, 10, 21, 15)]), (155, [(0, 10, 13, 28)]), (157, [(0, 9, 12, 28), (0, 9, 15, 57)]), (160, [(0, 9, 12, 13)]), (166, [(0, 14, 17, 28), (0, 14, 21, 13), (0, 14, 25, 37)]), (168, [(0, 10, 13, 28), (0, 10, 17, 13)]), (171, [(0, 10, 13, 28), (0, 10, 17, 13)]), (173, [(0, 10, 13, 28)]), (176, [(0, 9, 12, 28)]), (178, [(0, 9, 12, 28)]), (185, [(0, 12, 15, 28), (0, 12, 19, 13)]), (189, [(0, 14, 17, 28), (0, 14, 21, 13)]), (191, [(0, 10, 13, 28)]), (194, [(0, 19, 22, 28)]), (196, [(0, 8, 11, 13)]), (200, [(0, 12, 15, 28), (0, 12, 19, 13)]), (206, [(0, 12, 15, 28), (0, 12, 19, 13)]), (210, [(0, 10, 13, 28), (0, 10, 17, 13)]), (212, [(0, 10, 13, 13)]), (217, [(0, 10, 13, 13)]), (220, [(0, 10, 13, 28), (0, 10, 17, 13)]), (222, [(0, 9, 12, 13)]), (224, [(0, 10, 13, 13)]), (226, [(0, 10, 13, 28), (0, 10, 17, 13)]), (228, [(0, 10, 13, 28), (0, 10, 17, 13)]), (230, [(0, 9, 12, 13)]), (232, [(0, 10, 13, 37)])]
def gm_hh (mi : Nat) : List (Nat × Nat × Nat × Nat) := (gm_hhl.lookup mi).getD []
end
section
/-! THE ABSTRACT MACHINE'S STATES as states of the machine. -/
theorem gm_lookup_mem {α : Type} (l : List (Nat × α)) (k : Nat) (v : α) (h : l.lookup k = some v) : (k, v) ∈ l := by
  induction l with
  | nil => simp at h
  | cons q l ih =>
    obtain ⟨a, b⟩ := q
    rw [List.lookup_cons] at h
    by_cases hk : k = a
    · subst hk; simp at h; subst h; exact List.mem_cons_self
    · have hk2 : (k == a) = false := by simpa using hk
      rw [hk2] at h
      exact List.mem_cons_of_mem _ (ih h)
theorem gm_at_ok {mi pc : Nat} {i : Instr} (hm : mi < 370) (h : gm_at mi pc = some i) : ∃ len, decode (gm_bc mi) pc = .ok (i, len) ∧ (gm_sw i = false → len = gm_len i) := by
  have h1 := gm_ka_all hm
  unfold gm_at at h
  cases hr : (gm_cd mi)[pc / 32]? with
  | none => rw [hr] at h; simp at h
  | some r =>
    rw [hr] at h
    have h2 := gm_lookup_mem _ _ _ h
    have h3 : r.all (gm_ck1 (gm_bc mi)) = true := List.all_eq_true.mp h1 r (List.mem_of_getElem? hr)
    have h4 : gm_ck1 (gm_bc mi) (pc, i) = true := List.all_eq_true.mp h3 _ h2
    unfold gm_ck1 at h4
    dsimp only at h4
    cases hd : decode (gm_bc mi) pc with
    | error e => rw [hd] at h4; cases h4
    | ok x =>
      rw [hd] at h4
      obtain ⟨i', len⟩ := x
      simp only [Bool.and_eq_true, Bool.or_eq_true, decide_eq_true_eq] at h4
      obtain ⟨rfl, h5⟩ := h4
      refine ⟨len, rfl, fun h6 => ?_⟩
      rcases h5 with h5 | h5
      · rw [h6] at h5; cases h5
      · exact h5
def gm_rf (α : Nat → Nat) : Nat → Value
  | 0 => .null
  | k + 1 => .ref (α (k + 1))
def gm_ro (α : Nat → Nat) : Nat → Option Nat
  | 0 => none
  | k + 1 => some (α (k + 1))
theorem gm_rf_ro (α : Nat → Nat) (k : Nat) : va_rf (gm_ro α k) = gm_rf α k := by cases k <;> rfl
/-- an object's fields -/
def gm_fs (α : Nat → Nat) (R : gm_R) (M : gm_M) (k c : Nat) : List Value := (List.range (gm_nf c)).map fun j => if gm_isr c j = true then gm_rf α (R k j) else .int (Int32.ofInt (M k j))
/-- a cell, by its kind: 0 int[], 1 byte[], 2 long[], 3 State[], c + 4 an object of class c -/
def gm_en (ti : Nat → ClassId) (α : Nat → Nat) (K : gm_K) (R : gm_R) (M : gm_M) (k : Nat) : va_E :=
  match (K k).1 with
  | 0 => .inl (ti 0, (K k).2, .inl fun j => Int32.ofInt (M k j))
  | 1 => .inl (ti 1, (K k).2, .inl fun j => Int32.ofInt (M k j))
  | 2 => .inl (ti 2, (K k).2, .inr (.inl fun j => Int64.ofInt (M k j)))
  | 3 => .inl (ti 3, (K k).2, .inr (.inr (.inr (.inr fun j => gm_ro α (R k j)))))
  | c + 4 => .inr (c, gm_fs α R M k c)
def gm_wl (ti : Nat → ClassId) (α : Nat → Nat) (n : Nat) (K : gm_K) (R : gm_R) (M : gm_M) : va_W := (List.range n).map fun i => (α (i + 1), gm_en ti α K R M (i + 1))
def gm_ty (ti : Nat → ClassId) : List (ClassId × FieldType) := [(ti 0, .int), (ti 1, .byte), (ti 2, .long), (ti 3, .object "GlacierMail$State")]
theorem gm_wl_at {ti : Nat → ClassId} {α : Nat → Nat} {n : Nat} {K : gm_K} {R : gm_R} {M : gm_M} {k : Nat} (h1 : 1 ≤ k) (h2 : k ≤ n) : (gm_wl ti α n K R M)[k - 1]? = some (α k, gm_en ti α K R M k) := by
  unfold gm_wl
  rw [List.getElem?_map, List.getElem?_range (by omega)]
  simp only [Option.map_some]
  rw [show k - 1 + 1 = k by omega]
theorem gm_wl_len {ti : Nat → ClassId} {α : Nat → Nat} {n : Nat} {K : gm_K} {R : gm_R} {M : gm_M} : (gm_wl ti α n K R M).length = n := by simp [gm_wl]
theorem gm_wl_ext {ti : Nat → ClassId} {α α' : Nat → Nat} {n : Nat} {K K' : gm_K} {R R' : gm_R} {M M' : gm_M} (h : ∀ k, 1 ≤ k → k ≤ n → α k = α' k ∧ gm_en ti α K R M k = gm_en ti α' K' R' M' k) : gm_wl ti α n K R M = gm_wl ti α' n K' R' M' := by
  unfold gm_wl
  apply List.map_congr_left
  intro i hi
  have hi2 := List.mem_range.mp hi
  obtain ⟨e1, e2⟩ := h (i + 1) (by omega) (by omega)
  rw [e1, e2]
/-- the world with one cell changed -/
theorem gm_wl_set {ti : Nat → ClassId} {α : Nat → Nat} {n : Nat} {K : gm_K} {R R' : gm_R} {M M' : gm_M} {k : Nat} {x : va_E} (h1 : 1 ≤ k) (h2 : k ≤ n) (hx : gm_en ti α K R' M' k = x) (hne : ∀ k', k' ≠ k → gm_en ti α K R' M' k' = gm_en ti α K R M k') : (gm_wl ti α n K R M).set (k - 1) (α k, x) = gm_wl ti α n K R' M' := by
  apply List.ext_getElem?
  intro i
  by_cases hi : i < n
  · rw [List.getElem?_set]
    have e1 := gm_wl_at (ti := ti) (α := α) (n := n) (K := K) (R := R) (M := M) (k := i + 1) (by omega) (by omega)
    have e2 := gm_wl_at (ti := ti) (α := α) (n := n) (K := K) (R := R') (M := M') (k := i + 1) (by omega) (by omega)
    rw [show i + 1 - 1 = i by omega] at e1 e2
    rw [e1, e2]
    by_cases hk : k - 1 = i
    · have : i + 1 = k := by omega
      rw [if_pos hk, if_pos (by rw [gm_wl_len]; omega), this, hx]
    · rw [if_neg hk, hne (i + 1) (by omega)]
  · rw [List.getElem?_eq_none (by rw [List.length_set, gm_wl_len]; omega), List.getElem?_eq_none (by rw [gm_wl_len]; omega)]
/-- a value of the abstract machine, a value of the machine -/
def gm_cv (α adK : Nat → Nat) (n : Nat) : gm_V → Value → Prop
  | .inl x, w => w = .int (Int32.ofInt x)
  | .inr (.inl x), w => w = .long (Int64.ofInt x)
  | .inr (.inr (.inl k)), w => w = gm_rf α k ∧ k ≤ n
  | .inr (.inr (.inr c)), w => ∃ a, w = .ref a ∧ (c < 3000 → a = adK c)
def gm_lr (α adK : Nat → Nat) (n nL : Nat) (L : gm_L) (ls : Array Slot) : Prop := L.length = nL ∧ ∃ l, lv_has ls nL l ∧ ∀ (i : Nat) (v : gm_V), L[i]? = some (some v) → ∃ w, gm_cv α adK n v w ∧ (i, w) ∈ l
def gm_sr (α adK : Nat → Nat) (n : Nat) : List gm_V → List Value → Prop
  | [], ws => ws = []
  | v :: vs, ws => ∃ w ws', ws = w :: ws' ∧ gm_cv α adK n v w ∧ gm_sr α adK n vs ws'
def gm_T : List Jvm.Cond := lw_tbl.filter goodWord
theorem gm_T_in {w : Jvm.Cond} {i : Nat} (h : lw_tbl[i]? = some w) (hg : goodWord w = true) : w ∈ gm_T := List.mem_filter.mpr ⟨List.mem_of_getElem? h, hg⟩
theorem gm_T_good : GoodIn gm_T gm_T := fun w h => ⟨h, good_of_word (List.mem_filter.mp h).2⟩
/-- the classes of what is thrown -/
def gm_xn (x : Nat) : String := (["java/lang/IllegalArgumentException", "java/lang/UnsupportedOperationException", "java/lang/IllegalStateException", "java/lang/IndexOutOfBoundsException", "java/util/NoSuchElementException"][x]?).getD ""
/-- the links to a nest mate's private constructor -/
def gm_nst : List (String × Nat × MethodName × String) := [("GlacierMail", 22, ⟨"GlacierMail$State", "<init>", "()V"⟩, "GlacierMail"), ("GlacierMail$History", 24, ⟨"GlacierMail$State", "<init>", "()V"⟩, "GlacierMail")]
/-- constructors that are said to be declared where they are -/
def gm_dcs : List MethodName := [⟨"java/lang/RuntimeException", "<init>", "(Ljava/lang/String;)V"⟩, ⟨"java/lang/Exception", "<init>", "(Ljava/lang/String;)V"⟩, ⟨"java/lang/Throwable", "<init>", "(Ljava/lang/String;)V"⟩]
/-- the strings and statics that every method may meet: the script among them -/
def gm_Ev (X : Int → Int) (LX : Nat) (adK adV : Nat → Nat) (A : Nat → Prop) (s : State) : Prop :=
  (∀ i, i < gm_sl.length → vk_S 1 [gm_sl.getD i 0] [gm_sb.getD i []] (fun _ => adK i) (fun _ => adV i) A s s.heap) ∧
  (∀ q ∈ gm_sr_, vk_R q.1 q.2.1 q.2.2.1 (adK q.2.2.2) s) ∧
  vx_Zq "java/lang/Throwable" "UNASSIGNED_STACK" "[Ljava/lang/StackTraceElement;" A s s.heap ∧ vx_Zq "java/lang/Throwable" "SUPPRESSED_SENTINEL" "Ljava/util/List;" A s s.heap ∧
  va_Z "java/lang/String" "COMPACT_STRINGS" "Z" (.int 1) A s s.heap ∧
  va_X (adK 2000) LX (fun j => Int32.ofInt (X j)) s s.heap ∧ adK 2000 < s.heap.size ∧ ¬ A (adK 2000) ∧
  va_AO "GlacierMail$State" s ∧ (∀ q ∈ gm_nst, va_Nw (.methodLinkNest q.1 q.2.1 q.2.2.1 q.2.2.2) s) ∧ va_Nw (.castable "[I" "java/lang/Cloneable") s ∧ (∀ x y, x < 5 → y < 5 → if x = y then va_Nw (.castable (gm_xn x) (gm_xn y)) s else va_Nc (gm_xn x) (gm_xn y) s) ∧ ∀ y ∈ gm_dcs, va_Nw (.declares y) s
def gm_Cx (mi : Nat) (p : Program) (l : Launch) (s : State) (m : MethodId) (args : Array Value) (meth : Method) (c : Code) : Prop :=
  p.tables.exec = Jvm.exec ∧ c.code = gm_bc mi ∧ c.maxLocals = gm_ml mi ∧ s.vm.findClass (gm_rn (gm_ow mi)) = some m.cls ∧ meth.sig.returnType = gm_rt mi ∧ meth.locks = false ∧ (∀ w ∈ gm_T, w.before args s = true) ∧ meth.name = (gm_mn mi).name ∧ l.stackTraces = false ∧ mi < 370 ∧ c.exceptionTable.toList = tableOf (gm_hh mi)
/-- references go to cells that are there -/
def gm_Rv (n : Nat) (R : gm_R) : Prop := ∀ (k : Nat) (j : Int), R k j ≤ n
def gm_Rl (D : va_G) (ti : Nat → ClassId) (α : Nat → Nat) (A : Nat → Prop) (s : State) (H : Heap) (locs : List Loc) (n : Nat) (K : gm_K) (R : gm_R) (M : gm_M) : Prop :=
  va_K D gm_cs (gm_ty ti) s ∧ va_P D gm_cs (gm_wl ti α n K R M) H ∧ va_D A (gm_wl ti α n K R M) ∧ va_S A s.heap H locs ∧ gm_Rv n R
def gm_xt (α0 : Nat → Nat) (n0 : Nat) (α : Nat → Nat) (n : Nat) : Prop := n0 ≤ n ∧ ∀ k, 1 ≤ k → k ≤ n0 → α k = α0 k
def gm_ov (α adK : Nat → Nat) (n : Nat) : Option gm_V → Option Value → Prop
  | none, v => v = none
  | some u, v => ∃ w, v = some w ∧ gm_cv α adK n u w
def gm_QC (D : va_G) (ti : Nat → ClassId) (adK : Nat → Nat) (A : Nat → Prop) (α0 : Nat → Nat) (n0 : Nat) (Q : gm_Q) : Array Value → State → Outcome → State → Prop := fun _ st o t =>
  (∃ (v : Option Value) (u : Option gm_V) (α : Nat → Nat) (n : Nat) (K : gm_K) (R : gm_R) (M : gm_M), o = .returned v ∧ gm_ov α adK n u v ∧ Q (.inl u) n K R M ∧ gm_xt α0 n0 α n ∧ va_K D gm_cs (gm_ty ti) t ∧ va_P D gm_cs (gm_wl ti α n K R M) t.heap ∧ va_D A (gm_wl ti α n K R M) ∧ gm_Rv n R) ∧ va_F A st t
def gm_XC (D : va_G) (ti : Nat → ClassId) (A : Nat → Prop) (α0 : Nat → Nat) (n0 : Nat) (Q : gm_Q) : String → State → State → Prop := fun E st t =>
  (∃ (x : Nat) (α : Nat → Nat) (n : Nat) (K : gm_K) (R : gm_R) (M : gm_M), E = gm_xn x ∧ x < 5 ∧ Q (.inr x) n K R M ∧ gm_xt α0 n0 α n ∧ va_K D gm_cs (gm_ty ti) t ∧ va_P D gm_cs (gm_wl ti α n K R M) t.heap ∧ va_D A (gm_wl ti α n K R M) ∧ gm_Rv n R) ∧ va_F A st t
/-- THE JUDGEMENT: from this state of a frame the method comes to an end with Q; it needs d more frames, bc cells, bs slots at most -/
def gm_Wp (X : Int → Int) (LX : Nat) (d bc bs mi pc : Nat) (L : gm_L) (st : List gm_V) (n : Nat) (K : gm_K) (R : gm_R) (M : gm_M) (Q : gm_Q) : Prop :=
  ∀ (p : Program) (l : Launch) (e : Env) (Rm : Room) (s : State) (m : MethodId) (args : Array Value) (below : List Frame) (meth : Method) (c : Code) (D : va_G) (ti : Nat → ClassId) (adK adV : Nat → Nat) (A : Nat → Prop) (α0 : Nat → Nat) (n0 mc ms : Nat),
    gm_Cx mi p l s m args meth c → gm_Ev X LX adK adV A s → d ≤ Rm.frames → d * 300 ≤ Rm.locals → mc ≤ Rm.cells → ms ≤ Rm.slots → (∀ q, s.heap.size ≤ q → A q) →
    ∀ (α : Nat → Nat) (H : Heap) (locs : List Loc) (cells slots : Nat) (ls : Array Slot) (sv : List Value), gm_xt α0 n0 α n → cells + bc ≤ mc → slots + bs ≤ ms → gm_Rl D ti α A s H locs n K R M → gm_lr α adK n (gm_ml mi) L ls → gm_sr α adK n st sv →
      W p l e Rm s m args below meth c H locs cells slots (vx_MQ below (gm_QC D ti adK A α0 n0 Q) (gm_XC D ti A α0 n0 Q) args s mc ms A) (F0 m pc ls sv)
end
section
/-! FIELDS, laid by wip/am/gen_tables.py: (number of the class that owns the code, place in its pool, number of the object's class) to the field's number. -/
def gm_fl : List (Nat × Nat × Nat × Nat × String × Nat × Nat) := [(2, 15, 2, 0, "GlacierMail$Rows", 203, 0), (2, 18, 2, 1, "GlacierMail$Rows", 204, 0), (2, 21, 2, 2, "GlacierMail$Rows", 205, 0), (2, 9, 2, 3, "GlacierMail$Rows", 206, 0), (1, 9, 1, 0, "GlacierMail$State", 218, 0), (4, 82, 1, 0, "GlacierMail$State", 219, 0), (9, 92, 1, 0, "GlacierMail$State", 220, 0), (0, 351, 1, 0, "GlacierMail$State", 221, 0), (1, 15, 1, 1, "GlacierMail$State", 222, 0), (4, 85, 1, 1, "GlacierMail$State", 223, 0), (9, 97, 1, 1, "GlacierMail$State", 224, 0), (7, 65, 1, 1, "GlacierMail$State", 225, 0), (0, 226, 1, 1, "GlacierMail$State", 226, 0), (1, 18, 1, 2, "GlacierMail$State", 227, 0), (9, 99, 1, 2, "GlacierMail$State", 228, 0), (7, 85, 1, 2, "GlacierMail$State", 229, 0), (0, 426, 1, 2, "GlacierMail$State", 230, 0), (1, 21, 1, 3, "GlacierMail$State", 231, 0), (7, 88, 1, 3, "GlacierMail$State", 232, 0), (9, 136, 1, 3, "GlacierMail$State", 233, 0), (0, 429, 1, 3, "GlacierMail$State", 234, 0), (1, 24, 1, 4, "GlacierMail$State", 235, 0), (9, 95, 1, 4, "GlacierMail$State", 236, 0), (4, 126, 1, 4, "GlacierMail$State", 237, 0), (0, 405, 1, 4, "GlacierMail$State", 238, 0), (1, 27, 1, 5, "GlacierMail$State", 239, 0), (4, 50, 1, 5, "GlacierMail$State", 240, 0), (9, 138, 1, 5, "GlacierMail$State", 241, 0), (0, 432, 1, 5, "GlacierMail$State", 242, 0), (1, 30, 1, 6, "GlacierMail$State", 243, 0), (8, 44, 1, 6, "GlacierMail$State", 244, 0), (9, 143, 1, 6, "GlacierMail$State", 245, 0), (4, 129, 1, 6, "GlacierMail$State", 246, 0), (0, 269, 1, 6, "GlacierMail$State", 247, 0), (1, 33, 1, 7, "GlacierMail$State", 248, 0), (0, 128, 1, 7, "GlacierMail$State", 249, 0), (1, 36, 1, 8, "GlacierMail$State", 250, 0), (0, 146, 1, 8, "GlacierMail$State", 251, 0), (4, 93, 1, 8, "GlacierMail$State", 252, 0), (1, 45, 1, 9, "GlacierMail$State", 253, 0), (4, 63, 1, 9, "GlacierMail$State", 254, 0), (9, 101, 1, 9, "GlacierMail$State", 255, 0), (0, 423, 1, 9, "GlacierMail$State", 256, 0), (1, 49, 1, 10, "GlacierMail$State", 257, 0), (4, 88, 1, 10, "GlacierMail$State", 258, 0), (7, 103, 1, 10, "GlacierMail$State", 259, 0), (9, 140, 1, 10, "GlacierMail$State", 260, 0), (0, 303, 1, 10, "GlacierMail$State", 261, 0), (1, 52, 1, 11, "GlacierMail$State", 262, 0), (8, 31, 1, 11, "GlacierMail$State", 263, 0), (7, 62, 1, 11, "GlacierMail$State", 264, 0), (9, 146, 1, 11, "GlacierMail$State", 265, 0), (0, 183, 1, 11, "GlacierMail$State", 266, 0), (1, 55, 1, 12, "GlacierMail$State", 267, 0), (7, 42, 1, 12, "GlacierMail$State", 268, 0), (9, 157, 1, 12, "GlacierMail$State", 269, 0), (0, 203, 1, 12, "GlacierMail$State", 270, 0), (1, 58, 1, 13, "GlacierMail$State", 271, 0), (9, 164, 1, 13, "GlacierMail$State", 272, 0), (0, 344, 1, 13, "GlacierMail$State", 273, 0), (1, 61, 1, 14, "GlacierMail$State", 274, 0), (0, 416, 1, 14, "GlacierMail$State", 275, 0), (3, 11, 3, 0, "GlacierMail$History", 316, 0), (3, 17, 3, 1, "GlacierMail$History", 317, 0), (3, 21, 3, 2, "GlacierMail$History", 318, 0), (4, 34, 4, 0, "GlacierMail$Ice", 363, 0), (4, 9, 4, 1, "GlacierMail$Ice", 364, 0), (4, 15, 4, 2, "GlacierMail$Ice", 365, 0), (4, 18, 4, 3, "GlacierMail$Ice", 366, 0), (4, 23, 4, 4, "GlacierMail$Ice", 367, 0), (4, 26, 4, 5, "GlacierMail$Ice", 368, 0), (4, 30, 4, 6, "GlacierMail$Ice", 369, 0), (7, 34, 5, 0, "GlacierMail$Way", 392, 0), (7, 38, 5, 1, "GlacierMail$Way", 393, 0), (7, 9, 5, 2, "GlacierMail$Way", 394, 0), (7, 15, 5, 3, "GlacierMail$Way", 395, 0), (7, 19, 5, 4, "GlacierMail$Way", 396, 0), (7, 22, 5, 5, "GlacierMail$Way", 397, 0), (0, 223, 5, 5, "GlacierMail$Way", 398, 0), (7, 25, 5, 6, "GlacierMail$Way", 399, 0), (0, 209, 5, 6, "GlacierMail$Way", 400, 0), (7, 28, 5, 7, "GlacierMail$Way", 401, 0), (0, 444, 5, 7, "GlacierMail$Way", 402, 0), (7, 31, 5, 8, "GlacierMail$Way", 403, 0), (0, 312, 5, 8, "GlacierMail$Way", 404, 0), (8, 23, 6, 0, "GlacierMail$Answers", 432, 0), (8, 27, 6, 1, "GlacierMail$Answers", 433, 0), (8, 14, 6, 2, "GlacierMail$Answers", 434, 0), (8, 20, 6, 3, "GlacierMail$Answers", 435, 0), (11, 30, 8, 0, "GlacierMail$Words", 460, 0), (11, 34, 8, 1, "GlacierMail$Words", 461, 0), (11, 9, 8, 2, "GlacierMail$Words", 462, 0), (11, 15, 8, 3, "GlacierMail$Words", 463, 0), (11, 18, 8, 4, "GlacierMail$Words", 464, 0), (11, 21, 8, 5, "GlacierMail$Words", 465, 0), (11, 24, 8, 6, "GlacierMail$Words", 466, 0), (10, 31, 8, 6, "GlacierMail$Words", 467, 0), (12, 102, 8, 6, "GlacierMail$Words", 468, 0), (11, 27, 8, 7, "GlacierMail$Words", 469, 0), (12, 116, 8, 7, "GlacierMail$Words", 470, 0), (9, 9, 7, 2, "GlacierMail$ValleyReader", 488, 0), (10, 14, 7, 0, "GlacierMail$TextReader", 489, 0), (10, 14, 9, 0, "GlacierMail$TextReader", 489, 0), (9, 15, 7, 0, "GlacierMail$ValleyReader", 490, 491), (12, 47, 9, 0, "GlacierMail$LawReader", 492, 493), (10, 20, 7, 1, "GlacierMail$TextReader", 494, 0), (10, 20, 9, 1, "GlacierMail$TextReader", 494, 0), (12, 14, 9, 2, "GlacierMail$LawReader", 510, 0), (12, 20, 9, 3, "GlacierMail$LawReader", 511, 0), (12, 24, 9, 4, "GlacierMail$LawReader", 512, 0), (0, 9, 0, 0, "GlacierMail", 524, 0), (0, 13, 0, 1, "GlacierMail", 525, 0), (0, 17, 0, 2, "GlacierMail", 526, 0), (0, 23, 0, 3, "GlacierMail", 527, 0), (0, 27, 0, 4, "GlacierMail", 528, 0), (0, 30, 0, 5, "GlacierMail", 529, 0), (0, 33, 0, 6, "GlacierMail", 530, 0), (0, 40, 0, 7, "GlacierMail", 531, 0), (0, 49, 0, 8, "GlacierMail", 532, 0), (0, 58, 0, 9, "GlacierMail", 533, 0), (0, 62, 0, 10, "GlacierMail", 534, 0), (0, 70, 0, 11, "GlacierMail", 535, 0), (0, 79, 0, 12, "GlacierMail", 536, 0), (0, 88, 0, 13, "GlacierMail", 537, 0), (0, 97, 0, 14, "GlacierMail", 538, 0), (0, 101, 0, 15, "GlacierMail", 539, 0), (0, 104, 0, 16, "GlacierMail", 540, 0), (0, 107, 0, 17, "GlacierMail", 541, 0), (13, 14, 10, 0, "GlacierMail$Law", 1192, 0), (0, 439, 10, 0, "GlacierMail$Law", 1193, 0), (13, 22, 10, 1, "GlacierMail$Law", 1194, 0), (20, 3, 11, 0, "GlacierMailModel", 1691, 0), (20, 13, 11, 1, "GlacierMailModel", 1692, 0), (20, 17, 11, 2, "GlacierMailModel", 1693, 0), (20, 20, 11, 3, "GlacierMailModel", 1694, 0), (20, 23, 11, 4, "GlacierMailModel", 1695, 0), (20, 75, 11, 5, "GlacierMailModel", 1696, 0), (20, 79, 11, 6, "GlacierMailModel", 1697, 0), (20, 26, 11, 7, "GlacierMailModel", 1698, 0), (20, 103, 11, 8, "GlacierMailModel", 1699, 0), (20, 106, 11, 9, "GlacierMailModel", 1700, 0), (20, 109, 11, 10, "GlacierMailModel", 1701, 0), (20, 116, 11, 11, "GlacierMailModel", 1702, 0), (20, 251, 11, 12, "GlacierMailModel", 1703, 0), (20, 30, 11, 13, "GlacierMailModel", 1704, 0), (20, 33, 11, 14, "GlacierMailModel", 1705, 0), (20, 224, 11, 15, "GlacierMailModel", 1706, 0), (20, 36, 11, 16, "GlacierMailModel", 1707, 0), (20, 303, 11, 17, "GlacierMailModel", 1708, 0), (20, 306, 11, 18, "GlacierMailModel", 1709, 0), (20, 309, 11, 19, "GlacierMailModel", 1710, 0), (20, 312, 11, 20, "GlacierMailModel", 1711, 0), (20, 315, 11, 21, "GlacierMailModel", 1712, 0), (20, 318, 11, 22, "GlacierMailModel", 1713, 0), (20, 321, 11, 23, "GlacierMailModel", 1714, 0), (20, 39, 11, 24, "GlacierMailModel", 1715, 0), (20, 42, 11, 25, "GlacierMailModel", 1716, 0), (20, 331, 11, 26, "GlacierMailModel", 1717, 0), (20, 45, 11, 27, "GlacierMailModel", 1718, 0), (20, 48, 11, 28, "GlacierMailModel", 1719, 0), (20, 368, 11, 29, "GlacierMailModel", 1720, 0), (20, 365, 11, 30, "GlacierMailModel", 1721, 0), (20, 51, 11, 31, "GlacierMailModel", 1722, 0), (20, 54, 11, 32, "GlacierMailModel", 1723, 0), (20, 57, 11, 33, "GlacierMailModel", 1724, 0), (20, 60, 11, 34, "GlacierMailModel", 1725, 0), (20, 63, 11, 35, "GlacierMailModel", 1726, 0), (20, 477, 11, 36, "GlacierMailModel", 1727, 0), (20, 66, 11, 37, "GlacierMailModel", 1728, 0), (20, 69, 11, 38, "GlacierMailModel", 1729, 0)]
def gm_Tl : List u_T := [gm_T0, gm_T1, gm_T2, gm_T3, gm_T4, gm_T5, gm_T6, gm_T7, gm_T8, gm_T9, gm_T10, gm_T11]
def gm_Tf (ci : Nat) : u_T := (gm_Tl[ci]?).getD gm_T0
def gm_fck (q : Nat × Nat × Nat × Nat × String × Nat × Nat) : Bool := match q with
  | (o, ix, ci, j, ref, p1, p2) => decide (j < gm_nf ci) && decide (lw_tbl[p1]? = some (.fieldLink (gm_rn o) ix ref (gm_Tf ci j).2.1 (gm_Tf ci j).2.2.1)) && (decide (ref = (gm_Tf ci j).1) || decide (lw_tbl[p2]? = some (.sameField ref (gm_Tf ci j).1 (gm_Tf ci j).2.1 (gm_Tf ci j).2.2.1)))
theorem gm_fl_ok : gm_fl.all gm_fck = true := by decide +kernel
def gm_fo : List (List ((Nat × Nat) × Nat)) := [[((351, 1), 0), ((226, 1), 1), ((426, 1), 2), ((429, 1), 3), ((405, 1), 4), ((432, 1), 5), ((269, 1), 6), ((128, 1), 7), ((146, 1), 8), ((423, 1), 9), ((303, 1), 10), ((183, 1), 11), ((203, 1), 12), ((344, 1), 13), ((416, 1), 14), ((223, 5), 5), ((209, 5), 6), ((444, 5), 7), ((312, 5), 8), ((9, 0), 0), ((13, 0), 1), ((17, 0), 2), ((23, 0), 3), ((27, 0), 4), ((30, 0), 5), ((33, 0), 6), ((40, 0), 7), ((49, 0), 8), ((58, 0), 9), ((62, 0), 10), ((70, 0), 11), ((79, 0), 12), ((88, 0), 13), ((97, 0), 14), ((101, 0), 15), ((104, 0), 16), ((107, 0), 17), ((439, 10), 0)], [((9, 1), 0), ((15, 1), 1), ((18, 1), 2), ((21, 1), 3), ((24, 1), 4), ((27, 1), 5), ((30, 1), 6), ((33, 1), 7), ((36, 1), 8), ((45, 1), 9), ((49, 1), 10), ((52, 1), 11), ((55, 1), 12), ((58, 1), 13), ((61, 1), 14)], [((15, 2), 0), ((18, 2), 1), ((21, 2), 2), ((9, 2), 3)], [((11, 3), 0), ((17, 3), 1), ((21, 3), 2)], [((82, 1), 0), ((85, 1), 1), ((126, 1), 4), ((50, 1), 5), ((129, 1), 6), ((93, 1), 8), ((63, 1), 9), ((88, 1), 10), ((34, 4), 0), ((9, 4), 1), ((15, 4), 2), ((18, 4), 3), ((23, 4), 4), ((26, 4), 5), ((30, 4), 6)], [], [], [((65, 1), 1), ((85, 1), 2), ((88, 1), 3), ((103, 1), 10), ((62, 1), 11), ((42, 1), 12), ((34, 5), 0), ((38, 5), 1), ((9, 5), 2), ((15, 5), 3), ((19, 5), 4), ((22, 5), 5), ((25, 5), 6), ((28, 5), 7), ((31, 5), 8)], [((44, 1), 6), ((31, 1), 11), ((23, 6), 0), ((27, 6), 1), ((14, 6), 2), ((20, 6), 3)], [((92, 1), 0), ((97, 1), 1), ((99, 1), 2), ((136, 1), 3), ((95, 1), 4), ((138, 1), 5), ((143, 1), 6), ((101, 1), 9), ((140, 1), 10), ((146, 1), 11), ((157, 1), 12), ((164, 1), 13), ((9, 7), 2), ((15, 7), 0)], [((31, 8), 6), ((14, 7), 0), ((14, 9), 0), ((20, 7), 1), ((20, 9), 1)], [((30, 8), 0), ((34, 8), 1), ((9, 8), 2), ((15, 8), 3), ((18, 8), 4), ((21, 8), 5), ((24, 8), 6), ((27, 8), 7)], [((102, 8), 6), ((116, 8), 7), ((47, 9), 0), ((14, 9), 2), ((20, 9), 3), ((24, 9), 4)], [((14, 10), 0), ((22, 10), 1)], [], [], [], [], [], [], [((3, 11), 0), ((13, 11), 1), ((17, 11), 2), ((20, 11), 3), ((23, 11), 4), ((75, 11), 5), ((79, 11), 6), ((26, 11), 7), ((103, 11), 8), ((106, 11), 9), ((109, 11), 10), ((116, 11), 11), ((251, 11), 12), ((30, 11), 13), ((33, 11), 14), ((224, 11), 15), ((36, 11), 16), ((303, 11), 17), ((306, 11), 18), ((309, 11), 19), ((312, 11), 20), ((315, 11), 21), ((318, 11), 22), ((321, 11), 23), ((39, 11), 24), ((42, 11), 25), ((331, 11), 26), ((45, 11), 27), ((48, 11), 28), ((368, 11), 29), ((365, 11), 30), ((51, 11), 31), ((54, 11), 32), ((57, 11), 33), ((60, 11), 34), ((63, 11), 35), ((477, 11), 36), ((66, 11), 37), ((69, 11), 38)]]
def gm_fld (o ix ci : Nat) : Option Nat := ((gm_fo[o]?).getD []).lookup (ix, ci)
theorem gm_fo_ok : (List.range gm_fo.length).all (fun o => ((gm_fo[o]?).getD []).all (fun q => gm_fl.any (fun r => decide ((r.1, r.2.1, r.2.2.1, r.2.2.2.1) = (o, q.1.1, q.1.2, q.2))))) = true := by decide +kernel
theorem gm_cw0 : (u_ws "GlacierMail" gm_T0 18).all (fun w => decide (w ∈ lw_tbl) && goodWord w) = true := by decide +kernel
theorem gm_cw1 : (u_ws "GlacierMail$State" gm_T1 15).all (fun w => decide (w ∈ lw_tbl) && goodWord w) = true := by decide +kernel
theorem gm_cw2 : (u_ws "GlacierMail$Rows" gm_T2 4).all (fun w => decide (w ∈ lw_tbl) && goodWord w) = true := by decide +kernel
theorem gm_cw3 : (u_ws "GlacierMail$History" gm_T3 3).all (fun w => decide (w ∈ lw_tbl) && goodWord w) = true := by decide +kernel
theorem gm_cw4 : (u_ws "GlacierMail$Ice" gm_T4 7).all (fun w => decide (w ∈ lw_tbl) && goodWord w) = true := by decide +kernel
theorem gm_cw5 : (u_ws "GlacierMail$Way" gm_T5 9).all (fun w => decide (w ∈ lw_tbl) && goodWord w) = true := by decide +kernel
theorem gm_cw6 : (u_ws "GlacierMail$Answers" gm_T6 4).all (fun w => decide (w ∈ lw_tbl) && goodWord w) = true := by decide +kernel
theorem gm_cw7 : (u_ws "GlacierMail$ValleyReader" gm_T7 3).all (fun w => decide (w ∈ lw_tbl) && goodWord w) = true := by decide +kernel
theorem gm_cw8 : (u_ws "GlacierMail$Words" gm_T8 8).all (fun w => decide (w ∈ lw_tbl) && goodWord w) = true := by decide +kernel
theorem gm_cw9 : (u_ws "GlacierMail$LawReader" gm_T9 5).all (fun w => decide (w ∈ lw_tbl) && goodWord w) = true := by decide +kernel
theorem gm_cw10 : (u_ws "GlacierMail$Law" gm_T10 2).all (fun w => decide (w ∈ lw_tbl) && goodWord w) = true := by decide +kernel
theorem gm_cw11 : (u_ws "GlacierMailModel" gm_T11 39).all (fun w => decide (w ∈ lw_tbl) && goodWord w) = true := by decide +kernel
theorem gm_cs_ok : ∀ ci C T N, gm_cs[ci]? = some (C, T, N) → (∀ w ∈ u_ws C T N, w ∈ gm_T) ∧ N = gm_nf ci ∧ T = gm_Tf ci ∧ ci < 12 ∧ (∀ a, a < N → ∀ b, b < N → a ≠ b → (T a).2.1 ≠ (T b).2.1) ∧ ∃ ty : Nat → FieldType, gm_tyl[ci]? = some ty ∧ (∀ k, k < N → parseFieldDescriptor (T k).2.2.1 = some (ty k))  := by
  intro ci C T N h
  have key : ∀ {ws : List Jvm.Cond}, ws.all (fun w => decide (w ∈ lw_tbl) && goodWord w) = true → ∀ w ∈ ws, w ∈ gm_T := fun h w hw => by
    have h1 := List.all_eq_true.mp h w hw
    simp only [Bool.and_eq_true, decide_eq_true_eq] at h1
    exact List.mem_filter.mpr h1
  match ci, h with
  | 0, h => cases h; exact ⟨key gm_cw0, rfl, rfl, by omega, gm_nm0, gm_ty0, rfl, gm_tk0⟩
  | 1, h => cases h; exact ⟨key gm_cw1, rfl, rfl, by omega, gm_nm1, gm_ty1, rfl, gm_tk1⟩
  | 2, h => cases h; exact ⟨key gm_cw2, rfl, rfl, by omega, gm_nm2, gm_ty2, rfl, gm_tk2⟩
  | 3, h => cases h; exact ⟨key gm_cw3, rfl, rfl, by omega, gm_nm3, gm_ty3, rfl, gm_tk3⟩
  | 4, h => cases h; exact ⟨key gm_cw4, rfl, rfl, by omega, gm_nm4, gm_ty4, rfl, gm_tk4⟩
  | 5, h => cases h; exact ⟨key gm_cw5, rfl, rfl, by omega, gm_nm5, gm_ty5, rfl, gm_tk5⟩
  | 6, h => cases h; exact ⟨key gm_cw6, rfl, rfl, by omega, gm_nm6, gm_ty6, rfl, gm_tk6⟩
  | 7, h => cases h; exact ⟨key gm_cw7, rfl, rfl, by omega, gm_nm7, gm_ty7, rfl, gm_tk7⟩
  | 8, h => cases h; exact ⟨key gm_cw8, rfl, rfl, by omega, gm_nm8, gm_ty8, rfl, gm_tk8⟩
  | 9, h => cases h; exact ⟨key gm_cw9, rfl, rfl, by omega, gm_nm9, gm_ty9, rfl, gm_tk9⟩
  | 10, h => cases h; exact ⟨key gm_cw10, rfl, rfl, by omega, gm_nm10, gm_ty10, rfl, gm_tk10⟩
  | 11, h => cases h; exact ⟨key gm_cw11, rfl, rfl, by omega, gm_nm11, gm_ty11, rfl, gm_tk11⟩
  | n + 12, h => simp [gm_cs] at h
/-- ints and longs of the pools: class, place, value, long or not, word -/
def gm_il : List (Nat × Nat × Int × Nat × Nat) := [(4, 56, 1103515245, 0, 340), (4, 116, -1, 1, 661), (4, 121, 31, 1, 688), (14, 265, 1431655765, 0, 719), (14, 266, 858993459, 0, 720), (14, 267, 252645135, 0, 721), (20, 330, 1103515245, 0, 1690)]
def gm_ild (o ix : Nat) : Option (Int × Nat) := (gm_il.find? (fun q => decide (q.1 = o ∧ q.2.1 = ix))).map (fun q => (q.2.2.1, q.2.2.2.1))
theorem gm_il_ok : gm_il.all (fun q => decide (lw_tbl[q.2.2.2.2]? = some (if q.2.2.2.1 = 0 then .constant (gm_rn q.1) q.2.1 (Int32.ofInt q.2.2.1) else .constantLong (gm_rn q.1) q.2.1 (Int64.ofInt q.2.2.1)))) = true := by decide +kernel
end
section
/-! STEPS: an instruction of the abstract machine is one of the machine. -/
theorem gm_i8 (n : Int) : (Int8.ofInt n).toInt32 = Int32.ofInt (gm_wb n) := by
  apply Int32.toInt_inj.mp
  rw [gm_w_toInt, Int8.toInt_toInt32, Int8.toInt_ofInt, show (Int8.size : Nat) = 256 from rfl]
  unfold gm_wb gm_w
  rw [Int.bmod_def]
  split <;> omega
theorem gm_i16 (n : Int) : (Int16.ofInt n).toInt32 = Int32.ofInt (gm_ws n) := by
  apply Int32.toInt_inj.mp
  rw [gm_w_toInt, Int16.toInt_toInt32, Int16.toInt_ofInt, show (Int16.size : Nat) = 65536 from rfl]
  unfold gm_ws gm_w
  rw [Int.bmod_def]
  split <;> omega
theorem gm_i2b (x : Int) : (Int32.ofInt x).toInt8.toInt32 = Int32.ofInt (gm_wb x) := by
  rw [← gm_i8]
  congr 1
  exact Int32.toInt8_ofInt
theorem gm_sub (x y : Int) : Int32.ofInt x - Int32.ofInt y = Int32.ofInt (x - y) := (Int32.ofInt_sub x y).symm
theorem gm_add (x y : Int) : Int32.ofInt x + Int32.ofInt y = Int32.ofInt (x + y) := (Int32.ofInt_add x y).symm
theorem gm_mul (x y : Int) : Int32.ofInt x * Int32.ofInt y = Int32.ofInt (x * y) := (Int32.ofInt_mul x y).symm
theorem gm_neg (x : Int) : - Int32.ofInt x = Int32.ofInt (- x) := (Int32.ofInt_neg x).symm
theorem gm_dv (x y : Int) : Int32.ofInt x / Int32.ofInt y = Int32.ofInt (gm_div x y) := by
  apply Int32.toInt_inj.mp
  rw [Int32.toInt_div, gm_w_toInt, gm_w_toInt, ← Int32.toInt_ofInt]
  rfl
theorem gm_rm (x y : Int) : Int32.ofInt x - Int32.ofInt x / Int32.ofInt y * Int32.ofInt y = Int32.ofInt (gm_rem x y) := by
  rw [gm_dv, ← gm_w_of x, ← gm_w_of y, gm_mul, gm_sub]
  congr 1
  unfold gm_rem gm_div
  rw [Int.tmod_def, Int.mul_comm]
theorem gm_ti (z : Int32) : z = Int32.ofInt z.toInt := (Int32.ofInt_toInt z).symm
theorem gm_ti6 (z : Int64) : z = Int64.ofInt z.toInt := (Int64.ofInt_toInt z).symm
theorem gm_cat1 {α adK : Nat → Nat} {n : Nat} {v : gm_V} {w : Value} (h : gm_cv α adK n v w) (hs : ¬ gm_sort v = 1) : w.category = 1 := by
  rcases v with x | x | k | c
  · cases h; rfl
  · simp [gm_sort] at hs
  · obtain ⟨rfl, -⟩ := h; cases k <;> rfl
  · obtain ⟨a, rfl, -⟩ := h; rfl
theorem gm_lr_get {α adK : Nat → Nat} {n nL : Nat} {L : gm_L} {ls : Array Slot} {j : Nat} {v : gm_V} (h : gm_lr α adK n nL L ls) (hj : L[j]? = some (some v)) : ∃ w, gm_cv α adK n v w ∧ ls[j]? = some (.val w) := by
  obtain ⟨-, l, hl, h⟩ := h
  obtain ⟨w, hw, hm⟩ := h j v hj
  exact ⟨w, hw, hl.2.2 (j, w) hm⟩
theorem gm_lc_len (L : gm_L) (j : Nat) : (gm_lc L j).length = L.length := by
  cases j with
  | zero => rfl
  | succ i => simp only [gm_lc]; split <;> simp
theorem gm_lc_at {L : gm_L} {j i : Nat} {v : gm_V} (h : (gm_lc L j)[i]? = some (some v)) : L[i]? = some (some v) ∧ ¬ (i + 1 = j ∧ gm_sort v = 1) := by
  cases j with
  | zero => exact ⟨h, fun q => by omega⟩
  | succ k =>
    simp only [gm_lc] at h
    split at h
    · rename_i x hx
      by_cases hk : k = i
      · subst hk
        have hlt : k < L.length := (List.getElem?_eq_some_iff.mp hx).1
        rw [List.getElem?_set_self hlt] at h
        cases h
      · rw [List.getElem?_set_ne hk] at h
        exact ⟨h, fun q => hk (by omega)⟩
    · rename_i hx
      refine ⟨h, fun q => ?_⟩
      obtain ⟨q1, q2⟩ := q
      have : i = k := by omega
      subst this
      rcases v with x | x | y
      · simp [gm_sort] at q2
      · exact hx x h
      · simp [gm_sort] at q2
theorem gm_lr_set1 {α adK : Nat → Nat} {n nL : Nat} {L : gm_L} {ls' : Array Slot} {j : Nat} {v : gm_V} {w : Value} {l : List (Nat × Value)} (hlen : L.length = nL) (h : ∀ (i : Nat) (v : gm_V), L[i]? = some (some v) → ∃ w, gm_cv α adK n v w ∧ (i, w) ∈ l) (hs : ¬ gm_sort v = 1) (hw : gm_cv α adK n v w)
    (hl : lv_has ls' nL ((j, w) :: l.filter (fun q => !(q.1 == j) && !(q.1 + 1 == j && q.2.category == 2)))) : gm_lr α adK n nL (gm_lst L j v) ls' := by
  have e : gm_lst L j v = (gm_lc L j).set j (some v) := by
    rcases v with x | x | y
    · rfl
    · simp [gm_sort] at hs
    · rfl
  rw [e]
  refine ⟨by rw [List.length_set, gm_lc_len, hlen], _, hl, fun i v' hi => ?_⟩
  by_cases hij : j = i
  · subst hij
    have hlt : j < ((gm_lc L j).set j (some v)).length := (List.getElem?_eq_some_iff.mp hi).1
    rw [List.length_set] at hlt
    rw [List.getElem?_set_self hlt] at hi
    cases hi
    exact ⟨w, hw, List.mem_cons_self⟩
  · rw [List.getElem?_set_ne hij] at hi
    obtain ⟨h1, h2⟩ := gm_lc_at hi
    obtain ⟨w', c1, c2⟩ := h i v' h1
    refine ⟨w', c1, List.mem_cons_of_mem _ (List.mem_filter.mpr ⟨c2, ?_⟩)⟩
    by_cases hi1 : i + 1 = j
    · have c3 := gm_cat1 c1 (fun q => h2 ⟨hi1, q⟩)
      simp [Ne.symm hij, c3]
    · simp [Ne.symm hij, hi1]
theorem gm_lr_set2 {α adK : Nat → Nat} {n nL : Nat} {L : gm_L} {ls' : Array Slot} {j : Nat} {x : Int} {l : List (Nat × Value)} (hlen : L.length = nL) (h : ∀ (i : Nat) (v : gm_V), L[i]? = some (some v) → ∃ w, gm_cv α adK n v w ∧ (i, w) ∈ l)
    (hl : lv_has ls' nL ((j, .long (Int64.ofInt x)) :: l.filter (fun q => !(q.1 == j) && (!(q.1 == j + 1) && !(q.1 + 1 == j && q.2.category == 2))))) : gm_lr α adK n nL (gm_lst L j (gm_vl x)) ls' := by
  show gm_lr α adK n nL (((gm_lc L j).set j (some (gm_vl x))).set (j + 1) none) ls'
  refine ⟨by rw [List.length_set, List.length_set, gm_lc_len, hlen], _, hl, fun i v' hi => ?_⟩
  by_cases hij1 : j + 1 = i
  · subst hij1
    have hlt := (List.getElem?_eq_some_iff.mp hi).1
    rw [List.length_set] at hlt
    rw [List.getElem?_set_self hlt] at hi
    cases hi
  · rw [List.getElem?_set_ne hij1] at hi
    by_cases hij : j = i
    · subst hij
      have hlt : j < ((gm_lc L j).set j (some (gm_vl x))).length := (List.getElem?_eq_some_iff.mp hi).1
      rw [List.length_set] at hlt
      rw [List.getElem?_set_self hlt] at hi
      cases hi
      exact ⟨_, rfl, List.mem_cons_self⟩
    · rw [List.getElem?_set_ne hij] at hi
      obtain ⟨h1, h2⟩ := gm_lc_at hi
      obtain ⟨w', c1, c2⟩ := h i v' h1
      refine ⟨w', c1, List.mem_cons_of_mem _ (List.mem_filter.mpr ⟨c2, ?_⟩)⟩
      by_cases hi1 : i + 1 = j
      · have c3 := gm_cat1 c1 (fun q => h2 ⟨hi1, q⟩)
        simp [Ne.symm hij, Ne.symm hij1, c3]
      · simp [Ne.symm hij, Ne.symm hij1, hi1]
/-- a step with one place behind it: dc cells and ds slots are made -/
def gm_Sp (X : Int → Int) (LX d mi pc : Nat) (L : gm_L) (st : List gm_V) (n : Nat) (K : gm_K) (R : gm_R) (M : gm_M) (pc' : Nat) (L' : gm_L) (st' : List gm_V) (n' : Nat) (K' : gm_K) (R' : gm_R) (M' : gm_M) (dc ds : Nat) : Prop :=
  ∀ (p : Program) (l : Launch) (e : Env) (Rm : Room) (s : State) (m : MethodId) (args : Array Value) (below : List Frame) (meth : Method) (c : Code) (D : va_G) (ti : Nat → ClassId) (adK adV : Nat → Nat) (A : Nat → Prop),
    gm_Cx mi p l s m args meth c → gm_Ev X LX adK adV A s → d ≤ Rm.frames → d * 300 ≤ Rm.locals → (∀ q, s.heap.size ≤ q → A q) →
    ∀ (α : Nat → Nat) (H : Heap) (locs : List Loc) (cells slots : Nat) (ls : Array Slot) (sv : List Value) (Q' : State → Prop), cells + dc ≤ Rm.cells → slots + ds ≤ Rm.slots → gm_Rl D ti α A s H locs n K R M → gm_lr α adK n (gm_ml mi) L ls → gm_sr α adK n st sv →
      (∀ (α' : Nat → Nat) (H' : Heap) (locs' : List Loc) (ls' : Array Slot) (sv' : List Value), gm_xt α n α' n' → gm_Rl D ti α' A s H' locs' n' K' R' M' → gm_lr α' adK n' (gm_ml mi) L' ls' → gm_sr α' adK n' st' sv' → W p l e Rm s m args below meth c H' locs' (cells + dc) (slots + ds) Q' (F0 m pc' ls' sv')) →
      W p l e Rm s m args below meth c H locs cells slots Q' (F0 m pc ls sv)
theorem gm_xt.trans {α0 α1 α2 : Nat → Nat} {n0 n1 n2 : Nat} (h1 : gm_xt α0 n0 α1 n1) (h2 : gm_xt α1 n1 α2 n2) : gm_xt α0 n0 α2 n2 := ⟨Nat.le_trans h1.1 h2.1, fun k a b => (h2.2 k a (Nat.le_trans b h1.1)).trans (h1.2 k a b)⟩
theorem gm_xt.rf {α : Nat → Nat} {n : Nat} : gm_xt α n α n := ⟨Nat.le_refl _, fun _ _ _ => rfl⟩
section GS
variable {X : Int → Int} {LX d bc bs mi pc : Nat} {L : gm_L} {st : List gm_V} {n : Nat} {K : gm_K} {R : gm_R} {M : gm_M} {Q : gm_Q}
theorem gm_sp {pc' n' dc ds : Nat} {L' : gm_L} {st' : List gm_V} {K' : gm_K} {R' : gm_R} {M' : gm_M} (h : gm_Sp X LX d mi pc L st n K R M pc' L' st' n' K' R' M' dc ds) (h1 : dc ≤ bc) (h2 : ds ≤ bs) (k : gm_Wp X LX d (bc - dc) (bs - ds) mi pc' L' st' n' K' R' M' Q) : gm_Wp X LX d bc bs mi pc L st n K R M Q := by
  intro p l e Rm s m args below meth c D ti adK adV A α0 n0 mc ms hcx hev hd hd2 hmc hms hA α H locs cells slots ls sv hxt hc1 hc2 hR hL hS
  refine h p l e Rm s m args below meth c D ti adK adV A hcx hev hd hd2 hA α H locs cells slots ls sv _ (by omega) (by omega) hR hL hS fun α' H' locs' ls' sv' hx hR' hL' hS' => ?_
  exact k p l e Rm s m args below meth c D ti adK adV A α0 n0 mc ms hcx hev hd hd2 hmc hms hA α' H' locs' (cells + dc) (slots + ds) ls' sv' (hxt.trans hx) (by omega) (by omega) hR' hL' hS'
theorem gm_dec {p : Program} {l : Launch} {s : State} {m : MethodId} {args : Array Value} {meth : Method} {c : Code} {i : Instr} (hcx : gm_Cx mi p l s m args meth c) (h : gm_at mi pc = some i) (hs : gm_sw i = false) : decode (gm_bc mi) pc = .ok (i, gm_len i) := by
  obtain ⟨len, h1, h2⟩ := gm_at_ok hcx.2.2.2.2.2.2.2.2.2.1 h
  rw [h1, h2 hs]
/-- a step that changes neither heap nor locals: from the stack st to st' -/
theorem gm_stk {pc' : Nat} {st' : List gm_V} (h : ∀ (p : Program) (l : Launch) (e : Env) (Rm : Room) (s : State) (m : MethodId) (args : Array Value) (below : List Frame) (meth : Method) (c : Code), gm_Cx mi p l s m args meth c → ∀ (α adK : Nat → Nat) (H : Heap) (locs : List Loc) (cells slots : Nat) (ls : Array Slot) (sv : List Value) (Q' : State → Prop), gm_lr α adK n (gm_ml mi) L ls → gm_sr α adK n st sv → (∀ sv', gm_sr α adK n st' sv' → W p l e Rm s m args below meth c H locs cells slots Q' (F0 m pc' ls sv')) → W p l e Rm s m args below meth c H locs cells slots Q' (F0 m pc ls sv)) :
    gm_Sp X LX d mi pc L st n K R M pc' L st' n K R M 0 0 := by
  intro p l e Rm s m args below meth c D ti adK adV A hcx hev hd hd2 hA α H locs cells slots ls sv Q' hc1 hc2 hR hL hS k
  exact h p l e Rm s m args below meth c hcx α adK H locs cells slots ls sv Q' hL hS fun sv' hS' => k α H locs ls sv' gm_xt.rf hR hL hS'
theorem gm_p_const {i : Instr} {v : gm_V} (h : gm_at mi pc = some i) (hc : gm_const i = some v) : gm_Sp X LX d mi pc L st n K R M (pc + gm_len i) L (v :: st) n K R M 0 0 := by
  refine gm_stk fun p l e Rm s m args below meth c hcx α adK H locs cells slots ls sv Q' hL hS k => ?_
  have k2 := fun w (hw : gm_cv α adK n v w) => k (w :: sv) ⟨w, sv, rfl, hw, hS⟩
  have hdg := gm_dec hcx h (by cases i <;> first | rfl | simp [gm_const] at hc)
  obtain ⟨hx, hb, -⟩ := hcx
  cases i <;> simp only [gm_const, Option.some.injEq, reduceCtorEq] at hc
  case iconst i => subst hc; exact lv_iconst hx hb hdg rfl (k2 _ rfl)
  case bipush i => subst hc; exact lv_bipush hx hb hdg (gm_i8 i) (k2 _ rfl)
  case sipush i => subst hc; exact lv_sipush hx hb hdg (gm_i16 i) (k2 _ rfl)
  case lconst i => subst hc; exact lv_lconst hx hb hdg rfl (k2 _ (by show _ = _; congr 1))
  case aconst_null => subst hc; exact lv_null hx hb hdg (k2 _ ⟨rfl, Nat.zero_le _⟩)
theorem gm_p_load {i : Instr} {sr j : Nat} {v : gm_V} (h : gm_at mi pc = some i) (hc : gm_load i = some (sr, j)) (hj : L[j]? = some (some v)) (hs : gm_sort v = sr) : gm_Sp X LX d mi pc L st n K R M (pc + gm_len i) L (v :: st) n K R M 0 0 := by
  refine gm_stk fun p l e Rm s m args below meth c hcx α adK H locs cells slots ls sv Q' hL hS k => ?_
  obtain ⟨w, hw, hl⟩ := gm_lr_get hL hj
  have k2 := k (w :: sv) ⟨w, sv, rfl, hw, hS⟩
  have hdg := gm_dec hcx h (by cases i <;> first | rfl | simp [gm_load] at hc)
  obtain ⟨hx, hb, -⟩ := hcx
  cases i <;> simp only [gm_load, Option.some.injEq, reduceCtorEq, Prod.mk.injEq] at hc
  all_goals (obtain ⟨rfl, rfl⟩ := hc; rcases v with x | x | y | y <;> simp [gm_sort] at hs)
  case iload => cases hw; exact lv_iload hx hb hdg hl k2
  case iload_n => cases hw; exact lv_iload_n hx hb hdg rfl hl k2
  case lload => cases hw; exact lv_lload hx hb hdg hl k2
  case lload_n => cases hw; exact lv_lload_n hx hb hdg rfl hl k2
  case aload.inr.inr.inl => obtain ⟨rfl, -⟩ := hw; cases y; exact lv_aloadN hx hb hdg hl k2; exact lv_aload hx hb hdg hl k2
  case aload.inr.inr.inr => obtain ⟨a, rfl, -⟩ := hw; exact lv_aload hx hb hdg hl k2
  case aload_n.inr.inr.inl => obtain ⟨rfl, -⟩ := hw; cases y; exact lv_aload_nN hx hb hdg rfl hl k2; exact lv_aload_n hx hb hdg rfl hl k2
  case aload_n.inr.inr.inr => obtain ⟨a, rfl, -⟩ := hw; exact lv_aload_n hx hb hdg rfl hl k2
/-- a step of stack and locals alone -/
theorem gm_slo {pc' : Nat} {L' : gm_L} {st' : List gm_V} (h : ∀ (p : Program) (l : Launch) (e : Env) (Rm : Room) (s : State) (m : MethodId) (args : Array Value) (below : List Frame) (meth : Method) (c : Code), gm_Cx mi p l s m args meth c → ∀ (α adK : Nat → Nat) (H : Heap) (locs : List Loc) (cells slots : Nat) (ls : Array Slot) (sv : List Value) (Q' : State → Prop), gm_lr α adK n (gm_ml mi) L ls → gm_sr α adK n st sv → (∀ ls' sv', gm_lr α adK n (gm_ml mi) L' ls' → gm_sr α adK n st' sv' → W p l e Rm s m args below meth c H locs cells slots Q' (F0 m pc' ls' sv')) → W p l e Rm s m args below meth c H locs cells slots Q' (F0 m pc ls sv)) :
    gm_Sp X LX d mi pc L st n K R M pc' L' st' n K R M 0 0 := by
  intro p l e Rm s m args below meth c D ti adK adV A hcx hev hd hd2 hA α H locs cells slots ls sv Q' hc1 hc2 hR hL hS k
  exact h p l e Rm s m args below meth c hcx α adK H locs cells slots ls sv Q' hL hS fun ls' sv' hL' hS' => k α H locs ls' sv' gm_xt.rf hR hL' hS'
theorem gm_p_stor {i : Instr} {sr j : Nat} {v : gm_V} (h : gm_at mi pc = some i) (hc : gm_stor i = some (sr, j)) (hj : j + (if sr = 1 then 1 else 0) < L.length) (hs : gm_sort v = sr) : gm_Sp X LX d mi pc L (v :: st) n K R M (pc + gm_len i) (gm_lst L j v) st n K R M 0 0 := by
  refine gm_slo fun p l e Rm s m args below meth c hcx α adK H locs cells slots ls sv Q' hL hS k => ?_
  obtain ⟨w, sv, rfl, hw, hS⟩ := hS
  have k2 := fun ls' hL' => k ls' sv hL' hS
  have hdg := gm_dec hcx h (by cases i <;> first | rfl | simp [gm_stor] at hc)
  obtain ⟨hx, hb, -⟩ := hcx
  obtain ⟨hlen, l0, hl, hmem⟩ := hL
  rw [hlen] at hj
  cases i <;> simp only [gm_stor, Option.some.injEq, reduceCtorEq, Prod.mk.injEq] at hc
  all_goals (obtain ⟨rfl, rfl⟩ := hc; rcases v with x | x | y | y <;> simp [gm_sort] at hs)
  case istore => cases hw; exact lv_istore hx hb hdg hl hj rfl fun ls' h' => k2 ls' (gm_lr_set1 hlen hmem (by simp [gm_sort]) rfl h')
  case istore_n => cases hw; exact lv_istore_n hx hb hdg rfl hl hj rfl fun ls' h' => k2 ls' (gm_lr_set1 hlen hmem (by simp [gm_sort]) rfl h')
  case lstore => cases hw; exact lv_lstore hx hb hdg hl hj rfl fun ls' h' => k2 ls' (gm_lr_set2 hlen hmem h')
  case lstore_n => cases hw; exact lv_lstore_n hx hb hdg rfl hl hj rfl fun ls' h' => k2 ls' (gm_lr_set2 hlen hmem h')
  case astore.inr.inr.inl => obtain ⟨rfl, hy⟩ := hw; cases y; exact lv_astoreN hx hb hdg hl hj rfl fun ls' h' => k2 ls' (gm_lr_set1 hlen hmem (by simp [gm_sort]) ⟨rfl, hy⟩ h'); exact lv_astore hx hb hdg hl hj rfl fun ls' h' => k2 ls' (gm_lr_set1 hlen hmem (by simp [gm_sort]) ⟨rfl, hy⟩ h')
  case astore.inr.inr.inr => obtain ⟨a, rfl, ha⟩ := hw; exact lv_astore hx hb hdg hl hj rfl fun ls' h' => k2 ls' (gm_lr_set1 hlen hmem (by simp [gm_sort]) ⟨a, rfl, ha⟩ h')
  case astore_n.inr.inr.inl => obtain ⟨rfl, hy⟩ := hw; cases y; exact lv_astore_nN hx hb hdg rfl hl hj rfl fun ls' h' => k2 ls' (gm_lr_set1 hlen hmem (by simp [gm_sort]) ⟨rfl, hy⟩ h'); exact lv_astore_n hx hb hdg rfl hl hj rfl fun ls' h' => k2 ls' (gm_lr_set1 hlen hmem (by simp [gm_sort]) ⟨rfl, hy⟩ h')
  case astore_n.inr.inr.inr => obtain ⟨a, rfl, ha⟩ := hw; exact lv_astore_n hx hb hdg rfl hl hj rfl fun ls' h' => k2 ls' (gm_lr_set1 hlen hmem (by simp [gm_sort]) ⟨a, rfl, ha⟩ h')
end GS
end
section
/-! STEPS of arithmetic, the stack, branches. -/
theorem gm_i2l (x : Int) : (Int32.ofInt x).toInt64 = Int64.ofInt (gm_w x) := by
  apply Int64.toInt_inj.mp
  rw [Int32.toInt_toInt64, gm_w_toInt, gm_w6_toInt]
  unfold gm_w6 gm_w
  omega
theorem gm_l2i (x : Int) : (Int64.ofInt x).toInt32 = Int32.ofInt x := Int64.toInt32_ofInt
theorem gm_lgc (x y : Int) : lg_cmp (Int64.ofInt x) (Int64.ofInt y) = Int32.ofInt (gm_lcm x y) := by
  have e1 : Int64.ofInt x > Int64.ofInt y ↔ gm_w6 y < gm_w6 x := by
    show Int64.ofInt y < Int64.ofInt x ↔ _
    rw [Int64.lt_iff_toInt_lt, gm_w6_toInt, gm_w6_toInt]
  have e2 : Int64.ofInt x = Int64.ofInt y ↔ gm_w6 x = gm_w6 y := by rw [← Int64.toInt_inj, gm_w6_toInt, gm_w6_toInt]
  unfold lg_cmp gm_lcm
  simp only [e1, e2]
  split
  · rfl
  · split <;> rfl
section GS
variable {X : Int → Int} {LX d bc bs mi pc : Nat} {L : gm_L} {st : List gm_V} {n : Nat} {K : gm_K} {R : gm_R} {M : gm_M} {Q : gm_Q}
theorem gm_p_bin {i : Instr} {f : Int → Int → Int} {x y : Int} (h : gm_at mi pc = some i) (hc : gm_bin i = some f) : gm_Sp X LX d mi pc L (gm_vi y :: gm_vi x :: st) n K R M (pc + gm_len i) L (gm_vi (f x y) :: st) n K R M 0 0 := by
  refine gm_stk fun p l e Rm s m args below meth c hcx α adK H locs cells slots ls sv Q' hL hS k => ?_
  obtain ⟨w1, sv, rfl, h1, hS⟩ := hS
  obtain ⟨w2, sv, rfl, h2, hS⟩ := hS
  cases h1; cases h2
  have k2 := fun w (hw : w = Value.int (Int32.ofInt (f x y))) => k (w :: sv) ⟨w, sv, rfl, hw, hS⟩
  have hdg := gm_dec hcx h (by cases i <;> first | rfl | simp [gm_bin] at hc)
  obtain ⟨hx, hb, -⟩ := hcx
  cases i <;> simp only [gm_bin, Option.some.injEq, reduceCtorEq] at hc
  all_goals (subst hc)
  case iadd => exact lv_iadd hx hb hdg (k2 _ (by rw [gm_add]))
  case isub => exact lv_isub hx hb hdg (k2 _ (by rw [gm_sub]))
  case imul => exact lv_imul hx hb hdg (k2 _ (by rw [gm_mul]))
  case iand => exact lv_iand hx hb hdg (k2 _ (by rw [← gm_ti]))
  case ior => exact lv_ior hx hb hdg (k2 _ (by rw [← gm_ti]))
  case ixor => exact lv_ixor hx hb hdg (k2 _ (by rw [← gm_ti]))
  case ishl => exact lv_ishl hx hb hdg (k2 _ (by rw [← gm_ti]))
  case ishr => exact lv_ishr hx hb hdg (k2 _ (by rw [← gm_ti]))
  case iushr => exact lv_iushr hx hb hdg rfl (k2 _ (by rw [← gm_ti]))
theorem gm_p_div {x y : Int} (h : gm_at mi pc = some .idiv) (hne : ¬ gm_w y = 0) : gm_Sp X LX d mi pc L (gm_vi y :: gm_vi x :: st) n K R M (pc + 1) L (gm_vi (gm_div x y) :: st) n K R M 0 0 := by
  refine gm_stk fun p l e Rm s m args below meth c hcx α adK H locs cells slots ls sv Q' hL hS k => ?_
  obtain ⟨w1, sv, rfl, h1, hS⟩ := hS
  obtain ⟨w2, sv, rfl, h2, hS⟩ := hS
  cases h1; cases h2
  have hdg := gm_dec hcx h rfl
  obtain ⟨hx, hb, -⟩ := hcx
  exact lv_idiv hx hb hdg (fun q => hne ((gm_eq y 0).mp q)) (by rw [gm_dv]; exact k _ ⟨_, _, rfl, rfl, hS⟩)
theorem gm_p_rem {x y : Int} (h : gm_at mi pc = some .irem) (hne : ¬ gm_w y = 0) : gm_Sp X LX d mi pc L (gm_vi y :: gm_vi x :: st) n K R M (pc + 1) L (gm_vi (gm_rem x y) :: st) n K R M 0 0 := by
  refine gm_stk fun p l e Rm s m args below meth c hcx α adK H locs cells slots ls sv Q' hL hS k => ?_
  obtain ⟨w1, sv, rfl, h1, hS⟩ := hS
  obtain ⟨w2, sv, rfl, h2, hS⟩ := hS
  cases h1; cases h2
  have hdg := gm_dec hcx h rfl
  obtain ⟨hx, hb, -⟩ := hcx
  exact lv_irem hx hb hdg (fun q => hne ((gm_eq y 0).mp q)) (by rw [gm_rm]; exact k _ ⟨_, _, rfl, rfl, hS⟩)
theorem gm_p_un {i : Instr} {f : Int → Int} {x : Int} (h : gm_at mi pc = some i) (hc : gm_un i = some f) : gm_Sp X LX d mi pc L (gm_vi x :: st) n K R M (pc + gm_len i) L (gm_vi (f x) :: st) n K R M 0 0 := by
  refine gm_stk fun p l e Rm s m args below meth c hcx α adK H locs cells slots ls sv Q' hL hS k => ?_
  obtain ⟨w1, sv, rfl, h1, hS⟩ := hS
  cases h1
  have hdg := gm_dec hcx h (by cases i <;> first | rfl | simp [gm_un] at hc)
  obtain ⟨hx, hb, -⟩ := hcx
  cases i <;> simp only [gm_un, Option.some.injEq, reduceCtorEq] at hc
  all_goals (subst hc)
  case ineg => exact lv_ineg hx hb hdg (by rw [gm_neg]; exact k _ ⟨_, _, rfl, rfl, hS⟩)
  case i2b => exact lv_i2b hx hb hdg (gm_i2b x) (k _ ⟨_, _, rfl, rfl, hS⟩)
theorem gm_p_i2l {x : Int} (h : gm_at mi pc = some .i2l) : gm_Sp X LX d mi pc L (gm_vi x :: st) n K R M (pc + 1) L (gm_vl (gm_w x) :: st) n K R M 0 0 := by
  refine gm_stk fun p l e Rm s m args below meth c hcx α adK H locs cells slots ls sv Q' hL hS k => ?_
  obtain ⟨w1, sv, rfl, h1, hS⟩ := hS
  cases h1
  have hdg := gm_dec hcx h rfl
  obtain ⟨hx, hb, -⟩ := hcx
  exact lv_i2l hx hb hdg (gm_i2l x) (k _ ⟨_, _, rfl, rfl, hS⟩)
theorem gm_p_l2i {x : Int} (h : gm_at mi pc = some .l2i) : gm_Sp X LX d mi pc L (gm_vl x :: st) n K R M (pc + 1) L (gm_vi x :: st) n K R M 0 0 := by
  refine gm_stk fun p l e Rm s m args below meth c hcx α adK H locs cells slots ls sv Q' hL hS k => ?_
  obtain ⟨w1, sv, rfl, h1, hS⟩ := hS
  cases h1
  have hdg := gm_dec hcx h rfl
  obtain ⟨hx, hb, -⟩ := hcx
  exact lv_l2i hx hb hdg (gm_l2i x) (k _ ⟨_, _, rfl, rfl, hS⟩)
theorem gm_p_lbin {i : Instr} {f : Int → Int → Int} {x y : Int} (h : gm_at mi pc = some i) (hc : gm_lbin i = some f) : gm_Sp X LX d mi pc L (gm_vl y :: gm_vl x :: st) n K R M (pc + gm_len i) L (gm_vl (f x y) :: st) n K R M 0 0 := by
  refine gm_stk fun p l e Rm s m args below meth c hcx α adK H locs cells slots ls sv Q' hL hS k => ?_
  obtain ⟨w1, sv, rfl, h1, hS⟩ := hS
  obtain ⟨w2, sv, rfl, h2, hS⟩ := hS
  cases h1; cases h2
  have k2 := fun w (hw : w = Value.long (Int64.ofInt (f x y))) => k (w :: sv) ⟨w, sv, rfl, hw, hS⟩
  have hdg := gm_dec hcx h (by cases i <;> first | rfl | simp [gm_lbin] at hc)
  obtain ⟨hx, hb, -⟩ := hcx
  cases i <;> simp only [gm_lbin, Option.some.injEq, reduceCtorEq] at hc
  all_goals (subst hc)
  case land => exact lv_land hx hb hdg (k2 _ (by rw [← gm_ti6]))
  case lor => exact lv_lor hx hb hdg (k2 _ (by rw [← gm_ti6]))
  case lxor => exact lv_lxor hx hb hdg (k2 _ (by rw [← gm_ti6]))
theorem gm_p_lsh {i : Instr} {f : Int → Int → Int} {x y : Int} (h : gm_at mi pc = some i) (hc : gm_lsh i = some f) : gm_Sp X LX d mi pc L (gm_vi y :: gm_vl x :: st) n K R M (pc + gm_len i) L (gm_vl (f x y) :: st) n K R M 0 0 := by
  refine gm_stk fun p l e Rm s m args below meth c hcx α adK H locs cells slots ls sv Q' hL hS k => ?_
  obtain ⟨w1, sv, rfl, h1, hS⟩ := hS
  obtain ⟨w2, sv, rfl, h2, hS⟩ := hS
  cases h1; cases h2
  have k2 := fun w (hw : w = Value.long (Int64.ofInt (f x y))) => k (w :: sv) ⟨w, sv, rfl, hw, hS⟩
  have hdg := gm_dec hcx h (by cases i <;> first | rfl | simp [gm_lsh] at hc)
  obtain ⟨hx, hb, -⟩ := hcx
  cases i <;> simp only [gm_lsh, Option.some.injEq, reduceCtorEq] at hc
  all_goals (subst hc)
  case lshl => exact lv_lshl hx hb hdg rfl (k2 _ (by rw [← gm_ti6]))
  case lushr => exact lv_lushr hx hb hdg rfl (k2 _ (by rw [← gm_ti6]))
theorem gm_p_lcmp {x y : Int} (h : gm_at mi pc = some .lcmp) : gm_Sp X LX d mi pc L (gm_vl y :: gm_vl x :: st) n K R M (pc + 1) L (gm_vi (gm_lcm x y) :: st) n K R M 0 0 := by
  refine gm_stk fun p l e Rm s m args below meth c hcx α adK H locs cells slots ls sv Q' hL hS k => ?_
  obtain ⟨w1, sv, rfl, h1, hS⟩ := hS
  obtain ⟨w2, sv, rfl, h2, hS⟩ := hS
  cases h1; cases h2
  have hdg := gm_dec hcx h rfl
  obtain ⟨hx, hb, -⟩ := hcx
  exact W.lcmp hx hb hdg (by rw [gm_lgc]; exact k _ ⟨_, _, rfl, rfl, hS⟩)
theorem gm_p_dup {v : gm_V} (h : gm_at mi pc = some .dup) (hs : ¬ gm_sort v = 1) : gm_Sp X LX d mi pc L (v :: st) n K R M (pc + 1) L (v :: v :: st) n K R M 0 0 := by
  refine gm_stk fun p l e Rm s m args below meth c hcx α adK H locs cells slots ls sv Q' hL hS k => ?_
  obtain ⟨w1, sv, rfl, h1, hS⟩ := hS
  have hdg := gm_dec hcx h rfl
  obtain ⟨hx, hb, -⟩ := hcx
  exact lv_dup hx hb hdg (gm_cat1 h1 hs) (k _ ⟨_, _, rfl, h1, _, _, rfl, h1, hS⟩)
theorem gm_p_pop {v : gm_V} (h : gm_at mi pc = some .pop) (hs : ¬ gm_sort v = 1) : gm_Sp X LX d mi pc L (v :: st) n K R M (pc + 1) L st n K R M 0 0 := by
  refine gm_stk fun p l e Rm s m args below meth c hcx α adK H locs cells slots ls sv Q' hL hS k => ?_
  obtain ⟨w1, sv, rfl, h1, hS⟩ := hS
  have hdg := gm_dec hcx h rfl
  obtain ⟨hx, hb, -⟩ := hcx
  exact lv_pop hx hb hdg (gm_cat1 h1 hs) (k _ hS)
theorem gm_p_dup2 {v u : gm_V} (h : gm_at mi pc = some .dup2) (hs : ¬ gm_sort v = 1) (hs2 : ¬ gm_sort u = 1) : gm_Sp X LX d mi pc L (v :: u :: st) n K R M (pc + 1) L (v :: u :: v :: u :: st) n K R M 0 0 := by
  refine gm_stk fun p l e Rm s m args below meth c hcx α adK H locs cells slots ls sv Q' hL hS k => ?_
  obtain ⟨w1, sv, rfl, h1, hS⟩ := hS
  obtain ⟨w2, sv, rfl, h2, hS⟩ := hS
  have hdg := gm_dec hcx h rfl
  obtain ⟨hx, hb, -⟩ := hcx
  exact lv_dup2_11 hx hb hdg (gm_cat1 h1 hs) (gm_cat1 h2 hs2) (k _ ⟨_, _, rfl, h1, _, _, rfl, h2, _, _, rfl, h1, _, _, rfl, h2, hS⟩)
theorem gm_p_iinc {j : Nat} {z x : Int} (h : gm_at mi pc = some (.iinc j z)) (hj : L[j]? = some (some (gm_vi x))) : gm_Sp X LX d mi pc L st n K R M (pc + 3) (gm_lst L j (gm_vi (x + z))) st n K R M 0 0 := by
  refine gm_slo fun p l e Rm s m args below meth c hcx α adK H locs cells slots ls sv Q' hL hS k => ?_
  have hdg := gm_dec hcx h rfl
  obtain ⟨hx, hb, -⟩ := hcx
  obtain ⟨hlen, l0, hl, hmem⟩ := hL
  have hlt : j < gm_ml mi := by rw [← hlen]; exact (List.getElem?_eq_some_iff.mp hj).1
  obtain ⟨w, hw, hm⟩ := hmem j _ hj
  cases hw
  obtain ⟨q, hq⟩ := List.getElem?_of_mem hm
  exact lv_iinc hx hb hdg hl hq (gm_add x z) hlt rfl fun ls' h' => k ls' sv (gm_lr_set1 hlen hmem (by simp [gm_sort]) rfl h') hS
theorem gm_p_goto {off : Int} (h : gm_at mi pc = some (.goto off)) (ht : 0 ≤ (pc : Int) + off) : gm_Sp X LX d mi pc L st n K R M (gm_tgt pc off) L st n K R M 0 0 := by
  refine gm_stk fun p l e Rm s m args below meth c hcx α adK H locs cells slots ls sv Q' hL hS k => ?_
  have hdg := gm_dec hcx h rfl
  obtain ⟨hx, hb, -⟩ := hcx
  exact lv_goto hx hb hdg (by unfold gm_tgt; omega) (k _ hS)
/-- a branch: two places behind it, heap and locals as they were -/
theorem gm_two {pt pf : Nat} {st' : List gm_V} {cd : Prop} (h : ∀ (p : Program) (l : Launch) (e : Env) (Rm : Room) (s : State) (m : MethodId) (args : Array Value) (below : List Frame) (meth : Method) (c : Code), gm_Cx mi p l s m args meth c → ∀ (α adK : Nat → Nat) (H : Heap) (locs : List Loc) (cells slots : Nat) (ls : Array Slot) (sv : List Value) (Q' : State → Prop), gm_sr α adK n st sv → (∀ sv', gm_sr α adK n st' sv' → cd → W p l e Rm s m args below meth c H locs cells slots Q' (F0 m pt ls sv')) → (∀ sv', gm_sr α adK n st' sv' → ¬ cd → W p l e Rm s m args below meth c H locs cells slots Q' (F0 m pf ls sv')) → W p l e Rm s m args below meth c H locs cells slots Q' (F0 m pc ls sv))
    (kt : cd → gm_Wp X LX d bc bs mi pt L st' n K R M Q) (kf : ¬ cd → gm_Wp X LX d bc bs mi pf L st' n K R M Q) : gm_Wp X LX d bc bs mi pc L st n K R M Q := by
  intro p l e Rm s m args below meth c D ti adK adV A α0 n0 mc ms hcx hev hd hd2 hmc hms hA α H locs cells slots ls sv hxt hc1 hc2 hR hL hS
  exact h p l e Rm s m args below meth c hcx α adK H locs cells slots ls sv _ hS (fun sv' hS' hc => kt hc p l e Rm s m args below meth c D ti adK adV A α0 n0 mc ms hcx hev hd hd2 hmc hms hA α H locs cells slots ls sv' hxt hc1 hc2 hR hL hS') (fun sv' hS' hc => kf hc p l e Rm s m args below meth c D ti adK adV A α0 n0 mc ms hcx hev hd hd2 hmc hms hA α H locs cells slots ls sv' hxt hc1 hc2 hR hL hS')
theorem gm_b_if {cc : ClassFile.Cond} {off x : Int} (h : gm_at mi pc = some (.ifCond cc off)) (ht : 0 ≤ (pc : Int) + off) (kt : gm_cmp cc x 0 → gm_Wp X LX d bc bs mi (gm_tgt pc off) L st n K R M Q) (kf : ¬ gm_cmp cc x 0 → gm_Wp X LX d bc bs mi (pc + 3) L st n K R M Q) : gm_Wp X LX d bc bs mi pc L (gm_vi x :: st) n K R M Q := by
  refine gm_two (fun p l e Rm s m args below meth c hcx α adK H locs cells slots ls sv Q' hS k1 k2 => ?_) kt kf
  obtain ⟨w1, sv, rfl, h1, hS⟩ := hS
  cases h1
  have hdg := gm_dec hcx h rfl
  obtain ⟨hx, hb, -⟩ := hcx
  have htg : (pc : Int) + off = (gm_tgt pc off : Int) := by unfold gm_tgt; omega
  cases cc
  case eq => exact lv_if_eq hx hb hdg htg (fun q => k1 _ hS ((gm_eq x 0).mp q)) (fun q => k2 _ hS (fun z => q ((gm_eq x 0).mpr z)))
  case ne => exact lv_if_ne hx hb hdg htg (fun q => k1 _ hS (fun z => q ((gm_eq x 0).mpr z))) (fun q => k2 _ hS (fun z => z ((gm_eq x 0).mp q)))
  case lt => exact lv_if_lt hx hb hdg htg (fun q => k1 _ hS ((gm_lt x 0).mp q)) (fun q => k2 _ hS (fun z => q ((gm_lt x 0).mpr z)))
  case ge => exact lv_if_ge hx hb hdg htg (fun q => k1 _ hS ((gm_le 0 x).mp q)) (fun q => k2 _ hS (fun z => q ((gm_le 0 x).mpr z)))
  case gt => exact lv_if_gt hx hb hdg htg (fun q => k1 _ hS ((gm_lt 0 x).mp q)) (fun q => k2 _ hS (fun z => q ((gm_lt 0 x).mpr z)))
  case le => exact lv_if_le hx hb hdg htg (fun q => k1 _ hS ((gm_le x 0).mp q)) (fun q => k2 _ hS (fun z => q ((gm_le x 0).mpr z)))
theorem gm_b_ic {cc : ClassFile.Cond} {off x y : Int} (h : gm_at mi pc = some (.if_icmp cc off)) (ht : 0 ≤ (pc : Int) + off) (kt : gm_cmp cc x y → gm_Wp X LX d bc bs mi (gm_tgt pc off) L st n K R M Q) (kf : ¬ gm_cmp cc x y → gm_Wp X LX d bc bs mi (pc + 3) L st n K R M Q) : gm_Wp X LX d bc bs mi pc L (gm_vi y :: gm_vi x :: st) n K R M Q := by
  refine gm_two (fun p l e Rm s m args below meth c hcx α adK H locs cells slots ls sv Q' hS k1 k2 => ?_) kt kf
  obtain ⟨w1, sv, rfl, h1, hS⟩ := hS
  obtain ⟨w2, sv, rfl, h2, hS⟩ := hS
  cases h1; cases h2
  have hdg := gm_dec hcx h rfl
  obtain ⟨hx, hb, -⟩ := hcx
  have htg : (pc : Int) + off = (gm_tgt pc off : Int) := by unfold gm_tgt; omega
  cases cc
  case eq => exact lv_icmp_eq hx hb hdg htg (fun q => k1 _ hS ((gm_eq x y).mp q)) (fun q => k2 _ hS (fun z => q ((gm_eq x y).mpr z)))
  case ne => exact lv_icmp_ne hx hb hdg htg (fun q => k1 _ hS (fun z => q ((gm_eq x y).mpr z))) (fun q => k2 _ hS (fun z => z ((gm_eq x y).mp q)))
  case lt => exact lv_icmp_lt hx hb hdg htg (fun q => k1 _ hS ((gm_lt x y).mp q)) (fun q => k2 _ hS (fun z => q ((gm_lt x y).mpr z)))
  case ge => exact lv_icmp_ge hx hb hdg htg (fun q => k1 _ hS ((gm_le y x).mp q)) (fun q => k2 _ hS (fun z => q ((gm_le y x).mpr z)))
  case gt => exact lv_icmp_gt hx hb hdg htg (fun q => k1 _ hS ((gm_lt y x).mp q)) (fun q => k2 _ hS (fun z => q ((gm_lt y x).mpr z)))
  case le => exact lv_icmp_le hx hb hdg htg (fun q => k1 _ hS ((gm_le x y).mp q)) (fun q => k2 _ hS (fun z => q ((gm_le x y).mpr z)))
theorem gm_b_nul {off : Int} {k0 : Nat} (h : gm_at mi pc = some (.ifnull off)) (ht : 0 ≤ (pc : Int) + off) (kt : k0 = 0 → gm_Wp X LX d bc bs mi (gm_tgt pc off) L st n K R M Q) (kf : ¬ k0 = 0 → gm_Wp X LX d bc bs mi (pc + 3) L st n K R M Q) : gm_Wp X LX d bc bs mi pc L (gm_vr k0 :: st) n K R M Q := by
  refine gm_two (fun p l e Rm s m args below meth c hcx α adK H locs cells slots ls sv Q' hS k1 k2 => ?_) kt kf
  obtain ⟨w1, sv, rfl, h1, hS⟩ := hS
  have hdg := gm_dec hcx h rfl
  obtain ⟨hx, hb, -⟩ := hcx
  have htg : (pc : Int) + off = (gm_tgt pc off : Int) := by unfold gm_tgt; omega
  obtain ⟨rfl, -⟩ := h1
  cases k0 with
  | zero => exact lv_ifnullN hx hb hdg htg (k1 _ hS rfl)
  | succ k0 => exact lv_ifnull hx hb hdg (k2 _ hS (by omega))
theorem gm_b_nnul {off : Int} {k0 : Nat} (h : gm_at mi pc = some (.ifnonnull off)) (ht : 0 ≤ (pc : Int) + off) (kt : ¬ k0 = 0 → gm_Wp X LX d bc bs mi (gm_tgt pc off) L st n K R M Q) (kf : k0 = 0 → gm_Wp X LX d bc bs mi (pc + 3) L st n K R M Q) : gm_Wp X LX d bc bs mi pc L (gm_vr k0 :: st) n K R M Q := by
  refine gm_two (cd := ¬ k0 = 0) (fun p l e Rm s m args below meth c hcx α adK H locs cells slots ls sv Q' hS k1 k2 => ?_) kt (fun q => kf (Classical.not_not.mp q))
  obtain ⟨w1, sv, rfl, h1, hS⟩ := hS
  have hdg := gm_dec hcx h rfl
  obtain ⟨hx, hb, -⟩ := hcx
  have htg : (pc : Int) + off = (gm_tgt pc off : Int) := by unfold gm_tgt; omega
  obtain ⟨rfl, -⟩ := h1
  cases k0 with
  | zero => exact lv_ifnonnullN hx hb hdg (k2 _ hS (fun q => q rfl))
  | succ k0 => exact lv_ifnonnull hx hb hdg htg (k1 _ hS (by omega))
/-- a switch: a goal for each of its places -/
def gm_swt (x : Int) (f : Nat → Prop) (pc : Nat) : List Int → Int → Prop
  | [], _ => True
  | o :: os, v => (gm_w x = v → f (gm_tgt pc o)) ∧ gm_swt x f pc os (v + 1)
theorem gm_swt_at {x : Int} {f : Nat → Prop} {pc : Nat} : ∀ (os : List Int) (v : Int), gm_swt x f pc os v → ∀ (i : Nat) (o : Int), os[i]? = some o → gm_w x = v + i → f (gm_tgt pc o) := by
  intro os
  induction os with
  | nil => intro v _ i o ho; simp at ho
  | cons a os ih =>
    intro v h i o ho hv
    cases i with
    | zero => simp at ho; subst ho; exact h.1 (by simpa using hv)
    | succ i => exact ih (v + 1) h.2 i o (by simpa using ho) (by rw [hv]; push_cast; omega)
theorem gm_b_sw {df lo hi x : Int} {offs : Array Int} (h : gm_at mi pc = some (.tableswitch df lo hi offs)) (hn : ((offs.size : Nat) : Int) = hi - lo + 1) (ht : 0 ≤ (pc : Int) + df ∧ ∀ o ∈ offs.toList, 0 ≤ (pc : Int) + o) (kd : gm_w x < lo ∨ hi < gm_w x → gm_Wp X LX d bc bs mi (gm_tgt pc df) L st n K R M Q) (ks : gm_swt x (fun q => gm_Wp X LX d bc bs mi q L st n K R M Q) pc offs.toList lo) : gm_Wp X LX d bc bs mi pc L (gm_vi x :: st) n K R M Q := by
  intro p l e Rm s m args below meth c D ti adK adV A α0 n0 mc ms hcx hev hd hd2 hmc hms hA α H locs cells slots ls sv hxt hc1 hc2 hR hL hS
  obtain ⟨w1, sv, rfl, h1, hS⟩ := hS
  cases h1
  obtain ⟨len, hdg, -⟩ := gm_at_ok hcx.2.2.2.2.2.2.2.2.2.1 h
  obtain ⟨hx, hb, -⟩ := id hcx
  by_cases ho : gm_w x < lo ∨ hi < gm_w x
  · refine lv_tableOut hx hb hdg (by rw [gm_w_toInt]; exact ho) (tgt := gm_tgt pc df) (by unfold gm_tgt; omega) ?_
    exact kd ho p l e Rm s m args below meth c D ti adK adV A α0 n0 mc ms hcx hev hd hd2 hmc hms hA α H locs cells slots ls sv hxt hc1 hc2 hR hL hS
  · have hi' : (gm_w x - lo).toNat < offs.size := by omega
    have ho2 : offs[(gm_w x - lo).toNat]? = some (offs[(gm_w x - lo).toNat]) := Array.getElem?_eq_getElem hi'
    generalize offs[(gm_w x - lo).toNat] = o at ho2
    have hmem : o ∈ offs.toList := Array.mem_toList_iff.mpr (Array.mem_of_getElem? ho2)
    have h0 := ht.2 o hmem
    refine lv_tableIn hx hb hdg (by rw [gm_w_toInt]; omega) (by rw [gm_w_toInt]; omega) (by rw [gm_w_toInt]; exact ho2) (tgt := gm_tgt pc o) (by unfold gm_tgt; omega) ?_
    have k := gm_swt_at offs.toList lo ks (gm_w x - lo).toNat o (by rw [Array.getElem?_toList]; exact ho2) (by omega)
    exact k p l e Rm s m args below meth c D ti adK adV A α0 n0 mc ms hcx hev hd hd2 hmc hms hA α H locs cells slots ls sv hxt hc1 hc2 hR hL hS
end GS
end
section
/-- a field's kind: 0 int, 1 boolean, 2 a reference; whether a method is a constructor; the class (by its number in gm_rnl) that declares a field -/
def gm_fk (c j : Nat) : Nat := ((([[2, 0, 0, 2, 2, 2, 1, 2, 2, 2, 2, 2, 2, 2, 2, 1, 2, 2], [0, 0, 0, 0, 0, 0, 0, 0, 2, 2, 2, 2, 2, 2, 2], [0, 0, 2, 0], [2, 0, 0], [2, 2, 2, 2, 2, 2, 1], [2, 2, 0, 1, 0, 0, 0, 0, 0], [2, 2, 2, 2], [2, 0, 2], [2, 0, 0, 0, 0, 0, 0, 0], [2, 0, 2, 2, 0], [2, 2], [0, 2, 2, 2, 2, 1, 0, 2, 0, 0, 0, 0, 0, 0, 2, 0, 2, 0, 0, 0, 0, 0, 0, 0, 2, 2, 0, 2, 2, 0, 0, 2, 2, 2, 2, 2, 0, 2, 2]] : List (List Nat))[c]?).getD [])[j]?.getD 3
def gm_ini (i : Nat) : Bool := (([true, true, true, true, true, false, false, false, false, false, false, false, false, true, true, true, true, true, true, false, false, false, false, false, false, false, false, false, false, false, false, false, false, false, false, false, false, false, false, false, false, false, false, false, false, false, false, false, false, false, false, false, false, false, false, false, false, false, false, false, false, false, false, false, false, false, false, false, false, false, false, false, false, false, false, false, false, false, false, false, false, false, false, false, false, false, false, false, false, false, false, false, false, false, false, false, false, false, false, false, false, false, false, false, false, false, false, false, false, false, false, false, false, false, false, false, false, false, false, false, false, false, false, false, false, false, true, false, false, false, false, false, false, false, false, false, false, false, false, false, false, false, false, false, false, false, false, false, false, false, false, false, false, false, false, false, false, false, false, false, false, false, false, false, false, false, false, false, false, false, false, false, false, false, false, false, false, false, false, false, false, false, false, false, false, false, false, false, false, false, false, false, false, false, false, false, false, false, false, false, false, false, false, false, false, false, false, false, false, false, false, false, false, false, false, false, false, false, false, false, false, false, false, false, false, false, false, false, false, false, false, false, false, false, false, true, false, false, false, false, false, false, false, false, false, false, false, false, false, false, false, false, false, false, false, false, false, false, false, false, false, false, false, false, false, false, false, false, false, false, false, false, false, false, false, false, false, false, false, false, false, false, false, false, false, false, false, false, false, false, false, false, false, false, false, false, false, false, false, false, false, false, false, false, false, false, false, false, false, false, false, false, false, false, false, false, false, false, false, false, false, false, false, false, false, false, false, false, false, false, false, false, false, false, false, false, false, false, false, false, false, false, false, false, false, false, false, false, false, false, false, false, false, false, false, false, false, false, false, false, false, false, false, false, false, false, false, false, false, false] : List Bool)[i]?).getD false
def gm_dcl (c j : Nat) : Nat := ((([[0, 0, 0, 0, 0, 0, 0, 0, 0, 0, 0, 0, 0, 0, 0, 0, 0, 0], [1, 1, 1, 1, 1, 1, 1, 1, 1, 1, 1, 1, 1, 1, 1], [2, 2, 2, 2], [3, 3, 3], [4, 4, 4, 4, 4, 4, 4], [7, 7, 7, 7, 7, 7, 7, 7, 7], [8, 8, 8, 8], [10, 10, 9], [11, 11, 11, 11, 11, 11, 11, 11], [10, 10, 12, 12, 12], [13, 13], [20, 20, 20, 20, 20, 20, 20, 20, 20, 20, 20, 20, 20, 20, 20, 20, 20, 20, 20, 20, 20, 20, 20, 20, 20, 20, 20, 20, 20, 20, 20, 20, 20, 20, 20, 20, 20, 20, 20]] : List (List Nat))[c]?).getD [])[j]?.getD 999
def gm_fty (ci : Nat) : Nat → FieldType := (gm_tyl[ci]?).getD gm_ty0
def gm_fkc (ci j : Nat) : Bool := (match gm_fk ci j, gm_fty ci j with | 0, .int => true | 1, .boolean => true | 2, .object _ => true | 2, .array _ => true | _, _ => false) && (decide (gm_isr ci j = decide (gm_fk ci j = 2)) && (decide (gm_fin ci j = (gm_Tf ci j).2.2.2) && decide (gm_rn (gm_dcl ci j) = (gm_Tf ci j).1)))
theorem gm_fk_ok : ∀ ci, ci < 12 → ∀ j, j < gm_nf ci → gm_fkc ci j = true := by decide +kernel
theorem gm_ini_ok : (List.range 370).all (fun i => !(gm_ini i) || decide ((gm_mn i).name = "<init>")) = true := by decide +kernel
theorem gm_ac_int : Jvm.Cond.arrayClass .int ∈ gm_T := gm_T_in (i := 217) (by decide +kernel) rfl
theorem gm_ac_byte : Jvm.Cond.arrayClass .byte ∈ gm_T := gm_T_in (i := 216) (by decide +kernel) rfl
theorem gm_ac_long : Jvm.Cond.arrayClass .long ∈ gm_T := gm_T_in (i := 385) (by decide +kernel) rfl
/-- new: class of the code, place in the pool, class of the object; words -/
def gm_nl : List (Nat × Nat × Nat × Nat × Nat × Nat) := [(15, 8, 0, 183, 184, 154), (0, 20, 1, 191, 192, 155), (1, 40, 2, 197, 198, 156), (0, 37, 3, 307, 308, 157), (3, 9, 1, 313, 192, 155), (0, 44, 4, 326, 327, 158), (0, 53, 5, 386, 387, 161), (0, 65, 6, 424, 425, 162), (8, 9, 2, 430, 198, 156), (0, 74, 7, 445, 446, 164), (10, 9, 8, 454, 455, 165), (0, 83, 9, 502, 503, 166), (12, 9, 2, 508, 198, 156), (0, 92, 2, 522, 198, 156), (12, 32, 10, 1172, 679, 178), (13, 9, 2, 1189, 198, 156), (15, 136, 11, 1680, 1681, 167)]
def gm_cn (ci : Nat) : String := ((gm_cs[ci]?).map (fun q => q.1)).getD ""
theorem gm_nl_ok : gm_nl.all (fun q => match q with | (o, ix, ci, p1, p2, p3) => decide (ci < 12) && decide (lw_tbl[p1]? = some (.classLink (gm_rn o) ix (gm_cn ci))) && decide (lw_tbl[p2]? = some (.instantiable (gm_cn ci) (gm_nf ci))) && decide (lw_tbl[p3]? = some (.initialized (gm_cn ci)))) = true := by decide +kernel
def gm_new (o ix : Nat) : Option Nat := (gm_nl.find? (fun q => decide (q.1 = o ∧ q.2.1 = ix))).map (fun q => q.2.2.1)
end
section
/-! STEPS that read and write cells. -/
theorem gm_lookup2 {α : Type} (l : List ((Nat × Nat) × α)) (k : Nat × Nat) (v : α) (h : l.lookup k = some v) : (k, v) ∈ l := by
  induction l with
  | nil => simp at h
  | cons q l ih =>
    obtain ⟨a, b⟩ := q
    rw [List.lookup_cons] at h
    by_cases hk : k = a
    · subst hk; simp at h; subst h; exact List.mem_cons_self
    · have hk2 : (k == a) = false := by simpa using hk
      rw [hk2] at h
      exact List.mem_cons_of_mem _ (ih h)
theorem gm_fld_spec {o ix ci j : Nat} (h : gm_fld o ix ci = some j) : ∃ C T N ref, gm_cs[ci]? = some (C, T, N) ∧ j < N ∧ N = gm_nf ci ∧ T = gm_Tf ci ∧ Jvm.Cond.fieldLink (gm_rn o) ix ref (T j).2.1 (T j).2.2.1 ∈ gm_T ∧ (ref = (T j).1 ∨ Jvm.Cond.sameField ref (T j).1 (T j).2.1 (T j).2.2.1 ∈ gm_T) := by
  unfold gm_fld at h
  cases hr : gm_fo[o]? with
  | none => rw [hr] at h; simp at h
  | some r =>
    rw [hr] at h
    have h2 := gm_lookup2 _ _ _ h
    have hlt := (List.getElem?_eq_some_iff.mp hr).1
    have h3 := List.all_eq_true.mp gm_fo_ok o (List.mem_range.mpr hlt)
    rw [hr] at h3
    have h4 := List.all_eq_true.mp h3 _ h2
    obtain ⟨q, hq, hq2⟩ := List.any_eq_true.mp h4
    have h5 := List.all_eq_true.mp gm_fl_ok q hq
    obtain ⟨a1, a2, a3, a4, a5, a6, a7⟩ := q
    simp only [decide_eq_true_eq, Prod.mk.injEq] at hq2
    obtain ⟨rfl, rfl, rfl, rfl⟩ := hq2
    simp only [gm_fck, Bool.and_eq_true, Bool.or_eq_true, decide_eq_true_eq] at h5
    obtain ⟨⟨b1, b2⟩, b3⟩ := h5
    have hci : a3 < 12 := by
      rcases Nat.lt_or_ge a3 12 with q | q
      · exact q
      · exfalso
        have : gm_nf a3 = 0 := by
          unfold gm_nf
          rw [List.getElem?_eq_none (by simpa using q)]; rfl
        omega
    obtain ⟨⟨C, T, N⟩, hc⟩ : ∃ q, gm_cs[a3]? = some q := ⟨_, List.getElem?_eq_getElem (by simpa [gm_cs] using hci)⟩
    obtain ⟨-, e1, e2, -⟩ := gm_cs_ok a3 C T N hc
    subst e2
    refine ⟨C, _, N, a5, hc, by omega, e1, rfl, gm_T_in b2 rfl, ?_⟩
    rcases b3 with b3 | b3
    · exact Or.inl b3
    · exact Or.inr (gm_T_in b3 rfl)
theorem gm_fs_at {α : Nat → Nat} {R : gm_R} {M : gm_M} {k c j : Nat} (hj : j < gm_nf c) : (gm_fs α R M k c)[j]? = some (if gm_isr c j = true then gm_rf α (R k j) else .int (Int32.ofInt (M k j))) := by
  unfold gm_fs
  rw [List.getElem?_map, List.getElem?_range hj]; rfl
theorem gm_fs_len {α : Nat → Nat} {R : gm_R} {M : gm_M} {k c : Nat} : (gm_fs α R M k c).length = gm_nf c := by simp [gm_fs]
theorem gm_en_obj {ti : Nat → ClassId} {α : Nat → Nat} {K : gm_K} {R : gm_R} {M : gm_M} {k ci : Nat} (h : (K k).1 = ci + 4) : gm_en ti α K R M k = .inr (ci, gm_fs α R M k ci) := by unfold gm_en; rw [h]
theorem gm_hs {s : State} {args : Array Value} {ref d n t : String} (hts : ∀ w ∈ gm_T, w.before args s = true) (h : ref = d ∨ Jvm.Cond.sameField ref d n t ∈ gm_T) : ∀ x, s.fieldFound? d n t = some x → s.fieldFound? ref n t = some x := by
  rcases h with rfl | h
  · exact fun _ q => q
  · exact fun x q => u_same (hts _ h) x q
theorem gm_rf_pos {α : Nat → Nat} {k : Nat} (h : 1 ≤ k) : gm_rf α k = .ref (α k) := by
  cases k with
  | zero => omega
  | succ k => rfl
section GH
variable {X : Int → Int} {LX d bc bs mi pc : Nat} {L : gm_L} {st : List gm_V} {n : Nat} {K : gm_K} {R : gm_R} {M : gm_M} {Q : gm_Q}
theorem gm_p_get {ix k ci j : Nat} (h : gm_at mi pc = some (.getfield ix)) (hk : 1 ≤ k ∧ k ≤ n) (hK : (K k).1 = ci + 4) (hf : gm_fld (gm_ow mi) ix ci = some j) : gm_Sp X LX d mi pc L (gm_vr k :: st) n K R M (pc + 3) L ((if gm_isr ci j = true then gm_vr (R k j) else gm_vi (M k j)) :: st) n K R M 0 0 := by
  intro p l e Rm s m args below meth c D ti adK adV A hcx hev hd hd2 hA α H locs cells slots ls sv Q' hc1 hc2 hR hL hS k2
  obtain ⟨w1, sv, rfl, ⟨rfl, -⟩, hS⟩ := hS
  have hdg := gm_dec hcx h rfl
  obtain ⟨hx, hb, -, hown, -, -, hts, -⟩ := id hcx
  obtain ⟨hKn, hP, hD, hSv, hRv⟩ := id hR
  obtain ⟨C, T, N, ref, q1, q2, q3, q4, q5, q6⟩ := gm_fld_spec hf
  have he := gm_wl_at (ti := ti) (α := α) (K := K) (R := R) (M := M) hk.1 hk.2
  rw [gm_en_obj hK] at he
  have hv := gm_fs_at (α := α) (R := R) (M := M) (k := k) (c := ci) (j := j) (by omega)
  rw [gm_rf_pos hk.1]
  refine va_get hx hb hts (gm_cs_ok _ _ _ _ q1).1 hown hKn hP (k - 1) he q1 j q2 (hts _ q5) (gm_hs hts q6) hv hdg ?_
  refine k2 α H locs ls _ gm_xt.rf hR hL ⟨_, _, rfl, ?_, hS⟩
  split
  · exact ⟨rfl, hRv _ _⟩
  · rfl
/-- may the field be written here: it isn't final, or this is the constructor of the class that declares it -/
def gm_may (mi ci j : Nat) : Bool := !(gm_fin ci j) || (gm_ini mi && gm_dcl ci j == gm_ow mi)
theorem gm_fs_setM {α : Nat → Nat} {R : gm_R} {M : gm_M} {k c j : Nat} {x : Int} (hj : j < gm_nf c) (hr : gm_isr c j = false) : (gm_fs α R M k c).set j (.int (Int32.ofInt x)) = gm_fs α R (gm_uM M k j x) k c := by
  apply List.ext_getElem?
  intro i
  by_cases hi : i < gm_nf c
  · rw [List.getElem?_set, gm_fs_at hi, gm_fs_at hi]
    by_cases hij : j = i
    · subst hij
      simp [gm_fs_len, hi, hr, gm_uM]
    · have : ¬ ((i : Int) = j) := by omega
      simp [hij, gm_uM, this]
  · rw [List.getElem?_eq_none (by rw [List.length_set, gm_fs_len]; omega), List.getElem?_eq_none (by rw [gm_fs_len]; omega)]
theorem gm_fs_setR {α : Nat → Nat} {R : gm_R} {M : gm_M} {k c j r : Nat} (hj : j < gm_nf c) (hr : gm_isr c j = true) : (gm_fs α R M k c).set j (gm_rf α r) = gm_fs α (gm_uR R k j r) M k c := by
  apply List.ext_getElem?
  intro i
  by_cases hi : i < gm_nf c
  · rw [List.getElem?_set, gm_fs_at hi, gm_fs_at hi]
    by_cases hij : j = i
    · subst hij
      simp [gm_fs_len, hi, hr, gm_uR]
    · have : ¬ ((i : Int) = j) := by omega
      simp [hij, gm_uR, this]
  · rw [List.getElem?_eq_none (by rw [List.length_set, gm_fs_len]; omega), List.getElem?_eq_none (by rw [gm_fs_len]; omega)]
theorem gm_en_uM {ti : Nat → ClassId} {α : Nat → Nat} {K : gm_K} {R : gm_R} {M : gm_M} {k k' : Nat} {j x : Int} (h : k' ≠ k) : gm_en ti α K R (gm_uM M k j x) k' = gm_en ti α K R M k' := by
  have e : (fun b => gm_uM M k j x k' b) = M k' := by funext b; simp [gm_uM, h]
  have e2 : gm_uM M k j x k' = M k' := e
  unfold gm_en gm_fs
  rw [e2]
theorem gm_en_uR {ti : Nat → ClassId} {α : Nat → Nat} {K : gm_K} {R : gm_R} {M : gm_M} {k k' : Nat} {j : Int} {r : Nat} (h : k' ≠ k) : gm_en ti α K (gm_uR R k j r) M k' = gm_en ti α K R M k' := by
  have e2 : gm_uR R k j r k' = R k' := by funext b; simp [gm_uR, h]
  unfold gm_en gm_fs
  rw [e2]
theorem gm_Rv_uR {n k : Nat} {R : gm_R} {j : Int} {r : Nat} (h : gm_Rv n R) (hr : r ≤ n) : gm_Rv n (gm_uR R k j r) := by
  intro a b
  unfold gm_uR
  split
  · exact hr
  · exact h a b
theorem gm_kinds {ci j : Nat} (hci : ci < 12) (hj : j < gm_nf ci) : (gm_fk ci j = 0 ∧ gm_fty ci j = .int ∧ gm_isr ci j = false ∨ gm_fk ci j = 1 ∧ gm_fty ci j = .boolean ∧ gm_isr ci j = false ∨ gm_fk ci j = 2 ∧ ((∃ C, gm_fty ci j = .object C) ∨ ∃ t, gm_fty ci j = .array t) ∧ gm_isr ci j = true) ∧ gm_fin ci j = (gm_Tf ci j).2.2.2 ∧ gm_rn (gm_dcl ci j) = (gm_Tf ci j).1 := by
  have h := gm_fk_ok ci hci j hj
  unfold gm_fkc at h
  simp only [Bool.and_eq_true, decide_eq_true_eq] at h
  obtain ⟨h1, h2, h3, h4⟩ := h
  refine ⟨?_, h3, h4⟩
  split at h1 <;> rename_i e1 e2
  · exact Or.inl ⟨e1, e2, by rw [h2, e1]; rfl⟩
  · exact Or.inr (Or.inl ⟨e1, e2, by rw [h2, e1]; rfl⟩)
  · exact Or.inr (Or.inr ⟨e1, Or.inl ⟨_, e2⟩, by rw [h2, e1]; rfl⟩)
  · exact Or.inr (Or.inr ⟨e1, Or.inr ⟨_, e2⟩, by rw [h2, e1]; rfl⟩)
  · cases h1
/-- writing a field: any value that fits -/
theorem gm_put {ix k ci j : Nat} {w : Value} {R' : gm_R} {M' : gm_M} {v : gm_V} (h : gm_at mi pc = some (.putfield ix)) (hk : 1 ≤ k ∧ k ≤ n) (hK : (K k).1 = ci + 4) (hf : gm_fld (gm_ow mi) ix ci = some j) (hm : gm_may mi ci j = true)
    (hfit : ∀ (α adK : Nat → Nat) (w : Value), gm_cv α adK n v w → narrow (gm_fty ci j) w = w ∧ fits (gm_fty ci j) w = true ∧ (gm_fs α R M k ci).set j w = gm_fs α R' M' k ci) (hne : ∀ (ti : Nat → ClassId) (α : Nat → Nat) (k' : Nat), k' ≠ k → gm_en ti α K R' M' k' = gm_en ti α K R M k') (hRv' : gm_Rv n R → ∀ (α adK : Nat → Nat) (w : Value), gm_cv α adK n v w → gm_Rv n R') : gm_Sp X LX d mi pc L (v :: gm_vr k :: st) n K R M (pc + 3) L st n K R' M' 0 0 := by
  intro p l e Rm s m args below meth c D ti adK adV A hcx hev hd hd2 hA α H locs cells slots ls sv Q' hc1 hc2 hR hL hS k2
  obtain ⟨w, sv, rfl, hw, hS⟩ := hS
  obtain ⟨w1, sv, rfl, ⟨rfl, -⟩, hS⟩ := hS
  have hdg := gm_dec hcx h rfl
  obtain ⟨hx, hb, -, hown, -, -, hts, hnm, -, hm3, -⟩ := id hcx
  obtain ⟨hKn, hP, hD, hSv, hRv⟩ := id hR
  obtain ⟨C, T, N, ref, q1, q2, q3, q4, q5, q6⟩ := gm_fld_spec hf
  obtain ⟨c1, -, -, c4, c5, ty, c6, c7⟩ := gm_cs_ok _ _ _ _ q1
  have he := gm_wl_at (ti := ti) (α := α) (K := K) (R := R) (M := M) hk.1 hk.2
  rw [gm_en_obj hK] at he
  obtain ⟨f1, f2, f3⟩ := hfit α adK w hw
  have ety : gm_fty ci = ty := by unfold gm_fty; rw [c6]; rfl
  rw [ety] at f1 f2
  obtain ⟨-, g1, g2⟩ := gm_kinds (ci := ci) (j := j) c4 (by omega)
  rw [gm_rf_pos hk.1]
  have hset : (gm_wl ti α n K R M).set (k - 1) (α k, .inr (ci, (gm_fs α R M k ci).set j w)) = gm_wl ti α n K R' M' := by
    refine gm_wl_set hk.1 hk.2 ?_ (hne ti α)
    rw [gm_en_obj hK, f3]
  have kk : ∀ (H1 : Heap) (locs1 : List Loc), va_P D gm_cs ((gm_wl ti α n K R M).set (k - 1) (α k, .inr (ci, (gm_fs α R M k ci).set j w))) H1 → va_D A ((gm_wl ti α n K R M).set (k - 1) (α k, .inr (ci, (gm_fs α R M k ci).set j w))) → va_S A s.heap H1 locs1 → W p l e Rm s m args below meth c H1 locs1 (cells + 0) (slots + 0) Q' (F0 m (pc + 3) ls sv) := by
    intro H1 locs1 p1 p2 p3
    rw [hset] at p1 p2
    exact k2 α H1 locs1 ls sv gm_xt.rf ⟨hKn, p1, p2, p3, hRv' hRv α adK w hw⟩ hL hS
  have hlen : j < (gm_fs α R M k ci).length := by rw [gm_fs_len]; omega
  by_cases hfin : (T j).2.2.2 = true
  · have hm2 : gm_ini mi = true ∧ gm_dcl ci j = gm_ow mi := by
      unfold gm_may at hm
      rw [g1, ← q4, hfin] at hm
      simpa using hm
    have hin2 : meth.name = "<init>" := by
      rw [hnm]
      have z := List.all_eq_true.mp gm_ini_ok mi (List.mem_range.mpr hm3)
      rw [hm2.1] at z
      simpa using z
    exact va_putF hx hb hts c1 ty c7 c5 hown hKn hP hD hSv (k - 1) he q1 j q2 (hts _ q5) (gm_hs hts q6) hfin hin2 (by rw [← hm2.2, g2, q4]) (c7 j q2) f1 f2 hlen hdg kk
  · exact va_put hx hb hts c1 ty c7 c5 hown hKn hP hD hSv (k - 1) he q1 j q2 (hts _ q5) (gm_hs hts q6) (by simpa using hfin) (c7 j q2) f1 f2 hlen hdg kk
theorem gm_p_puti {ix k ci j : Nat} {x : Int} (h : gm_at mi pc = some (.putfield ix)) (hk : 1 ≤ k ∧ k ≤ n) (hK : (K k).1 = ci + 4) (hf : gm_fld (gm_ow mi) ix ci = some j) (hm : gm_may mi ci j = true) (hfit : gm_fk ci j = 0 ∨ gm_fk ci j = 1 ∧ (x = 0 ∨ x = 1)) : gm_Sp X LX d mi pc L (gm_vi x :: gm_vr k :: st) n K R M (pc + 3) L st n K R (gm_uM M k j x) 0 0 := by
  obtain ⟨C, T, N, ref, q1, q2, q3, q4, q5, q6⟩ := gm_fld_spec hf
  obtain ⟨-, -, -, c4, -⟩ := gm_cs_ok _ _ _ _ q1
  refine gm_put (w := .null) h hk hK hf hm (fun α adK w hw => ?_) (fun ti α k' hk' => gm_en_uM hk') (fun hr _ _ _ _ => hr)
  cases hw
  rcases (gm_kinds (ci := ci) (j := j) c4 (by omega)).1 with ⟨e1, e2, e3⟩ | ⟨e1, e2, e3⟩ | ⟨e1, -, e3⟩
  · rw [e2]; exact ⟨rfl, rfl, gm_fs_setM (by omega) e3⟩
  · rw [e2]
    rcases hfit with hf | ⟨-, hf⟩
    · rw [e1] at hf; cases hf
    · refine ⟨?_, ?_, gm_fs_setM (by omega) e3⟩
      · rcases hf with rfl | rfl <;> rfl
      · rcases hf with rfl | rfl <;> rfl
  · rcases hfit with hf | ⟨hf, -⟩ <;> (rw [e1] at hf; cases hf)
theorem gm_p_putr {ix k ci j r : Nat} (h : gm_at mi pc = some (.putfield ix)) (hk : 1 ≤ k ∧ k ≤ n) (hK : (K k).1 = ci + 4) (hf : gm_fld (gm_ow mi) ix ci = some j) (hm : gm_may mi ci j = true) (hfit : gm_fk ci j = 2) : gm_Sp X LX d mi pc L (gm_vr r :: gm_vr k :: st) n K R M (pc + 3) L st n K (gm_uR R k j r) M 0 0 := by
  obtain ⟨C, T, N, ref, q1, q2, q3, q4, q5, q6⟩ := gm_fld_spec hf
  obtain ⟨-, -, -, c4, -⟩ := gm_cs_ok _ _ _ _ q1
  refine gm_put (w := .null) h hk hK hf hm (fun α adK w hw => ?_) (fun ti α k' hk' => gm_en_uR hk') (fun hr α adK w hw => gm_Rv_uR hr hw.2)
  obtain ⟨rfl, -⟩ := hw
  rcases (gm_kinds (ci := ci) (j := j) c4 (by omega)).1 with ⟨e1, e2, e3⟩ | ⟨e1, e2, e3⟩ | ⟨e1, e2, e3⟩
  · rw [e1] at hfit; cases hfit
  · rw [e1] at hfit; cases hfit
  · refine ⟨?_, ?_, gm_fs_setR (by omega) e3⟩
    · rcases e2 with ⟨C, e2⟩ | ⟨C, e2⟩ <;> (rw [e2]; cases r <;> rfl)
    · rcases e2 with ⟨C, e2⟩ | ⟨C, e2⟩ <;> (rw [e2]; cases r <;> rfl)
end GH
end
section
/-! STEPS with arrays, new cells, constants. -/
theorem gm_wn {e : Int} (h : 0 ≤ gm_w e) : (((Int32.ofInt e).toNatClampNeg : Nat) : Int) = gm_w e := by rw [gm_cl]; omega
theorem gm_cv_ext {α α' adK : Nat → Nat} {n n' : Nat} (hx : gm_xt α n α' n') {v : gm_V} {w : Value} (h : gm_cv α adK n v w) : gm_cv α' adK n' v w := by
  rcases v with x | x | k | c
  · exact h
  · exact h
  · obtain ⟨rfl, hk⟩ := h
    refine ⟨?_, Nat.le_trans hk hx.1⟩
    cases k with
    | zero => rfl
    | succ k => show Value.ref _ = Value.ref _; rw [hx.2 (k + 1) (by omega) hk]
  · exact h
theorem gm_lr_ext {α α' adK : Nat → Nat} {n n' nL : Nat} (hx : gm_xt α n α' n') {L : gm_L} {ls : Array Slot} (h : gm_lr α adK n nL L ls) : gm_lr α' adK n' nL L ls := by
  obtain ⟨h1, l, h2, h3⟩ := h
  exact ⟨h1, l, h2, fun i v hi => by obtain ⟨w, a, b⟩ := h3 i v hi; exact ⟨w, gm_cv_ext hx a, b⟩⟩
theorem gm_sr_ext {α α' adK : Nat → Nat} {n n' : Nat} (hx : gm_xt α n α' n') : ∀ {st : List gm_V} {sv : List Value}, gm_sr α adK n st sv → gm_sr α' adK n' st sv := by
  intro st
  induction st with
  | nil => intro sv h; exact h
  | cons v st ih =>
    intro sv h
    obtain ⟨w, sv', rfl, a, b⟩ := h
    exact ⟨w, sv', rfl, gm_cv_ext hx a, ih b⟩
theorem gm_rf_ext {α α' : Nat → Nat} {n n' : Nat} (hx : gm_xt α n α' n') {k : Nat} (hk : k ≤ n) : gm_rf α' k = gm_rf α k := by
  cases k with
  | zero => rfl
  | succ k => show Value.ref _ = Value.ref _; rw [hx.2 (k + 1) (by omega) hk]
theorem gm_ro_ext {α α' : Nat → Nat} {n n' : Nat} (hx : gm_xt α n α' n') {k : Nat} (hk : k ≤ n) : gm_ro α' k = gm_ro α k := by
  cases k with
  | zero => rfl
  | succ k => show some _ = some _; rw [hx.2 (k + 1) (by omega) hk]
def gm_al (α : Nat → Nat) (n q : Nat) : Nat → Nat := fun a => if a = n + 1 then q else α a
theorem gm_al_xt {α : Nat → Nat} {n q : Nat} : gm_xt α n (gm_al α n q) (n + 1) := ⟨by omega, fun k _ h => by simp [gm_al]; omega⟩
/-- the world with a new cell behind it -/
theorem gm_wl_push {ti : Nat → ClassId} {α : Nat → Nat} {n q kind len : Nat} {K : gm_K} {R : gm_R} {M : gm_M} {x : va_E} (hR : gm_Rv n R) (hx : gm_en ti (gm_al α n q) (gm_nK K n kind len) (gm_nR R n) (gm_nM M n) (n + 1) = x) : gm_wl ti α n K R M ++ [(q, x)] = gm_wl ti (gm_al α n q) (n + 1) (gm_nK K n kind len) (gm_nR R n) (gm_nM M n) := by
  have hold : gm_wl ti α n K R M = gm_wl ti (gm_al α n q) n (gm_nK K n kind len) (gm_nR R n) (gm_nM M n) := by
    refine gm_wl_ext fun k h1 h2 => ⟨by simp [gm_al]; omega, ?_⟩
    have eK : gm_nK K n kind len k = K k := by simp [gm_nK]; omega
    have eM : gm_nM M n k = M k := by funext b; simp [gm_nM]; omega
    have eR : gm_nR R n k = R k := by funext b; simp [gm_nR]; omega
    have e1 : ∀ j, gm_rf (gm_al α n q) (R k j) = gm_rf α (R k j) := fun j => gm_rf_ext gm_al_xt (hR k j)
    have e2 : ∀ j, gm_ro (gm_al α n q) (R k j) = gm_ro α (R k j) := fun j => gm_ro_ext gm_al_xt (hR k j)
    unfold gm_en gm_fs
    rw [eK, eM, eR]
    simp only [e1, e2]
  rw [hold, ← hx]
  unfold gm_wl
  rw [List.range_succ, List.map_append]
  simp [gm_al]
theorem gm_Rv_n {n : Nat} {R : gm_R} (h : gm_Rv n R) : gm_Rv (n + 1) (gm_nR R n) := by
  intro k j
  unfold gm_nR
  split
  · omega
  · have := h k j; omega
section GA
variable {X : Int → Int} {LX d bc bs mi pc : Nat} {L : gm_L} {st : List gm_V} {n : Nat} {K : gm_K} {R : gm_R} {M : gm_M} {Q : gm_Q}
theorem gm_p_iald {k : Nat} {e0 : Int} (h : gm_at mi pc = some .iaload) (hk : 1 ≤ k ∧ k ≤ n) (hK : (K k).1 = 0) (hi : 0 ≤ gm_w e0 ∧ gm_w e0 < (K k).2) : gm_Sp X LX d mi pc L (gm_vi e0 :: gm_vr k :: st) n K R M (pc + 1) L (gm_vi (M k (gm_w e0)) :: st) n K R M 0 0 := by
  intro p l e Rm s m args below meth c D ti adK adV A hcx hev hd hd2 hA α H locs cells slots ls sv Q' hc1 hc2 hR hL hS k2
  obtain ⟨w0, sv, rfl, h0, hS⟩ := hS
  obtain ⟨w1, sv, rfl, ⟨rfl, -⟩, hS⟩ := hS
  cases h0
  have hdg := gm_dec hcx h rfl
  obtain ⟨hx, hb, -⟩ := id hcx
  obtain ⟨hKn, hP, hD, hSv, hRv⟩ := id hR
  have he := gm_wl_at (ti := ti) (α := α) (K := K) (R := R) (M := M) hk.1 hk.2
  have e1 : gm_en ti α K R M k = .inl (ti 0, (K k).2, .inl fun j => Int32.ofInt (M k j)) := by unfold gm_en; rw [hK]
  rw [e1] at he
  rw [gm_rf_pos hk.1]
  refine va_iald hx hb hKn hP (k - 1) 0 he rfl (gm_in hi.1 hi.2) hdg ?_
  rw [gm_wn hi.1]
  exact k2 α H locs ls _ gm_xt.rf hR hL ⟨_, _, rfl, rfl, hS⟩
theorem gm_p_bald {k : Nat} {e0 : Int} (h : gm_at mi pc = some .baload) (hk : 1 ≤ k ∧ k ≤ n) (hK : (K k).1 = 1) (hi : 0 ≤ gm_w e0 ∧ gm_w e0 < (K k).2) : gm_Sp X LX d mi pc L (gm_vi e0 :: gm_vr k :: st) n K R M (pc + 1) L (gm_vi (M k (gm_w e0)) :: st) n K R M 0 0 := by
  intro p l e Rm s m args below meth c D ti adK adV A hcx hev hd hd2 hA α H locs cells slots ls sv Q' hc1 hc2 hR hL hS k2
  obtain ⟨w0, sv, rfl, h0, hS⟩ := hS
  obtain ⟨w1, sv, rfl, ⟨rfl, -⟩, hS⟩ := hS
  cases h0
  have hdg := gm_dec hcx h rfl
  obtain ⟨hx, hb, -⟩ := id hcx
  obtain ⟨hKn, hP, hD, hSv, hRv⟩ := id hR
  have he := gm_wl_at (ti := ti) (α := α) (K := K) (R := R) (M := M) hk.1 hk.2
  have e1 : gm_en ti α K R M k = .inl (ti 1, (K k).2, .inl fun j => Int32.ofInt (M k j)) := by unfold gm_en; rw [hK]
  rw [e1] at he
  rw [gm_rf_pos hk.1]
  refine va_bald hx hb hKn hP (k - 1) 1 he rfl (gm_in hi.1 hi.2) hdg ?_
  rw [gm_wn hi.1]
  exact k2 α H locs ls _ gm_xt.rf hR hL ⟨_, _, rfl, rfl, hS⟩
theorem gm_p_lald {k : Nat} {e0 : Int} (h : gm_at mi pc = some .laload) (hk : 1 ≤ k ∧ k ≤ n) (hK : (K k).1 = 2) (hi : 0 ≤ gm_w e0 ∧ gm_w e0 < (K k).2) : gm_Sp X LX d mi pc L (gm_vi e0 :: gm_vr k :: st) n K R M (pc + 1) L (gm_vl (M k (gm_w e0)) :: st) n K R M 0 0 := by
  intro p l e Rm s m args below meth c D ti adK adV A hcx hev hd hd2 hA α H locs cells slots ls sv Q' hc1 hc2 hR hL hS k2
  obtain ⟨w0, sv, rfl, h0, hS⟩ := hS
  obtain ⟨w1, sv, rfl, ⟨rfl, -⟩, hS⟩ := hS
  cases h0
  have hdg := gm_dec hcx h rfl
  obtain ⟨hx, hb, -⟩ := id hcx
  obtain ⟨hKn, hP, hD, hSv, hRv⟩ := id hR
  have he := gm_wl_at (ti := ti) (α := α) (K := K) (R := R) (M := M) hk.1 hk.2
  have e1 : gm_en ti α K R M k = .inl (ti 2, (K k).2, .inr (.inl fun j => Int64.ofInt (M k j))) := by unfold gm_en; rw [hK]
  rw [e1] at he
  rw [gm_rf_pos hk.1]
  refine va_lald hx hb hKn hP (k - 1) 2 he rfl (gm_in hi.1 hi.2) hdg ?_
  rw [gm_wn hi.1]
  exact k2 α H locs ls _ gm_xt.rf hR hL ⟨_, _, rfl, rfl, hS⟩
theorem gm_p_aald {k : Nat} {e0 : Int} (h : gm_at mi pc = some .aaload) (hk : 1 ≤ k ∧ k ≤ n) (hK : (K k).1 = 3) (hi : 0 ≤ gm_w e0 ∧ gm_w e0 < (K k).2) : gm_Sp X LX d mi pc L (gm_vi e0 :: gm_vr k :: st) n K R M (pc + 1) L (gm_vr (R k (gm_w e0)) :: st) n K R M 0 0 := by
  intro p l e Rm s m args below meth c D ti adK adV A hcx hev hd hd2 hA α H locs cells slots ls sv Q' hc1 hc2 hR hL hS k2
  obtain ⟨w0, sv, rfl, h0, hS⟩ := hS
  obtain ⟨w1, sv, rfl, ⟨rfl, -⟩, hS⟩ := hS
  cases h0
  have hdg := gm_dec hcx h rfl
  obtain ⟨hx, hb, -⟩ := id hcx
  obtain ⟨hKn, hP, hD, hSv, hRv⟩ := id hR
  have he := gm_wl_at (ti := ti) (α := α) (K := K) (R := R) (M := M) hk.1 hk.2
  have e1 : gm_en ti α K R M k = .inl (ti 3, (K k).2, .inr (.inr (.inr (.inr fun j => gm_ro α (R k j))))) := by unfold gm_en; rw [hK]
  rw [e1] at he
  rw [gm_rf_pos hk.1]
  refine va_aldq hx hb hKn hP (k - 1) 3 he rfl (gm_in hi.1 hi.2) hdg ?_
  rw [gm_wn hi.1, gm_rf_ro]
  exact k2 α H locs ls _ gm_xt.rf hR hL ⟨_, _, rfl, ⟨rfl, hRv _ _⟩, hS⟩
/-- the script -/
theorem gm_p_sald {e0 : Int} (h : gm_at mi pc = some .iaload) (hi : 0 ≤ gm_w e0 ∧ gm_w e0 < LX) : gm_Sp X LX d mi pc L (gm_vi e0 :: gm_vo 2000 :: st) n K R M (pc + 1) L (gm_vi (X (gm_w e0)) :: st) n K R M 0 0 := by
  intro p l e Rm s m args below meth c D ti adK adV A hcx hev hd hd2 hA α H locs cells slots ls sv Q' hc1 hc2 hR hL hS k2
  obtain ⟨w0, sv, rfl, h0, hS⟩ := hS
  obtain ⟨w1, sv, rfl, ⟨a, rfl, ha⟩, hS⟩ := hS
  cases h0
  have hdg := gm_dec hcx h rfl
  obtain ⟨hx, hb, -⟩ := id hcx
  obtain ⟨hKn, hP, hD, hSv, hRv⟩ := id hR
  obtain ⟨-, -, -, -, -, v1, v2, v3, -⟩ := hev
  rw [ha (by omega)]
  refine va_sld hx hb v1 v2 v3 hSv (gm_in hi.1 hi.2) hdg ?_
  rw [gm_wn hi.1]
  exact k2 α H locs ls _ gm_xt.rf hR hL ⟨_, _, rfl, rfl, hS⟩
theorem gm_ofNat (k : Nat) : Int32.ofNat k = Int32.ofInt (k : Int) := (Int32.ofInt_eq_ofNat).symm
theorem gm_p_slen (h : gm_at mi pc = some .arraylength) : gm_Sp X LX d mi pc L (gm_vo 2000 :: st) n K R M (pc + 1) L (gm_vi LX :: st) n K R M 0 0 := by
  intro p l e Rm s m args below meth c D ti adK adV A hcx hev hd hd2 hA α H locs cells slots ls sv Q' hc1 hc2 hR hL hS k2
  obtain ⟨w1, sv, rfl, ⟨a, rfl, ha⟩, hS⟩ := hS
  have hdg := gm_dec hcx h rfl
  obtain ⟨hx, hb, -⟩ := id hcx
  obtain ⟨hKn, hP, hD, hSv, hRv⟩ := id hR
  obtain ⟨-, -, -, -, -, v1, v2, v3, -⟩ := hev
  rw [ha (by omega)]
  refine va_slen hx hb v1 v2 v3 hSv hdg ?_
  exact k2 α H locs ls _ gm_xt.rf hR hL ⟨_, _, rfl, by rw [gm_ofNat]; rfl, hS⟩
theorem gm_p_alen {k : Nat} (h : gm_at mi pc = some .arraylength) (hk : 1 ≤ k ∧ k ≤ n) (hK : (K k).1 ≤ 3) : gm_Sp X LX d mi pc L (gm_vr k :: st) n K R M (pc + 1) L (gm_vi ((K k).2 : Int) :: st) n K R M 0 0 := by
  intro p l e Rm s m args below meth c D ti adK adV A hcx hev hd hd2 hA α H locs cells slots ls sv Q' hc1 hc2 hR hL hS k2
  obtain ⟨w1, sv, rfl, ⟨rfl, -⟩, hS⟩ := hS
  have hdg := gm_dec hcx h rfl
  obtain ⟨hx, hb, -⟩ := id hcx
  obtain ⟨hKn, hP, hD, hSv, hRv⟩ := id hR
  have he := gm_wl_at (ti := ti) (α := α) (K := K) (R := R) (M := M) hk.1 hk.2
  rw [gm_rf_pos hk.1]
  have k3 := k2 α H locs ls (Value.int (Int32.ofInt ((K k).2 : Int)) :: sv) gm_xt.rf hR hL ⟨_, _, rfl, rfl, hS⟩
  have hc : (K k).1 = 0 ∨ (K k).1 = 1 ∨ (K k).1 = 2 ∨ (K k).1 = 3 := by omega
  rcases hc with hc | hc | hc | hc
  · have e1 : gm_en ti α K R M k = .inl (ti 0, (K k).2, .inl fun j => Int32.ofInt (M k j)) := by unfold gm_en; rw [hc]
    rw [e1] at he
    exact va_alen hx hb hKn hP (k - 1) 0 he rfl (gm_ofNat _) hdg k3
  · have e1 : gm_en ti α K R M k = .inl (ti 1, (K k).2, .inl fun j => Int32.ofInt (M k j)) := by unfold gm_en; rw [hc]
    rw [e1] at he
    exact va_alen hx hb hKn hP (k - 1) 1 he rfl (gm_ofNat _) hdg k3
  · have e1 : gm_en ti α K R M k = .inl (ti 2, (K k).2, .inr (.inl fun j => Int64.ofInt (M k j))) := by unfold gm_en; rw [hc]
    rw [e1] at he
    exact va_alen hx hb hKn hP (k - 1) 2 he rfl (gm_ofNat _) hdg k3
  · have e1 : gm_en ti α K R M k = .inl (ti 3, (K k).2, .inr (.inr (.inr (.inr fun j => gm_ro α (R k j))))) := by unfold gm_en; rw [hc]
    rw [e1] at he
    exact va_alen hx hb hKn hP (k - 1) 3 he rfl (gm_ofNat _) hdg k3
theorem gm_updM {M : gm_M} {k : Nat} {e0 v : Int} (h : 0 ≤ gm_w e0) : upd (fun j => Int32.ofInt (M k j)) (Int32.ofInt e0).toNatClampNeg (Int32.ofInt v) = fun j : Nat => Int32.ofInt (gm_uM M k (gm_w e0) v k j) := by
  funext j
  unfold upd gm_uM
  have := gm_wn h
  by_cases hj : j = (Int32.ofInt e0).toNatClampNeg
  · rw [if_pos hj, if_pos ⟨rfl, by rw [hj]; exact this⟩]
  · rw [if_neg hj, if_neg (fun q => hj (by omega))]
theorem gm_p_iast {k : Nat} {e0 x : Int} (h : gm_at mi pc = some .iastore) (hk : 1 ≤ k ∧ k ≤ n) (hK : (K k).1 = 0) (hi : 0 ≤ gm_w e0 ∧ gm_w e0 < (K k).2) : gm_Sp X LX d mi pc L (gm_vi x :: gm_vi e0 :: gm_vr k :: st) n K R M (pc + 1) L st n K R (gm_uM M k (gm_w e0) x) 0 0 := by
  intro p l e Rm s m args below meth c D ti adK adV A hcx hev hd hd2 hA α H locs cells slots ls sv Q' hc1 hc2 hR hL hS k2
  obtain ⟨w2, sv, rfl, h2, hS⟩ := hS
  obtain ⟨w0, sv, rfl, h0, hS⟩ := hS
  obtain ⟨w1, sv, rfl, ⟨rfl, -⟩, hS⟩ := hS
  cases h0; cases h2
  have hdg := gm_dec hcx h rfl
  obtain ⟨hx, hb, -⟩ := id hcx
  obtain ⟨hKn, hP, hD, hSv, hRv⟩ := id hR
  have he := gm_wl_at (ti := ti) (α := α) (K := K) (R := R) (M := M) hk.1 hk.2
  have e1 : ∀ M : gm_M, gm_en ti α K R M k = .inl (ti 0, (K k).2, .inl fun j => Int32.ofInt (M k j)) := by intro M; unfold gm_en; rw [hK]
  rw [e1] at he
  rw [gm_rf_pos hk.1]
  refine va_iast hx hb hKn hP hD hSv (k - 1) 0 he rfl (gm_in hi.1 hi.2) hdg fun H1 locs1 p1 p2 p3 => ?_
  rw [gm_updM hi.1, gm_wl_set (M' := gm_uM M k (gm_w e0) x) (R' := R) hk.1 hk.2 (e1 _) (fun k' hk' => gm_en_uM hk')] at p1 p2
  exact k2 α H1 locs1 ls sv gm_xt.rf ⟨hKn, p1, p2, p3, hRv⟩ hL hS
theorem gm_p_bast {k : Nat} {e0 x : Int} (h : gm_at mi pc = some .bastore) (hk : 1 ≤ k ∧ k ≤ n) (hK : (K k).1 = 1) (hi : 0 ≤ gm_w e0 ∧ gm_w e0 < (K k).2) : gm_Sp X LX d mi pc L (gm_vi x :: gm_vi e0 :: gm_vr k :: st) n K R M (pc + 1) L st n K R (gm_uM M k (gm_w e0) (gm_wb x)) 0 0 := by
  intro p l e Rm s m args below meth c D ti adK adV A hcx hev hd hd2 hA α H locs cells slots ls sv Q' hc1 hc2 hR hL hS k2
  obtain ⟨w2, sv, rfl, h2, hS⟩ := hS
  obtain ⟨w0, sv, rfl, h0, hS⟩ := hS
  obtain ⟨w1, sv, rfl, ⟨rfl, -⟩, hS⟩ := hS
  cases h0; cases h2
  have hdg := gm_dec hcx h rfl
  obtain ⟨hx, hb, -⟩ := id hcx
  obtain ⟨hKn, hP, hD, hSv, hRv⟩ := id hR
  have he := gm_wl_at (ti := ti) (α := α) (K := K) (R := R) (M := M) hk.1 hk.2
  have e1 : ∀ M : gm_M, gm_en ti α K R M k = .inl (ti 1, (K k).2, .inl fun j => Int32.ofInt (M k j)) := by intro M; unfold gm_en; rw [hK]
  rw [e1] at he
  rw [gm_rf_pos hk.1]
  refine va_bast hx hb hKn hP hD hSv (k - 1) 1 he rfl (gm_in hi.1 hi.2) hdg fun H1 locs1 p1 p2 p3 => ?_
  rw [vp_nar_byte, gm_i2b, gm_updM hi.1, gm_wl_set (M' := gm_uM M k (gm_w e0) (gm_wb x)) (R' := R) hk.1 hk.2 (e1 _) (fun k' hk' => gm_en_uM hk')] at p1 p2
  exact k2 α H1 locs1 ls sv gm_xt.rf ⟨hKn, p1, p2, p3, hRv⟩ hL hS
theorem gm_updL {M : gm_M} {k : Nat} {e0 v : Int} (h : 0 ≤ gm_w e0) : vp_updL (fun j => Int64.ofInt (M k j)) (Int32.ofInt e0).toNatClampNeg (Int64.ofInt v) = fun j : Nat => Int64.ofInt (gm_uM M k (gm_w e0) v k j) := by
  funext j
  unfold vp_updL gm_uM
  have := gm_wn h
  by_cases hj : j = (Int32.ofInt e0).toNatClampNeg
  · rw [if_pos hj, if_pos ⟨rfl, by rw [hj]; exact this⟩]
  · rw [if_neg hj, if_neg (fun q => hj (by omega))]
theorem gm_p_last {k : Nat} {e0 x : Int} (h : gm_at mi pc = some .lastore) (hk : 1 ≤ k ∧ k ≤ n) (hK : (K k).1 = 2) (hi : 0 ≤ gm_w e0 ∧ gm_w e0 < (K k).2) : gm_Sp X LX d mi pc L (gm_vl x :: gm_vi e0 :: gm_vr k :: st) n K R M (pc + 1) L st n K R (gm_uM M k (gm_w e0) x) 0 0 := by
  intro p l e Rm s m args below meth c D ti adK adV A hcx hev hd hd2 hA α H locs cells slots ls sv Q' hc1 hc2 hR hL hS k2
  obtain ⟨w2, sv, rfl, h2, hS⟩ := hS
  obtain ⟨w0, sv, rfl, h0, hS⟩ := hS
  obtain ⟨w1, sv, rfl, ⟨rfl, -⟩, hS⟩ := hS
  cases h0; cases h2
  have hdg := gm_dec hcx h rfl
  obtain ⟨hx, hb, -⟩ := id hcx
  obtain ⟨hKn, hP, hD, hSv, hRv⟩ := id hR
  have he := gm_wl_at (ti := ti) (α := α) (K := K) (R := R) (M := M) hk.1 hk.2
  have e1 : ∀ M : gm_M, gm_en ti α K R M k = .inl (ti 2, (K k).2, .inr (.inl fun j => Int64.ofInt (M k j))) := by intro M; unfold gm_en; rw [hK]
  rw [e1] at he
  rw [gm_rf_pos hk.1]
  refine va_last hx hb hKn hP hD hSv (k - 1) 2 he rfl (gm_in hi.1 hi.2) hdg fun H1 locs1 p1 p2 p3 => ?_
  rw [gm_updL hi.1, gm_wl_set (M' := gm_uM M k (gm_w e0) x) (R' := R) hk.1 hk.2 (e1 _) (fun k' hk' => gm_en_uM hk')] at p1 p2
  exact k2 α H1 locs1 ls sv gm_xt.rf ⟨hKn, p1, p2, p3, hRv⟩ hL hS
end GA
end
section
/-! STEPS that make cells; constants. -/
theorem gm_new_spec {o ix ci : Nat} (h : gm_new o ix = some ci) : ci < 12 ∧ Jvm.Cond.classLink (gm_rn o) ix (gm_cn ci) ∈ gm_T ∧ Jvm.Cond.instantiable (gm_cn ci) (gm_nf ci) ∈ gm_T ∧ Jvm.Cond.initialized (gm_cn ci) ∈ gm_T := by
  unfold gm_new at h
  cases hr : gm_nl.find? (fun q => decide (q.1 = o ∧ q.2.1 = ix)) with
  | none => rw [hr] at h; cases h
  | some q =>
    rw [hr] at h
    have h1 := List.find?_some hr
    have h2 := List.mem_of_find?_eq_some hr
    have h3 := List.all_eq_true.mp gm_nl_ok q h2
    obtain ⟨a1, a2, a3, a4, a5, a6⟩ := q
    simp only [decide_eq_true_eq] at h1
    obtain ⟨rfl, rfl⟩ := h1
    simp only [Option.map_some, Option.some.injEq] at h
    subst h
    simp only [Bool.and_eq_true, decide_eq_true_eq] at h3
    obtain ⟨⟨⟨b1, b2⟩, b3⟩, b4⟩ := h3
    exact ⟨b1, gm_T_in b2 rfl, gm_T_in b3 rfl, gm_T_in b4 rfl⟩
theorem gm_cs_get {ci : Nat} (h : ci < 12) : ∃ T N, gm_cs[ci]? = some (gm_cn ci, T, N) ∧ N = gm_nf ci := by
  obtain ⟨⟨C, T, N⟩, hc⟩ : ∃ q, gm_cs[ci]? = some q := ⟨_, List.getElem?_eq_getElem (by simpa [gm_cs] using h)⟩
  have : gm_cn ci = C := by unfold gm_cn; rw [hc]; rfl
  rw [this]
  exact ⟨T, N, hc, (gm_cs_ok _ _ _ _ hc).2.1⟩
theorem gm_ti_eq {D : va_G} {ti : Nat → ClassId} {s : State} {cA : ClassId} {ty : FieldType} {i : Nat} {z : ClassId} (h1 : va_K D gm_cs (gm_ty ti) s) (hi : (gm_ty ti)[i]? = some (z, ty)) (h2 : va_K D gm_cs (gm_ty ti ++ [(cA, ty)]) s) : cA = z := by
  have a := (h1.2 i _ hi).2
  have b := (h2.2 4 (cA, ty) rfl).2
  cases ty with
  | object C =>
    obtain ⟨-, -, -, -, -, e1⟩ := a
    obtain ⟨-, -, -, -, -, e2⟩ := b
    exact Option.some.inj (e2.symm.trans e1)
  | _ => exact Option.some.inj ((show s.vm.findClass _ = some cA from b).symm.trans a)
section GN
variable {X : Int → Int} {LX d bc bs mi pc : Nat} {L : gm_L} {st : List gm_V} {n : Nat} {K : gm_K} {R : gm_R} {M : gm_M} {Q : gm_Q}
theorem gm_p_new {ix ci : Nat} (h : gm_at mi pc = some (.new ix)) (hn : gm_new (gm_ow mi) ix = some ci) : gm_Sp X LX d mi pc L st n K R M (pc + 3) L (gm_vr (n + 1) :: st) (n + 1) (gm_nK K n (ci + 4) 0) (gm_nR R n) (gm_nM M n) 1 (gm_nf ci) := by
  intro p l e Rm s m args below meth c D ti adK adV A hcx hev hd hd2 hA α H locs cells slots ls sv Q' hc1 hc2 hR hL hS k2
  have hdg := gm_dec hcx h rfl
  obtain ⟨hx, hb, -, hown, -, -, hts, -⟩ := id hcx
  obtain ⟨hKn, hP, hD, hSv, hRv⟩ := id hR
  obtain ⟨hci, n1, n2, n3⟩ := gm_new_spec hn
  obtain ⟨T, N, hc, rfl⟩ := gm_cs_get hci
  obtain ⟨c1, -, c3, -, c5, ty, c6, c7⟩ := gm_cs_ok _ _ _ _ hc
  have ety : gm_fty ci = ty := by unfold gm_fty; rw [c6]; rfl
  have efs : ∀ q : Nat, gm_en ti (gm_al α n q) (gm_nK K n (ci + 4) 0) (gm_nR R n) (gm_nM M n) (n + 1) = .inr (ci, gm_fs α (gm_nR R n) (gm_nM M n) (n + 1) ci) := by
    intro q
    rw [gm_en_obj (ci := ci) (by simp [gm_nK])]
    have e1 : ∀ α : Nat → Nat, gm_fs α (gm_nR R n) (gm_nM M n) (n + 1) ci = (List.range (gm_nf ci)).map fun j => if gm_isr ci j = true then Value.null else .int (Int32.ofInt 0) := by
      intro α
      unfold gm_fs
      apply List.map_congr_left
      intro j _
      simp [gm_nR, gm_nM, gm_rf]
    rw [e1, e1]
  refine va_new (fs := gm_fs α (gm_nR R n) (gm_nM M n) (n + 1) ci) hx hb hts c1 ty c7 hown (hts _ n1) (hts _ n2) (hts _ n3) hKn hP hD hSv hA hc (fun j hj => ?_) hc1 hc2 hdg (fun q H1 p1 p2 p3 => ?_)
  · unfold vp_V
    rw [List.getD_eq_getElem?_getD, gm_fs_at hj, Option.getD_some]
    rcases (gm_kinds hci hj).1 with ⟨-, e2, e3⟩ | ⟨-, e2, e3⟩ | ⟨-, e2, e3⟩
    · rw [← ety, e2, e3]; simp [gm_nM]; rfl
    · rw [← ety, e2, e3]; simp [gm_nM]; rfl
    · rw [← ety, e3]
      rcases e2 with ⟨C, e2⟩ | ⟨C, e2⟩ <;> (rw [e2]; simp [gm_nR, gm_rf]; rfl)
  · rw [← efs q, gm_wl_push hRv rfl] at p1 p2
    refine k2 (gm_al α n q) H1 locs ls _ gm_al_xt ⟨hKn, p1, p2, p3, gm_Rv_n hRv⟩ (gm_lr_ext gm_al_xt hL) ⟨_, _, rfl, ⟨?_, Nat.le_refl _⟩, gm_sr_ext gm_al_xt hS⟩
    simp [gm_rf, gm_al]
theorem gm_al_self {α : Nat → Nat} {n q : Nat} : gm_rf (gm_al α n q) (n + 1) = .ref q := by simp [gm_rf, gm_al]
/-- a new array of numbers: kind 0 int, 1 byte, 2 long -/
theorem gm_p_newa {at0 : ArrayType} {kd : Nat} {e0 : Int} (h : gm_at mi pc = some (.newarray at0)) (hkd : (at0 = .int ∧ kd = 0) ∨ (at0 = .byte ∧ kd = 1) ∨ (at0 = .long ∧ kd = 2)) (hi : 0 ≤ gm_w e0 ∧ gm_w e0 < 60000000) : gm_Sp X LX d mi pc L (gm_vi e0 :: st) n K R M (pc + 2) L (gm_vr (n + 1) :: st) (n + 1) (gm_nK K n kd (gm_w e0).toNat) (gm_nR R n) (gm_nM M n) 1 (gm_w e0).toNat := by
  intro p l e Rm s m args below meth c D ti adK adV A hcx hev hd hd2 hA α H locs cells slots ls sv Q' hc1 hc2 hR hL hS k2
  obtain ⟨w0, sv, rfl, h0, hS⟩ := hS
  cases h0
  have hdg := gm_dec hcx h rfl
  obtain ⟨hx, hb, -, hown, -, -, hts, -⟩ := id hcx
  obtain ⟨hKn, hP, hD, hSv, hRv⟩ := id hR
  have hneg : ¬ Int32.ofInt e0 < 0 := fun q => by
    have := (gm_lt e0 0).mp q
    have e2 : gm_w 0 = 0 := rfl
    omega
  have hN : (Int32.ofInt e0).toNatClampNeg = (gm_w e0).toNat := gm_cl e0
  rcases hkd with ⟨rfl, rfl⟩ | ⟨rfl, rfl⟩ | ⟨rfl, rfl⟩
  · refine va_newa (atype := .int) (a0 := ((gm_w e0).toNat, .inl fun j => Int32.ofInt (gm_nM M n (n + 1) j))) hx hb (hts _ gm_ac_int) rfl hKn hP hD hSv hA (fun cA => ?_) hneg hN (by show (gm_w e0).toNat * 4 ≤ _; omega) hc1 hc2 hdg fun q cA H1 p0 p1 p2 p3 => ?_
    · have : (fun j : Nat => Int32.ofInt (gm_nM M n (n + 1) j)) = fun _ => 0 := by funext j; simp [gm_nM]
      rw [this]; rfl
    · cases gm_ti_eq (i := 0) hKn rfl p0
      have e1 : gm_en ti (gm_al α n q) (gm_nK K n 0 (gm_w e0).toNat) (gm_nR R n) (gm_nM M n) (n + 1) = .inl (ti 0, (gm_w e0).toNat, .inl fun j => Int32.ofInt (gm_nM M n (n + 1) j)) := by unfold gm_en; simp [gm_nK]
      rw [← e1, gm_wl_push hRv rfl] at p1 p2
      exact k2 (gm_al α n q) H1 locs ls _ gm_al_xt ⟨hKn, p1, p2, p3, gm_Rv_n hRv⟩ (gm_lr_ext gm_al_xt hL) ⟨_, _, rfl, ⟨gm_al_self.symm, Nat.le_refl _⟩, gm_sr_ext gm_al_xt hS⟩
  · refine va_newa (atype := .byte) (a0 := ((gm_w e0).toNat, .inl fun j => Int32.ofInt (gm_nM M n (n + 1) j))) hx hb (hts _ gm_ac_byte) rfl hKn hP hD hSv hA (fun cA => ?_) hneg hN (by show (gm_w e0).toNat * 1 ≤ _; omega) hc1 hc2 hdg fun q cA H1 p0 p1 p2 p3 => ?_
    · have : (fun j : Nat => Int32.ofInt (gm_nM M n (n + 1) j)) = fun _ => 0 := by funext j; simp [gm_nM]
      rw [this]; rfl
    · cases gm_ti_eq (i := 1) hKn rfl p0
      have e1 : gm_en ti (gm_al α n q) (gm_nK K n 1 (gm_w e0).toNat) (gm_nR R n) (gm_nM M n) (n + 1) = .inl (ti 1, (gm_w e0).toNat, .inl fun j => Int32.ofInt (gm_nM M n (n + 1) j)) := by unfold gm_en; simp [gm_nK]
      rw [← e1, gm_wl_push hRv rfl] at p1 p2
      exact k2 (gm_al α n q) H1 locs ls _ gm_al_xt ⟨hKn, p1, p2, p3, gm_Rv_n hRv⟩ (gm_lr_ext gm_al_xt hL) ⟨_, _, rfl, ⟨gm_al_self.symm, Nat.le_refl _⟩, gm_sr_ext gm_al_xt hS⟩
  · refine va_newa (atype := .long) (a0 := ((gm_w e0).toNat, .inr (.inl fun j => Int64.ofInt (gm_nM M n (n + 1) j)))) hx hb (hts _ gm_ac_long) rfl hKn hP hD hSv hA (fun cA => ?_) hneg hN (by show (gm_w e0).toNat * 8 ≤ _; omega) hc1 hc2 hdg fun q cA H1 p0 p1 p2 p3 => ?_
    · have : (fun j : Nat => Int64.ofInt (gm_nM M n (n + 1) j)) = fun _ => 0 := by funext j; simp [gm_nM]
      rw [this]; rfl
    · cases gm_ti_eq (i := 2) hKn rfl p0
      have e1 : gm_en ti (gm_al α n q) (gm_nK K n 2 (gm_w e0).toNat) (gm_nR R n) (gm_nM M n) (n + 1) = .inl (ti 2, (gm_w e0).toNat, .inr (.inl fun j => Int64.ofInt (gm_nM M n (n + 1) j))) := by unfold gm_en; simp [gm_nK]
      rw [← e1, gm_wl_push hRv rfl] at p1 p2
      exact k2 (gm_al α n q) H1 locs ls _ gm_al_xt ⟨hKn, p1, p2, p3, gm_Rv_n hRv⟩ (gm_lr_ext gm_al_xt hL) ⟨_, _, rfl, ⟨gm_al_self.symm, Nat.le_refl _⟩, gm_sr_ext gm_al_xt hS⟩
/-- a new row of states -/
theorem gm_p_anew {ix ci : Nat} {e0 : Int} (h : gm_at mi pc = some (.anewarray ix)) (hn : gm_new (gm_ow mi) ix = some ci) (hci : gm_cn ci = "GlacierMail$State") (hi : 0 ≤ gm_w e0 ∧ gm_w e0 < 60000000) : gm_Sp X LX d mi pc L (gm_vi e0 :: st) n K R M (pc + 3) L (gm_vr (n + 1) :: st) (n + 1) (gm_nK K n 3 (gm_w e0).toNat) (gm_nR R n) (gm_nM M n) 1 (gm_w e0).toNat := by
  intro p l e Rm s m args below meth c D ti adK adV A hcx hev hd hd2 hA α H locs cells slots ls sv Q' hc1 hc2 hR hL hS k2
  obtain ⟨w0, sv, rfl, h0, hS⟩ := hS
  cases h0
  have hdg := gm_dec hcx h rfl
  obtain ⟨hx, hb, -, hown, -, -, hts, -⟩ := id hcx
  obtain ⟨hKn, hP, hD, hSv, hRv⟩ := id hR
  have hneg : ¬ Int32.ofInt e0 < 0 := fun q => by
    have := (gm_lt e0 0).mp q
    have e2 : gm_w 0 = 0 := rfl
    omega
  obtain ⟨-, n1, -, -⟩ := gm_new_spec hn
  rw [hci] at n1
  obtain ⟨-, -, -, -, -, -, -, -, v4, -⟩ := hev
  refine va_newq hx hb hown (hts _ n1) v4 hKn hP hD hSv hA hneg (gm_cl e0) (by omega) hc1 hc2 hdg fun q cA H1 p0 p1 p2 p3 => ?_
  cases gm_ti_eq (i := 3) hKn rfl p0
  have e1 : gm_en ti (gm_al α n q) (gm_nK K n 3 (gm_w e0).toNat) (gm_nR R n) (gm_nM M n) (n + 1) = .inl (ti 3, (gm_w e0).toNat, .inr (.inr (.inr (.inr fun _ => none)))) := by
    unfold gm_en; simp [gm_nK, gm_nR, gm_ro]
  rw [← e1, gm_wl_push hRv rfl] at p1 p2
  exact k2 (gm_al α n q) H1 locs ls _ gm_al_xt ⟨hKn, p1, p2, p3, gm_Rv_n hRv⟩ (gm_lr_ext gm_al_xt hL) ⟨_, _, rfl, ⟨gm_al_self.symm, Nat.le_refl _⟩, gm_sr_ext gm_al_xt hS⟩
theorem gm_p_aast {k r ci : Nat} {e0 : Int} (h : gm_at mi pc = some .aastore) (hk : 1 ≤ k ∧ k ≤ n) (hK : (K k).1 = 3) (hi : 0 ≤ gm_w e0 ∧ gm_w e0 < (K k).2) (hr : 1 ≤ r ∧ r ≤ n) (hKr : (K r).1 = ci + 4) (hci : ci < 12) (hcn : gm_cn ci = "GlacierMail$State") : gm_Sp X LX d mi pc L (gm_vr r :: gm_vi e0 :: gm_vr k :: st) n K R M (pc + 1) L st n K (gm_uR R k (gm_w e0) r) M 0 0 := by
  intro p l e Rm s m args below meth c D ti adK adV A hcx hev hd hd2 hA α H locs cells slots ls sv Q' hc1 hc2 hR hL hS k2
  obtain ⟨w2, sv, rfl, ⟨rfl, -⟩, hS⟩ := hS
  obtain ⟨w0, sv, rfl, h0, hS⟩ := hS
  obtain ⟨w1, sv, rfl, ⟨rfl, -⟩, hS⟩ := hS
  cases h0
  have hdg := gm_dec hcx h rfl
  obtain ⟨hx, hb, -⟩ := id hcx
  obtain ⟨hKn, hP, hD, hSv, hRv⟩ := id hR
  have he := gm_wl_at (ti := ti) (α := α) (K := K) (R := R) (M := M) hk.1 hk.2
  have he2 := gm_wl_at (ti := ti) (α := α) (K := K) (R := R) (M := M) hr.1 hr.2
  rw [gm_en_obj hKr] at he2
  have e1 : ∀ R : gm_R, gm_en ti α K R M k = .inl (ti 3, (K k).2, .inr (.inr (.inr (.inr fun j => gm_ro α (R k j))))) := by intro R; unfold gm_en; rw [hK]
  rw [e1] at he
  obtain ⟨T, N, hc, -⟩ := gm_cs_get hci
  rw [gm_rf_pos hk.1, gm_rf_pos hr.1]
  refine va_astq hx hb hKn hP hD hSv (k - 1) 3 (r - 1) ci he (by rw [hcn]; rfl) he2 hc (gm_in hi.1 hi.2) hdg fun H1 locs1 p1 p2 p3 => ?_
  have e2 : va_up (fun j : Nat => gm_ro α (R k j)) (Int32.ofInt e0).toNatClampNeg (some (α r)) = fun j : Nat => gm_ro α (gm_uR R k (gm_w e0) r k j) := by
    funext j
    unfold va_up gm_uR
    have := gm_wn hi.1
    by_cases hj : j = (Int32.ofInt e0).toNatClampNeg
    · rw [if_pos hj, if_pos ⟨rfl, by rw [hj]; exact this⟩]
      cases r with
      | zero => omega
      | succ r => rfl
    · rw [if_neg hj, if_neg (fun q => hj (by omega))]
  rw [e2, gm_wl_set (M' := M) (R' := gm_uR R k (gm_w e0) r) hk.1 hk.2 (e1 _) (fun k' hk' => gm_en_uR hk')] at p1 p2
  exact k2 α H1 locs1 ls sv gm_xt.rf ⟨hKn, p1, p2, p3, gm_Rv_uR hRv hr.2⟩ hL hS
theorem gm_ild_spec {o ix k : Nat} {v : Int} (h : gm_ild o ix = some (v, k)) : (if k = 0 then Jvm.Cond.constant (gm_rn o) ix (Int32.ofInt v) else .constantLong (gm_rn o) ix (Int64.ofInt v)) ∈ gm_T := by
  unfold gm_ild at h
  cases hr : gm_il.find? (fun q => decide (q.1 = o ∧ q.2.1 = ix)) with
  | none => rw [hr] at h; cases h
  | some q =>
    rw [hr] at h
    have h1 := List.find?_some hr
    have h3 := List.all_eq_true.mp gm_il_ok q (List.mem_of_find?_eq_some hr)
    obtain ⟨a1, a2, a3, a4, a5⟩ := q
    simp only [decide_eq_true_eq] at h1
    obtain ⟨rfl, rfl⟩ := h1
    simp only [Option.map_some, Option.some.injEq, Prod.mk.injEq] at h
    obtain ⟨rfl, rfl⟩ := h
    simp only [decide_eq_true_eq] at h3
    refine gm_T_in h3 ?_
    split <;> rfl
theorem gm_p_ldci {i : Instr} {ix : Nat} {v : Int} (h : gm_at mi pc = some i) (hi : i = .ldc ix ∨ i = .ldc_w ix) (hv : gm_ild (gm_ow mi) ix = some (v, 0)) : gm_Sp X LX d mi pc L st n K R M (pc + gm_len i) L (gm_vi v :: st) n K R M 0 0 := by
  refine gm_stk fun p l e Rm s m args below meth c hcx α adK H locs cells slots ls sv Q' hL hS k => ?_
  have hdg := gm_dec hcx h (by rcases hi with rfl | rfl <;> rfl)
  obtain ⟨hx, hb, -, hown, -, -, hts, -⟩ := hcx
  have hw := hts _ (gm_ild_spec hv)
  rcases hi with rfl | rfl
  · exact lv_ldc hx hb hown hw hdg (k _ ⟨_, _, rfl, rfl, hS⟩)
  · exact lv_ldcw hx hb hown hw hdg (k _ ⟨_, _, rfl, rfl, hS⟩)
theorem gm_p_ldcl {ix : Nat} {v : Int} (h : gm_at mi pc = some (.ldc2_w ix)) (hv : gm_ild (gm_ow mi) ix = some (v, 1)) : gm_Sp X LX d mi pc L st n K R M (pc + 3) L (gm_vl v :: st) n K R M 0 0 := by
  refine gm_stk fun p l e Rm s m args below meth c hcx α adK H locs cells slots ls sv Q' hL hS k => ?_
  have hdg := gm_dec hcx h rfl
  obtain ⟨hx, hb, -, hown, -, -, hts, -⟩ := hcx
  have hw := hts _ (gm_ild_spec hv)
  exact lv_ldc2 hx hb hown hw hdg (k _ ⟨_, _, rfl, rfl, hS⟩)
end GN
end
section
/-! CALLS, laid by wip/am/gen_tables.py. -/
def gm_na (i : Nat) : Nat := (([0, 0, 2, 0, 1, 0, 0, 0, 2, 0, 2, 2, 0, 2, 2, 2, 3, 2, 1, 5, 1, 1, 0, 0, 0, 1, 2, 1, 1, 4, 1, 0, 0, 0, 1, 3, 2, 1, 2, 4, 1, 3, 2, 0, 1, 3, 1, 2, 0, 1, 1, 3, 1, 1, 0, 1, 1, 1, 1, 0, 0, 0, 0, 1, 0, 1, 1, 2, 0, 0, 2, 0, 1, 0, 0, 1, 0, 1, 1, 0, 0, 1, 0, 0, 1, 0, 2, 2, 3, 2, 2, 1, 2, 0, 2, 1, 1, 1, 1, 1, 0, 0, 0, 0, 0, 0, 0, 0, 0, 3, 0, 0, 1, 0, 0, 0, 0, 0, 0, 4, 0, 0, 2, 0, 0, 2, 2, 3, 1, 1, 4, 2, 1, 2, 1, 5, 3, 4, 2, 1, 2, 4, 2, 1, 1, 1, 4, 2, 1, 4, 2, 4, 2, 2, 1, 4, 2, 3, 1, 2, 3, 1, 0, 1, 4, 1, 6, 4, 4, 2, 2, 4, 2, 4, 2, 1, 3, 1, 3, 1, 2, 2, 3, 0, 0, 5, 3, 2, 4, 6, 4, 4, 2, 1, 5, 3, 2, 0, 1, 2, 5, 3, 3, 4, 1, 2, 5, 3, 3, 3, 4, 2, 4, 2, 1, 1, 2, 4, 2, 2, 4, 2, 3, 1, 4, 2, 4, 2, 4, 2, 3, 1, 4, 2, 0, 0, 0, 0, 0, 0, 5, 1, 0, 0, 1, 0, 0, 2, 2, 0, 0, 1, 0, 0, 0, 0, 2, 3, 0, 0, 0, 1, 0, 0, 0, 3, 0, 0, 0, 0, 1, 0, 4, 3, 0, 1, 0, 0, 0, 1, 2, 0, 0, 2, 0, 1, 1, 3, 2, 1, 1, 2, 3, 3, 1, 1, 1, 2, 2, 1, 2, 2, 2, 1, 1, 1, 2, 5, 3, 2, 1, 1, 2, 1, 2, 2, 2, 0, 2, 1, 2, 1, 0, 1, 2, 4, 3, 2, 2, 2, 1, 0, 1, 0, 3, 1, 0, 1, 1, 3, 4, 4, 2, 1, 2, 3, 3, 2, 0, 0, 3, 1, 2, 2, 1, 3, 3, 2, 2, 1, 2, 2, 1, 1, 2, 2, 2, 1, 2, 1] : List Nat)[i]?).getD 0
def gm_cpl : List Nat := [187, 195, 201, 311, 330, 335, 339, 344, 347, 351, 355, 358, 362, 390, 428, 449, 452, 458, 506, 582, 586, 590, 594, 598, 602, 607, 610, 616, 621, 626, 630, 634, 638, 642, 647, 652, 656, 660, 664, 668, 673, 680, 687, 692, 696, 701, 706, 710, 715, 718, 725, 729, 733, 737, 741, 745, 749, 753, 757, 764, 769, 773, 778, 782, 786, 790, 794, 798, 802, 806, 809, 815, 821, 827, 831, 835, 840, 843, 846, 852, 856, 861, 865, 869, 875, 879, 882, 885, 890, 893, 896, 899, 903, 915, 920, 926, 931, 935, 940, 944, 950, 954, 968, 972, 978, 982, 991, 996, 1000, 1008, 1013, 1017, 1022, 1028, 1033, 1038, 1043, 1047, 1054, 1058, 1065, 1070, 1159, 1163, 1171, 1175, 1187, 1202, 1206, 1210, 1215, 1220, 1224, 1228, 1248, 1252, 1256, 1260, 1265, 1269, 1273, 1292, 1296, 1300, 1304, 1308, 1314, 1318, 1322, 1326, 1330, 1333, 1337, 1341, 1348, 1353, 1357, 1360, 1365, 1385, 1388, 1392, 1397, 1401, 1405, 1409, 1412, 1416, 1422, 1426, 1430, 1433, 1437, 1441, 1445, 1449, 1452, 1456, 1459, 1463, 1467, 1471, 1475, 1480, 1484, 1487, 1491, 1495, 1500, 1503, 1507, 1510, 1514, 1518, 1521, 1525, 1528, 1532, 1536, 1541, 1544, 1548, 1552, 1558, 1567, 1571, 1574, 1578, 1583, 1588, 1591, 1595, 1598, 1602, 1606, 1610, 1614, 1617, 1621, 1625, 1628, 1632, 1635, 1639, 1642, 1646, 1649, 1653, 1656, 1660, 1663, 1667, 1670, 1674, 1679, 1684, 1689, 1812, 1816, 1820, 1824, 1828, 1832, 1836, 1840, 1844, 1848, 1852, 1856, 1860, 1864, 1869, 1875, 1879, 1883, 1887, 1891, 1895, 1900, 1905, 1909, 1913, 1917, 1922, 1926, 1931, 1936, 1940, 1945, 1949, 1954, 1959, 1963, 1967, 1972, 1978, 1986, 1990, 1994, 1998, 2003, 2009, 2013, 2026, 2030, 2034, 2037, 2040, 2044, 2048, 2052, 2056, 2060, 2064, 2068, 2072, 2076, 2080, 2086, 2090, 2094, 2098, 2102, 2106, 2110, 2114, 2118, 2122, 2126, 2130, 2134, 2138, 2142, 2146, 2150, 2154, 2158, 2162, 2166, 2170, 2174, 2178, 2182, 2186, 2190, 2194, 2198, 2202, 2206, 2210, 2214, 2218, 2222, 2226, 2230, 2234, 2238, 2242, 2246, 2250, 2254, 2258, 2262, 2266, 2270, 2274, 2278, 2281, 2285, 2290, 2294, 2298, 2301, 2305, 2309, 2313, 2317, 2321, 2325, 2329, 2333, 2337, 2341, 2345, 2349, 2353, 2357, 2361, 2365, 2369]
def gm_cwd (i : Nat) : Jvm.Cond := if gm_hh i = [] then .code (gm_mn i) (gm_bc i) (gm_ml i) (gm_rt i) else .codeWith (gm_mn i) (gm_bc i) (gm_ml i) (gm_rt i) (gm_hh i)
def gm_mck (i : Nat) : Bool := (decide ((gm_mn i).cls ≠ "java/lang/invoke/MethodHandle" ∧ (gm_mn i).cls ≠ "java/lang/invoke/VarHandle") && (decide ((parseMethodDescriptor (gm_mn i).desc).map (fun d => d.parameters.length) = some (gm_na i)) && decide (gm_ml i ≤ 200)))
set_option maxRecDepth 100000 in
theorem gm_cp0 : gm_cwd 0 ∈ gm_T := gm_T_in (w := Jvm.Cond.code ⟨"GlacierMail", "<init>", "()V"⟩ prog_1_method_1_code 1 none) (i := 187) rfl rfl
set_option maxRecDepth 100000 in
theorem gm_cp1 : gm_cwd 1 ∈ gm_T := gm_T_in (w := Jvm.Cond.code ⟨"GlacierMail$State", "<init>", "()V"⟩ prog_8_method_1_code 1 none) (i := 195) rfl rfl
set_option maxRecDepth 100000 in
theorem gm_cp2 : gm_cwd 2 ∈ gm_T := gm_T_in (w := Jvm.Cond.code ⟨"GlacierMail$Rows", "<init>", "(II)V"⟩ prog_7_method_1_code 3 none) (i := 201) rfl rfl
set_option maxRecDepth 100000 in
theorem gm_cp3 : gm_cwd 3 ∈ gm_T := gm_T_in (w := Jvm.Cond.code ⟨"GlacierMail$History", "<init>", "()V"⟩ prog_3_method_1_code 2 none) (i := 311) rfl rfl
set_option maxRecDepth 100000 in
theorem gm_cp4 : gm_cwd 4 ∈ gm_T := gm_T_in (w := Jvm.Cond.code ⟨"GlacierMail$Ice", "<init>", "(LGlacierMail$State;)V"⟩ prog_4_method_1_code 2 none) (i := 330) rfl rfl
set_option maxRecDepth 100000 in
theorem gm_cp5 : gm_cwd 5 ∈ gm_T := gm_T_in (w := Jvm.Cond.code ⟨"GlacierMail$Ice", "renew", "()V"⟩ prog_4_method_2_code 1 none) (i := 335) rfl rfl
set_option maxRecDepth 100000 in
theorem gm_cp6 : gm_cwd 6 ∈ gm_T := gm_T_in (w := Jvm.Cond.code ⟨"GlacierMail$Ice", "reckonHeats", "()V"⟩ prog_4_method_3_code 3 none) (i := 339) rfl rfl
set_option maxRecDepth 100000 in
theorem gm_cp7 : gm_cwd 7 ∈ gm_T := gm_T_in (w := Jvm.Cond.code ⟨"GlacierMail$Ice", "reckonSpeeds", "()V"⟩ prog_4_method_4_code 6 none) (i := 344) rfl rfl
set_option maxRecDepth 100000 in
theorem gm_cp8 : gm_cwd 8 ∈ gm_T := gm_T_in (w := Jvm.Cond.code ⟨"java/util/Arrays", "fill", "([II)V"⟩ prog_34_method_103_code 4 none) (i := 347) rfl rfl
set_option maxRecDepth 100000 in
theorem gm_cp9 : gm_cwd 9 ∈ gm_T := gm_T_in (w := Jvm.Cond.code ⟨"GlacierMail$Rows", "size", "()I"⟩ prog_7_method_2_code 1 (some .int)) (i := 351) rfl rfl
set_option maxRecDepth 100000 in
theorem gm_cp10 : gm_cwd 10 ∈ gm_T := gm_T_in (w := Jvm.Cond.code ⟨"GlacierMail$Rows", "get", "(II)I"⟩ prog_7_method_6_code 3 (some .int)) (i := 355) rfl rfl
set_option maxRecDepth 100000 in
theorem gm_cp11 : gm_cwd 11 ∈ gm_T := gm_T_in (w := Jvm.Cond.code ⟨"java/lang/Math", "max", "(II)I"⟩ prog_24_method_65_code 2 (some .int)) (i := 358) rfl rfl
set_option maxRecDepth 100000 in
theorem gm_cp12 : gm_cwd 12 ∈ gm_T := gm_T_in (w := Jvm.Cond.code ⟨"GlacierMail$Ice", "reckonFloods", "()V"⟩ prog_4_method_5_code 3 none) (i := 362) rfl rfl
set_option maxRecDepth 100000 in
theorem gm_cp13 : gm_cwd 13 ∈ gm_T := gm_T_in (w := Jvm.Cond.code ⟨"GlacierMail$Way", "<init>", "(LGlacierMail$State;LGlacierMail$Ice;)V"⟩ prog_11_method_1_code 3 none) (i := 390) rfl rfl
set_option maxRecDepth 100000 in
theorem gm_cp14 : gm_cwd 14 ∈ gm_T := gm_T_in (w := Jvm.Cond.code ⟨"GlacierMail$Answers", "<init>", "(LGlacierMail$State;LGlacierMail$Way;)V"⟩ prog_2_method_1_code 3 none) (i := 428) rfl rfl
set_option maxRecDepth 100000 in
theorem gm_cp15 : gm_cwd 15 ∈ gm_T := gm_T_in (w := Jvm.Cond.code ⟨"GlacierMail$ValleyReader", "<init>", "([BLGlacierMail$State;)V"⟩ prog_10_method_1_code 3 none) (i := 449) rfl rfl
set_option maxRecDepth 100000 in
theorem gm_cp16 : gm_cwd 16 ∈ gm_T := gm_T_in (w := Jvm.Cond.code ⟨"GlacierMail$TextReader", "<init>", "([BII)V"⟩ prog_9_method_1_code 4 none) (i := 452) rfl rfl
set_option maxRecDepth 100000 in
theorem gm_cp17 : gm_cwd 17 ∈ gm_T := gm_T_in (w := Jvm.Cond.code ⟨"GlacierMail$Words", "<init>", "([BI)V"⟩ prog_12_method_1_code 3 none) (i := 458) rfl rfl
set_option maxRecDepth 100000 in
theorem gm_cp18 : gm_cwd 18 ∈ gm_T := gm_T_in (w := Jvm.Cond.code ⟨"GlacierMail$LawReader", "<init>", "([B)V"⟩ prog_6_method_1_code 2 none) (i := 506) rfl rfl
set_option maxRecDepth 100000 in
theorem gm_cp19 : gm_cwd 19 ∈ gm_T := gm_T_in (w := Jvm.Cond.code ⟨"GlacierMail", "feed", "(IIIII)I"⟩ prog_1_method_2_code 6 (some .int)) (i := 582) rfl rfl
set_option maxRecDepth 100000 in
theorem gm_cp20 : gm_cwd 20 ∈ gm_T := gm_T_in (w := Jvm.Cond.code ⟨"GlacierMail", "putNumber", "(I)V"⟩ prog_1_method_3_code 3 none) (i := 586) rfl rfl
set_option maxRecDepth 100000 in
theorem gm_cp21 : gm_cwd 21 ∈ gm_T := gm_T_in (w := Jvm.Cond.code ⟨"GlacierMail", "end", "(I)Z"⟩ prog_1_method_4_code 2 (some .boolean)) (i := 590) rfl rfl
set_option maxRecDepth 100000 in
theorem gm_cp22 : gm_cwd 22 ∈ gm_T := gm_T_in (w := Jvm.Cond.code ⟨"GlacierMail", "fault", "()I"⟩ prog_1_method_8_code 1 (some .int)) (i := 594) rfl rfl
set_option maxRecDepth 100000 in
theorem gm_cp23 : gm_cwd 23 ∈ gm_T := gm_T_in (w := Jvm.Cond.code ⟨"GlacierMail", "lost", "()I"⟩ prog_1_method_27_code 3 (some .int)) (i := 598) rfl rfl
set_option maxRecDepth 100000 in
theorem gm_cp24 : gm_cwd 24 ∈ gm_T := gm_T_in (w := Jvm.Cond.code ⟨"GlacierMail", "reckonEnds", "()V"⟩ prog_1_method_65_code 2 none) (i := 602) rfl rfl
set_option maxRecDepth 100000 in
theorem gm_cp25 : gm_cwd 25 ∈ gm_T := gm_T_in (w := Jvm.Cond.code ⟨"GlacierMail$Rows", "reset", "(I)V"⟩ prog_7_method_5_code 2 none) (i := 607) rfl rfl
set_option maxRecDepth 100000 in
theorem gm_cp26 : gm_cwd 26 ∈ gm_T := gm_T_in (w := Jvm.Cond.code ⟨"java/lang/Math", "min", "(II)I"⟩ prog_24_method_69_code 2 (some .int)) (i := 610) rfl rfl
set_option maxRecDepth 100000 in
theorem gm_cp27 : gm_cwd 27 ∈ gm_T := gm_T_in (w := Jvm.Cond.code ⟨"GlacierMail$Way", "startLetter", "(I)V"⟩ prog_11_method_3_code 3 none) (i := 616) rfl rfl
set_option maxRecDepth 100000 in
theorem gm_cp28 : gm_cwd 28 ∈ gm_T := gm_T_in (w := Jvm.Cond.code ⟨"GlacierMail$State", "isRock", "(I)Z"⟩ prog_8_method_4_code 2 (some .boolean)) (i := 621) rfl rfl
set_option maxRecDepth 100000 in
theorem gm_cp29 : gm_cwd 29 ∈ gm_T := gm_T_in (w := Jvm.Cond.code ⟨"GlacierMail$Way", "start", "(IIIZ)V"⟩ prog_11_method_2_code 5 none) (i := 626) rfl rfl
set_option maxRecDepth 100000 in
theorem gm_cp30 : gm_cwd 30 ∈ gm_T := gm_T_in (w := Jvm.Cond.code ⟨"GlacierMail$Way", "runOut", "(I)I"⟩ prog_11_method_11_code 3 (some .int)) (i := 630) rfl rfl
set_option maxRecDepth 100000 in
theorem gm_cp31 : gm_cwd 31 ∈ gm_T := gm_T_in (w := Jvm.Cond.code ⟨"GlacierMail$Way", "isOut", "()Z"⟩ prog_11_method_6_code 1 (some .boolean)) (i := 634) rfl rfl
set_option maxRecDepth 100000 in
theorem gm_cp32 : gm_cwd 32 ∈ gm_T := gm_T_in (w := Jvm.Cond.code ⟨"GlacierMail$Way", "step", "()V"⟩ prog_11_method_7_code 2 none) (i := 638) rfl rfl
set_option maxRecDepth 100000 in
theorem gm_cp33 : gm_cwd 33 ∈ gm_T := gm_T_in (w := Jvm.Cond.code ⟨"GlacierMail$Way", "deepAfter", "()I"⟩ prog_11_method_8_code 1 (some .int)) (i := 642) rfl rfl
set_option maxRecDepth 100000 in
theorem gm_cp34 : gm_cwd 34 ∈ gm_T := gm_T_in (w := Jvm.Cond.code ⟨"GlacierMail$Ice", "heatIn", "(I)I"⟩ prog_4_method_6_code 2 (some .int)) (i := 647) rfl rfl
set_option maxRecDepth 100000 in
theorem gm_cp35 : gm_cwd 35 ∈ gm_T := gm_T_in (w := Jvm.Cond.code ⟨"GlacierMail$Ice", "flowAt", "(III)I"⟩ prog_4_method_9_code 7 (some .int)) (i := 652) rfl rfl
set_option maxRecDepth 100000 in
theorem gm_cp36 : gm_cwd 36 ∈ gm_T := gm_T_in (w := Jvm.Cond.code ⟨"GlacierMail$Ice", "speedAt", "(II)I"⟩ prog_4_method_8_code 4 (some .int)) (i := 656) rfl rfl
set_option maxRecDepth 100000 in
theorem gm_cp37 : gm_cwd 37 ∈ gm_T := gm_T_in (w := Jvm.Cond.code ⟨"GlacierMail$Ice", "recalledFlow", "(I)I"⟩ prog_4_method_10_code 3 (some .int)) (i := 660) rfl rfl
set_option maxRecDepth 100000 in
theorem gm_cp38 : gm_cwd 38 ∈ gm_T := gm_T_in (w := Jvm.Cond.code ⟨"java/util/Arrays", "fill", "([JJ)V"⟩ prog_34_method_101_code 5 none) (i := 664) rfl rfl
set_option maxRecDepth 100000 in
theorem gm_cp39 : gm_cwd 39 ∈ gm_T := gm_T_in (w := Jvm.Cond.code ⟨"GlacierMail$Ice", "setFacts", "(IIII)V"⟩ prog_4_method_12_code 5 none) (i := 668) rfl rfl
set_option maxRecDepth 100000 in
theorem gm_cp40 : gm_cwd 40 ∈ gm_T := gm_T_in (w := Jvm.Cond.code ⟨"GlacierMail$Law", "faster", "([I)I"⟩ prog_5_method_2_code 5 (some .int)) (i := 673) rfl rfl
set_option maxRecDepth 100000 in
theorem gm_cp41 : gm_cwd 41 ∈ gm_T := gm_T_in (w := Jvm.Cond.code ⟨"GlacierMail$Law", "holds", "(II[I)Z"⟩ prog_5_method_4_code 14 (some .boolean)) (i := 680) rfl rfl
set_option maxRecDepth 100000 in
theorem gm_cp42 : gm_cwd 42 ∈ gm_T := gm_T_in (w := Jvm.Cond.code ⟨"GlacierMail$Ice", "keepFlow", "(II)V"⟩ prog_4_method_11_code 6 none) (i := 687) rfl rfl
set_option maxRecDepth 100000 in
theorem gm_cp43 : gm_cwd 43 ∈ gm_T := gm_T_in (w := Jvm.Cond.code ⟨"GlacierMail$Way", "takeFloods", "()V"⟩ prog_11_method_9_code 5 none) (i := 692) rfl rfl
set_option maxRecDepth 100000 in
theorem gm_cp44 : gm_cwd 44 ∈ gm_T := gm_T_in (w := Jvm.Cond.code ⟨"GlacierMail$Ice", "floodsIn", "(I)I"⟩ prog_4_method_7_code 2 (some .int)) (i := 696) rfl rfl
set_option maxRecDepth 100000 in
theorem gm_cp45 : gm_cwd 45 ∈ gm_T := gm_T_in (w := Jvm.Cond.code ⟨"GlacierMail$Rows", "put", "(III)V"⟩ prog_7_method_7_code 4 none) (i := 701) rfl rfl
set_option maxRecDepth 100000 in
theorem gm_cp46 : gm_cwd 46 ∈ gm_T := gm_T_in (w := Jvm.Cond.code ⟨"GlacierMail", "market", "(Z)I"⟩ prog_1_method_28_code 7 (some .int)) (i := 706) rfl rfl
set_option maxRecDepth 100000 in
theorem gm_cp47 : gm_cwd 47 ∈ gm_T := gm_T_in (w := Jvm.Cond.code ⟨"GlacierMail", "outIn", "(IZ)I"⟩ prog_1_method_66_code 5 (some .int)) (i := 710) rfl rfl
set_option maxRecDepth 100000 in
theorem gm_cp48 : gm_cwd 48 ∈ gm_T := gm_T_in (w := Jvm.Cond.code ⟨"GlacierMail", "poles", "()I"⟩ prog_1_method_37_code 4 (some .int)) (i := 715) rfl rfl
set_option maxRecDepth 100000 in
theorem gm_cp49 : gm_cwd 49 ∈ gm_T := gm_T_in (w := Jvm.Cond.code ⟨"java/lang/Integer", "bitCount", "(I)I"⟩ prog_23_method_49_code 1 (some .int)) (i := 718) rfl rfl
set_option maxRecDepth 100000 in
theorem gm_cp50 : gm_cwd 50 ∈ gm_T := gm_T_in (w := Jvm.Cond.code ⟨"GlacierMail", "allToldApart", "(I)Z"⟩ prog_1_method_38_code 4 (some .boolean)) (i := 725) rfl rfl
set_option maxRecDepth 100000 in
theorem gm_cp51 : gm_cwd 51 ∈ gm_T := gm_T_in (w := Jvm.Cond.code ⟨"GlacierMail", "toldApart", "(III)Z"⟩ prog_1_method_36_code 5 (some .boolean)) (i := 729) rfl rfl
set_option maxRecDepth 100000 in
theorem gm_cp52 : gm_cwd 52 ∈ gm_T := gm_T_in (w := Jvm.Cond.code ⟨"GlacierMail", "order", "(I)I"⟩ prog_1_method_51_code 3 (some .int)) (i := 733) rfl rfl
set_option maxRecDepth 100000 in
theorem gm_cp53 : gm_cwd 53 ∈ gm_T := gm_T_in (w := Jvm.Cond.code ⟨"GlacierMail", "outAheadOf", "(I)I"⟩ prog_1_method_52_code 7 (some .int)) (i := 737) rfl rfl
set_option maxRecDepth 100000 in
theorem gm_cp54 : gm_cwd 54 ∈ gm_T := gm_T_in (w := Jvm.Cond.code ⟨"GlacierMail", "undo", "()Z"⟩ prog_1_method_58_code 1 (some .boolean)) (i := 741) rfl rfl
set_option maxRecDepth 100000 in
theorem gm_cp55 : gm_cwd 55 ∈ gm_T := gm_T_in (w := Jvm.Cond.code ⟨"GlacierMail$History", "takeBack", "(LGlacierMail$State;)Z"⟩ prog_3_method_5_code 3 (some .boolean)) (i := 745) rfl rfl
set_option maxRecDepth 100000 in
theorem gm_cp56 : gm_cwd 56 ∈ gm_T := gm_T_in (w := Jvm.Cond.code ⟨"GlacierMail$History", "at", "(I)LGlacierMail$State;"⟩ prog_3_method_3_code 2 (some (.object "GlacierMail$State"))) (i := 749) rfl rfl
set_option maxRecDepth 100000 in
theorem gm_cp57 : gm_cwd 57 ∈ gm_T := gm_T_in (w := Jvm.Cond.code ⟨"GlacierMail$State", "copyFrom", "(LGlacierMail$State;)V"⟩ prog_8_method_2_code 2 none) (i := 753) rfl rfl
set_option maxRecDepth 100000 in
theorem gm_cp58 : gm_cwd 58 ∈ gm_T := gm_T_in (w := Jvm.Cond.code ⟨"GlacierMail$Rows", "copyFrom", "(LGlacierMail$Rows;)V"⟩ prog_7_method_8_code 2 none) (i := 757) rfl rfl
set_option maxRecDepth 100000 in
theorem gm_cp59 : gm_cwd 59 ∈ gm_T := gm_T_in (w := Jvm.Cond.code ⟨"GlacierMail", "image", "()V"⟩ prog_1_method_59_code 1 none) (i := 764) rfl rfl
set_option maxRecDepth 100000 in
theorem gm_cp60 : gm_cwd 60 ∈ gm_T := gm_T_in (w := Jvm.Cond.code ⟨"GlacierMail", "back", "()Z"⟩ prog_1_method_60_code 1 (some .boolean)) (i := 769) rfl rfl
set_option maxRecDepth 100000 in
theorem gm_cp61 : gm_cwd 61 ∈ gm_T := gm_T_in (w := Jvm.Cond.code ⟨"GlacierMail", "forgetWays", "()V"⟩ prog_1_method_7_code 1 none) (i := 773) rfl rfl
set_option maxRecDepth 100000 in
theorem gm_cp62 : gm_cwd 62 ∈ gm_T := gm_T_in (w := Jvm.Cond.code ⟨"GlacierMail$History", "forget", "()V"⟩ prog_3_method_6_code 1 none) (i := 778) rfl rfl
set_option maxRecDepth 100000 in
theorem gm_cp63 : gm_cwd 63 ∈ gm_T := gm_T_in (w := Jvm.Cond.code ⟨"GlacierMail", "count", "(I)I"⟩ prog_1_method_61_code 2 (some .int)) (i := 782) rfl rfl
set_option maxRecDepth 100000 in
theorem gm_cp64 : gm_cwd 64 ∈ gm_T := gm_T_in (w := Jvm.Cond.code ⟨"GlacierMail", "lawLines", "()I"⟩ prog_1_method_62_code 1 (some .int)) (i := 786) rfl rfl
set_option maxRecDepth 100000 in
theorem gm_cp65 : gm_cwd 65 ∈ gm_T := gm_T_in (w := Jvm.Cond.code ⟨"GlacierMail", "waiting", "(I)I"⟩ prog_1_method_70_code 5 (some .int)) (i := 790) rfl rfl
set_option maxRecDepth 100000 in
theorem gm_cp66 : gm_cwd 66 ∈ gm_T := gm_T_in (w := Jvm.Cond.code ⟨"GlacierMail", "waits", "(I)Z"⟩ prog_1_method_69_code 3 (some .boolean)) (i := 794) rfl rfl
set_option maxRecDepth 100000 in
theorem gm_cp67 : gm_cwd 67 ∈ gm_T := gm_T_in (w := Jvm.Cond.code ⟨"GlacierMail", "isOutBy", "(II)Z"⟩ prog_1_method_68_code 3 (some .boolean)) (i := 798) rfl rfl
set_option maxRecDepth 100000 in
theorem gm_cp68 : gm_cwd 68 ∈ gm_T := gm_T_in (w := Jvm.Cond.code ⟨"GlacierMail", "inIceNow", "()I"⟩ prog_1_method_71_code 3 (some .int)) (i := 802) rfl rfl
set_option maxRecDepth 100000 in
theorem gm_cp69 : gm_cwd 69 ∈ gm_T := gm_T_in (w := Jvm.Cond.code ⟨"GlacierMail$History", "size", "()I"⟩ prog_3_method_2_code 1 (some .int)) (i := 806) rfl rfl
set_option maxRecDepth 100000 in
theorem gm_cp70 : gm_cwd 70 ∈ gm_T := gm_T_in (w := Jvm.Cond.codeWith ⟨"GlacierMailLaw", "valley", "(LGlacierMail;[J)I"⟩ method_3_code 3 (some .int) [(0, 8, 11, 13), (0, 8, 14, 15)]) (i := 809) rfl rfl
set_option maxRecDepth 100000 in
theorem gm_cp71 : gm_cwd 71 ∈ gm_T := gm_T_in (w := Jvm.Cond.code ⟨"GlacierMail", "valley", "()I"⟩ prog_1_method_5_code 1 (some .int)) (i := 815) rfl rfl
set_option maxRecDepth 100000 in
theorem gm_cp72 : gm_cwd 72 ∈ gm_T := gm_T_in (w := Jvm.Cond.code ⟨"GlacierMail$TextReader", "readText", "(I)I"⟩ prog_9_method_4_code 3 (some .int)) (i := 821) rfl rfl
set_option maxRecDepth 100000 in
theorem gm_cp73 : gm_cwd 73 ∈ gm_T := gm_T_in (w := Jvm.Cond.code ⟨"GlacierMail$LawReader", "clear", "()V"⟩ prog_6_method_2_code 1 none) (i := 827) rfl rfl
set_option maxRecDepth 100000 in
theorem gm_cp74 : gm_cwd 74 ∈ gm_T := gm_T_in (w := Jvm.Cond.code ⟨"GlacierMail$ValleyReader", "clear", "()V"⟩ prog_10_method_2_code 1 none) (i := 831) rfl rfl
set_option maxRecDepth 100000 in
theorem gm_cp75 : gm_cwd 75 ∈ gm_T := gm_T_in (w := Jvm.Cond.code ⟨"GlacierMail$Words", "start", "(I)V"⟩ prog_12_method_2_code 2 none) (i := 835) rfl rfl
set_option maxRecDepth 100000 in
theorem gm_cp76 : gm_cwd 76 ∈ gm_T := gm_T_in (w := Jvm.Cond.code ⟨"GlacierMail$Words", "next", "()V"⟩ prog_12_method_4_code 2 none) (i := 840) rfl rfl
set_option maxRecDepth 100000 in
theorem gm_cp77 : gm_cwd 77 ∈ gm_T := gm_T_in (w := Jvm.Cond.code ⟨"GlacierMail$Words", "isSmall", "(B)Z"⟩ prog_12_method_5_code 1 (some .boolean)) (i := 843) rfl rfl
set_option maxRecDepth 100000 in
theorem gm_cp78 : gm_cwd 78 ∈ gm_T := gm_T_in (w := Jvm.Cond.code ⟨"GlacierMail$Words", "isDigit", "(B)Z"⟩ prog_12_method_6_code 1 (some .boolean)) (i := 846) rfl rfl
set_option maxRecDepth 100000 in
theorem gm_cp79 : gm_cwd 79 ∈ gm_T := gm_T_in (w := Jvm.Cond.code ⟨"GlacierMail$LawReader", "readLine", "()Z"⟩ prog_6_method_4_code 5 (some .boolean)) (i := 852) rfl rfl
set_option maxRecDepth 100000 in
theorem gm_cp80 : gm_cwd 80 ∈ gm_T := gm_T_in (w := Jvm.Cond.code ⟨"GlacierMail$LawReader", "readKind", "()I"⟩ prog_6_method_5_code 1 (some .int)) (i := 856) rfl rfl
set_option maxRecDepth 100000 in
theorem gm_cp81 : gm_cwd 81 ∈ gm_T := gm_T_in (w := Jvm.Cond.code ⟨"GlacierMail$Words", "isWord", "(Ljava/lang/String;)Z"⟩ prog_12_method_7_code 3 (some .boolean)) (i := 861) rfl rfl
set_option maxRecDepth 100000 in
theorem gm_cp82 : gm_cwd 82 ∈ gm_T := gm_T_in (w := Jvm.Cond.code ⟨"java/lang/String", "length", "()I"⟩ prog_26_method_54_code 1 (some .int)) (i := 865) rfl rfl
set_option maxRecDepth 100000 in
theorem gm_cp83 : gm_cwd 83 ∈ gm_T := gm_T_in (w := Jvm.Cond.code ⟨"java/lang/String", "coder", "()B"⟩ prog_26_method_152_code 1 (some .byte)) (i := 869) rfl rfl
set_option maxRecDepth 100000 in
theorem gm_cp84 : gm_cwd 84 ∈ gm_T := gm_T_in (w := Jvm.Cond.code ⟨"java/lang/String", "charAt", "(I)C"⟩ prog_26_method_56_code 2 (some .char)) (i := 875) rfl rfl
set_option maxRecDepth 100000 in
theorem gm_cp85 : gm_cwd 85 ∈ gm_T := gm_T_in (w := Jvm.Cond.code ⟨"java/lang/String", "isLatin1", "()Z"⟩ prog_26_method_154_code 1 (some .boolean)) (i := 879) rfl rfl
set_option maxRecDepth 100000 in
theorem gm_cp86 : gm_cwd 86 ∈ gm_T := gm_T_in (w := Jvm.Cond.code ⟨"java/lang/StringLatin1", "charAt", "([BI)C"⟩ prog_27_method_2_code 2 (some .char)) (i := 882) rfl rfl
set_option maxRecDepth 100000 in
theorem gm_cp87 : gm_cwd 87 ∈ gm_T := gm_T_in (w := Jvm.Cond.code ⟨"java/lang/String", "checkIndex", "(II)V"⟩ prog_26_method_155_code 2 none) (i := 885) rfl rfl
set_option maxRecDepth 100000 in
theorem gm_cp88 : gm_cwd 88 ∈ gm_T := gm_T_in (w := Jvm.Cond.code ⟨"jdk/internal/util/Preconditions", "checkIndex", "(IILjava/util/function/BiFunction;)I"⟩ prog_36_method_11_code 3 (some .int)) (i := 890) rfl rfl
set_option maxRecDepth 100000 in
theorem gm_cp89 : gm_cwd 89 ∈ gm_T := gm_T_in (w := Jvm.Cond.code ⟨"java/lang/StringUTF16", "charAt", "([BI)C"⟩ prog_28_method_83_code 2 (some .char)) (i := 893) rfl rfl
set_option maxRecDepth 100000 in
theorem gm_cp90 : gm_cwd 90 ∈ gm_T := gm_T_in (w := Jvm.Cond.code ⟨"java/lang/StringUTF16", "checkIndex", "(I[B)V"⟩ prog_28_method_91_code 2 none) (i := 896) rfl rfl
set_option maxRecDepth 100000 in
theorem gm_cp91 : gm_cwd 91 ∈ gm_T := gm_T_in (w := Jvm.Cond.code ⟨"java/lang/StringUTF16", "length", "([B)I"⟩ prog_28_method_6_code 1 (some .int)) (i := 899) rfl rfl
set_option maxRecDepth 100000 in
theorem gm_cp92 : gm_cwd 92 ∈ gm_T := gm_T_in (w := Jvm.Cond.code ⟨"java/lang/StringUTF16", "getChar", "([BI)C"⟩ prog_28_method_5_code 2 (some .char)) (i := 903) rfl rfl
set_option maxRecDepth 100000 in
theorem gm_cp93 : gm_cwd 93 ∈ gm_T := gm_T_in (w := Jvm.Cond.code ⟨"GlacierMail$Words", "refuse", "()Z"⟩ prog_12_method_12_code 1 (some .boolean)) (i := 915) rfl rfl
set_option maxRecDepth 100000 in
theorem gm_cp94 : gm_cwd 94 ∈ gm_T := gm_T_in (w := Jvm.Cond.code ⟨"GlacierMail$Words", "needNumber", "(II)I"⟩ prog_12_method_11_code 4 (some .int)) (i := 920) rfl rfl
set_option maxRecDepth 100000 in
theorem gm_cp95 : gm_cwd 95 ∈ gm_T := gm_T_in (w := Jvm.Cond.code ⟨"GlacierMail$Words", "takeWord", "(Ljava/lang/String;)Z"⟩ prog_12_method_8_code 3 (some .boolean)) (i := 926) rfl rfl
set_option maxRecDepth 100000 in
theorem gm_cp96 : gm_cwd 96 ∈ gm_T := gm_T_in (w := Jvm.Cond.code ⟨"GlacierMail$LawReader", "readCondition", "(I)Z"⟩ prog_6_method_7_code 4 (some .boolean)) (i := 931) rfl rfl
set_option maxRecDepth 100000 in
theorem gm_cp97 : gm_cwd 97 ∈ gm_T := gm_T_in (w := Jvm.Cond.code ⟨"GlacierMail$LawReader", "readAtom", "(I)Z"⟩ prog_6_method_8_code 4 (some .boolean)) (i := 935) rfl rfl
set_option maxRecDepth 100000 in
theorem gm_cp98 : gm_cwd 98 ∈ gm_T := gm_T_in (w := Jvm.Cond.code ⟨"GlacierMail$Words", "needSign", "(C)Z"⟩ prog_12_method_10_code 2 (some .boolean)) (i := 940) rfl rfl
set_option maxRecDepth 100000 in
theorem gm_cp99 : gm_cwd 99 ∈ gm_T := gm_T_in (w := Jvm.Cond.code ⟨"GlacierMail$LawReader", "put", "(I)V"⟩ prog_6_method_6_code 2 none) (i := 944) rfl rfl
set_option maxRecDepth 100000 in
theorem gm_cp100 : gm_cwd 100 ∈ gm_T := gm_T_in (w := Jvm.Cond.code ⟨"GlacierMail$LawReader", "readSum", "()Z"⟩ prog_6_method_9_code 3 (some .boolean)) (i := 950) rfl rfl
set_option maxRecDepth 100000 in
theorem gm_cp101 : gm_cwd 101 ∈ gm_T := gm_T_in (w := Jvm.Cond.code ⟨"GlacierMail$LawReader", "factCode", "()I"⟩ prog_6_method_10_code 1 (some .int)) (i := 954) rfl rfl
set_option maxRecDepth 100000 in
theorem gm_cp102 : gm_cwd 102 ∈ gm_T := gm_T_in (w := Jvm.Cond.code ⟨"GlacierMail$Rows", "add", "()I"⟩ prog_7_method_4_code 1 (some .int)) (i := 968) rfl rfl
set_option maxRecDepth 100000 in
theorem gm_cp103 : gm_cwd 103 ∈ gm_T := gm_T_in (w := Jvm.Cond.code ⟨"GlacierMail$ValleyReader", "readLine", "()Z"⟩ prog_10_method_3_code 1 (some .boolean)) (i := 972) rfl rfl
set_option maxRecDepth 100000 in
theorem gm_cp104 : gm_cwd 104 ∈ gm_T := gm_T_in (w := Jvm.Cond.code ⟨"GlacierMail$ValleyReader", "readLanes", "()Z"⟩ prog_10_method_4_code 2 (some .boolean)) (i := 978) rfl rfl
set_option maxRecDepth 100000 in
theorem gm_cp105 : gm_cwd 105 ∈ gm_T := gm_T_in (w := Jvm.Cond.code ⟨"GlacierMail$State", "isEmpty", "()Z"⟩ prog_8_method_3_code 1 (some .boolean)) (i := 982) rfl rfl
set_option maxRecDepth 100000 in
theorem gm_cp106 : gm_cwd 106 ∈ gm_T := gm_T_in (w := Jvm.Cond.code ⟨"GlacierMail$ValleyReader", "readLast", "()Z"⟩ prog_10_method_5_code 2 (some .boolean)) (i := 991) rfl rfl
set_option maxRecDepth 100000 in
theorem gm_cp107 : gm_cwd 107 ∈ gm_T := gm_T_in (w := Jvm.Cond.code ⟨"GlacierMail$ValleyReader", "readSection", "()Z"⟩ prog_10_method_6_code 5 (some .boolean)) (i := 996) rfl rfl
set_option maxRecDepth 100000 in
theorem gm_cp108 : gm_cwd 108 ∈ gm_T := gm_T_in (w := Jvm.Cond.code ⟨"GlacierMail$Rows", "isFull", "()Z"⟩ prog_7_method_3_code 1 (some .boolean)) (i := 1000) rfl rfl
set_option maxRecDepth 100000 in
theorem gm_cp109 : gm_cwd 109 ∈ gm_T := gm_T_in (w := Jvm.Cond.code ⟨"GlacierMail$ValleyReader", "readSpeeds", "(LGlacierMail$Rows;II)Z"⟩ prog_10_method_7_code 6 (some .boolean)) (i := 1008) rfl rfl
set_option maxRecDepth 100000 in
theorem gm_cp110 : gm_cwd 110 ∈ gm_T := gm_T_in (w := Jvm.Cond.code ⟨"GlacierMail$ValleyReader", "readSnow", "()Z"⟩ prog_10_method_8_code 3 (some .boolean)) (i := 1013) rfl rfl
set_option maxRecDepth 100000 in
theorem gm_cp111 : gm_cwd 111 ∈ gm_T := gm_T_in (w := Jvm.Cond.code ⟨"GlacierMail$ValleyReader", "readRow", "()I"⟩ prog_10_method_16_code 1 (some .int)) (i := 1017) rfl rfl
set_option maxRecDepth 100000 in
theorem gm_cp112 : gm_cwd 112 ∈ gm_T := gm_T_in (w := Jvm.Cond.code ⟨"GlacierMail$Words", "needWord", "(Ljava/lang/String;)Z"⟩ prog_12_method_9_code 2 (some .boolean)) (i := 1022) rfl rfl
set_option maxRecDepth 100000 in
theorem gm_cp113 : gm_cwd 113 ∈ gm_T := gm_T_in (w := Jvm.Cond.code ⟨"GlacierMail$ValleyReader", "readStripe", "()Z"⟩ prog_10_method_9_code 2 (some .boolean)) (i := 1028) rfl rfl
set_option maxRecDepth 100000 in
theorem gm_cp114 : gm_cwd 114 ∈ gm_T := gm_T_in (w := Jvm.Cond.code ⟨"GlacierMail$ValleyReader", "readSeed", "()Z"⟩ prog_10_method_10_code 2 (some .boolean)) (i := 1033) rfl rfl
set_option maxRecDepth 100000 in
theorem gm_cp115 : gm_cwd 115 ∈ gm_T := gm_T_in (w := Jvm.Cond.code ⟨"GlacierMail$ValleyReader", "readFlood", "()Z"⟩ prog_10_method_11_code 5 (some .boolean)) (i := 1038) rfl rfl
set_option maxRecDepth 100000 in
theorem gm_cp116 : gm_cwd 116 ∈ gm_T := gm_T_in (w := Jvm.Cond.code ⟨"GlacierMail$ValleyReader", "readPerson", "()Z"⟩ prog_10_method_12_code 5 (some .boolean)) (i := 1043) rfl rfl
set_option maxRecDepth 100000 in
theorem gm_cp117 : gm_cwd 117 ∈ gm_T := gm_T_in (w := Jvm.Cond.code ⟨"GlacierMail$ValleyReader", "readLane", "()I"⟩ prog_10_method_15_code 1 (some .int)) (i := 1047) rfl rfl
set_option maxRecDepth 100000 in
theorem gm_cp118 : gm_cwd 118 ∈ gm_T := gm_T_in (w := Jvm.Cond.code ⟨"GlacierMail$ValleyReader", "readRock", "()Z"⟩ prog_10_method_13_code 3 (some .boolean)) (i := 1054) rfl rfl
set_option maxRecDepth 100000 in
theorem gm_cp119 : gm_cwd 119 ∈ gm_T := gm_T_in (w := Jvm.Cond.code ⟨"GlacierMail$State", "throwIn", "(IIII)I"⟩ prog_8_method_5_code 6 (some .int)) (i := 1058) rfl rfl
set_option maxRecDepth 100000 in
theorem gm_cp120 : gm_cwd 120 ∈ gm_T := gm_T_in (w := Jvm.Cond.code ⟨"GlacierMail$ValleyReader", "readTable", "()Z"⟩ prog_10_method_14_code 1 (some .boolean)) (i := 1065) rfl rfl
set_option maxRecDepth 100000 in
theorem gm_cp121 : gm_cwd 121 ∈ gm_T := gm_T_in (w := Jvm.Cond.code ⟨"GlacierMail$Words", "wrong", "()I"⟩ prog_12_method_3_code 1 (some .int)) (i := 1070) rfl rfl
set_option maxRecDepth 100000 in
theorem gm_cp122 : gm_cwd 122 ∈ gm_T := gm_T_in (w := Jvm.Cond.codeWith ⟨"GlacierMailLaw", "law", "(LGlacierMail;[J)I"⟩ method_4_code 3 (some .int) [(0, 8, 11, 13)]) (i := 1159) rfl rfl
set_option maxRecDepth 100000 in
theorem gm_cp123 : gm_cwd 123 ∈ gm_T := gm_T_in (w := Jvm.Cond.code ⟨"GlacierMail", "law", "()I"⟩ prog_1_method_6_code 1 (some .int)) (i := 1163) rfl rfl
set_option maxRecDepth 100000 in
theorem gm_cp124 : gm_cwd 124 ∈ gm_T := gm_T_in (w := Jvm.Cond.code ⟨"GlacierMail$LawReader", "makeLaw", "()LGlacierMail$Law;"⟩ prog_6_method_3_code 1 (some (.object "GlacierMail$Law"))) (i := 1171) rfl rfl
set_option maxRecDepth 100000 in
theorem gm_cp125 : gm_cwd 125 ∈ gm_T := gm_T_in (w := Jvm.Cond.code ⟨"java/util/Arrays", "copyOf", "([II)[I"⟩ prog_34_method_123_code 3 (some (.array .int))) (i := 1175) rfl rfl
set_option maxRecDepth 100000 in
theorem gm_cp126 : gm_cwd 126 ∈ gm_T := gm_T_in (w := Jvm.Cond.code ⟨"GlacierMail$Law", "<init>", "(LGlacierMail$Rows;[I)V"⟩ prog_5_method_1_code 3 none) (i := 1187) rfl rfl
set_option maxRecDepth 100000 in
theorem gm_cp127 : gm_cwd 127 ∈ gm_T := gm_T_in (w := Jvm.Cond.codeWith ⟨"GlacierMailLaw", "heat", "(LGlacierMail;I[J)I"⟩ method_5_code 4 (some .int) [(0, 9, 12, 13)]) (i := 1202) rfl rfl
set_option maxRecDepth 100000 in
theorem gm_cp128 : gm_cwd 128 ∈ gm_T := gm_T_in (w := Jvm.Cond.code ⟨"GlacierMail", "heat", "(I)I"⟩ prog_1_method_9_code 2 (some .int)) (i := 1206) rfl rfl
set_option maxRecDepth 100000 in
theorem gm_cp129 : gm_cwd 129 ∈ gm_T := gm_T_in (w := Jvm.Cond.code ⟨"GlacierMail", "needYear", "(I)V"⟩ prog_1_method_83_code 2 none) (i := 1210) rfl rfl
set_option maxRecDepth 100000 in
theorem gm_cp130 : gm_cwd 130 ∈ gm_T := gm_T_in (w := Jvm.Cond.codeWith ⟨"GlacierMailLaw", "speed", "(LGlacierMail;II[J)I"⟩ method_6_code 5 (some .int) [(0, 10, 13, 28)]) (i := 1215) rfl rfl
set_option maxRecDepth 100000 in
theorem gm_cp131 : gm_cwd 131 ∈ gm_T := gm_T_in (w := Jvm.Cond.code ⟨"GlacierMail", "speed", "(II)I"⟩ prog_1_method_10_code 3 (some .int)) (i := 1220) rfl rfl
set_option maxRecDepth 100000 in
theorem gm_cp132 : gm_cwd 132 ∈ gm_T := gm_T_in (w := Jvm.Cond.code ⟨"GlacierMail", "needLane", "(I)V"⟩ prog_1_method_78_code 2 none) (i := 1224) rfl rfl
set_option maxRecDepth 100000 in
theorem gm_cp133 : gm_cwd 133 ∈ gm_T := gm_T_in (w := Jvm.Cond.code ⟨"GlacierMail", "need", "(II)V"⟩ prog_1_method_77_code 3 none) (i := 1228) rfl rfl
set_option maxRecDepth 100000 in
theorem gm_cp134 : gm_cwd 134 ∈ gm_T := gm_T_in (w := Jvm.Cond.code ⟨"GlacierMail", "needRow", "(I)V"⟩ prog_1_method_79_code 2 none) (i := 1248) rfl rfl
set_option maxRecDepth 100000 in
theorem gm_cp135 : gm_cwd 135 ∈ gm_T := gm_T_in (w := Jvm.Cond.codeWith ⟨"GlacierMailLaw", "flow", "(LGlacierMail;III[J)I"⟩ method_7_code 6 (some .int) [(0, 12, 15, 28), (0, 12, 19, 13)]) (i := 1252) rfl rfl
set_option maxRecDepth 100000 in
theorem gm_cp136 : gm_cwd 136 ∈ gm_T := gm_T_in (w := Jvm.Cond.code ⟨"GlacierMail", "flow", "(III)I"⟩ prog_1_method_11_code 4 (some .int)) (i := 1256) rfl rfl
set_option maxRecDepth 100000 in
theorem gm_cp137 : gm_cwd 137 ∈ gm_T := gm_T_in (w := Jvm.Cond.codeWith ⟨"GlacierMailLaw", "person", "(LGlacierMail;II[J)I"⟩ method_8_code 5 (some .int) [(0, 10, 13, 28), (0, 10, 17, 37)]) (i := 1260) rfl rfl
set_option maxRecDepth 100000 in
theorem gm_cp138 : gm_cwd 138 ∈ gm_T := gm_T_in (w := Jvm.Cond.code ⟨"GlacierMail", "person", "(II)I"⟩ prog_1_method_12_code 3 (some .int)) (i := 1265) rfl rfl
set_option maxRecDepth 100000 in
theorem gm_cp139 : gm_cwd 139 ∈ gm_T := gm_T_in (w := Jvm.Cond.code ⟨"GlacierMail", "needPerson", "(I)V"⟩ prog_1_method_80_code 2 none) (i := 1269) rfl rfl
set_option maxRecDepth 100000 in
theorem gm_cp140 : gm_cwd 140 ∈ gm_T := gm_T_in (w := Jvm.Cond.code ⟨"GlacierMail", "lettersWith", "(II)I"⟩ prog_1_method_72_code 5 (some .int)) (i := 1273) rfl rfl
set_option maxRecDepth 100000 in
theorem gm_cp141 : gm_cwd 141 ∈ gm_T := gm_T_in (w := Jvm.Cond.codeWith ⟨"GlacierMailLaw", "letter", "(LGlacierMail;II[J)I"⟩ method_9_code 5 (some .int) [(0, 10, 13, 28), (0, 10, 17, 37)]) (i := 1292) rfl rfl
set_option maxRecDepth 100000 in
theorem gm_cp142 : gm_cwd 142 ∈ gm_T := gm_T_in (w := Jvm.Cond.code ⟨"GlacierMail", "letter", "(II)I"⟩ prog_1_method_13_code 3 (some .int)) (i := 1296) rfl rfl
set_option maxRecDepth 100000 in
theorem gm_cp143 : gm_cwd 143 ∈ gm_T := gm_T_in (w := Jvm.Cond.code ⟨"GlacierMail", "needLetter", "(I)V"⟩ prog_1_method_81_code 2 none) (i := 1300) rfl rfl
set_option maxRecDepth 100000 in
theorem gm_cp144 : gm_cwd 144 ∈ gm_T := gm_T_in (w := Jvm.Cond.code ⟨"GlacierMail", "outOf", "(I)I"⟩ prog_1_method_63_code 2 (some .int)) (i := 1304) rfl rfl
set_option maxRecDepth 100000 in
theorem gm_cp145 : gm_cwd 145 ∈ gm_T := gm_T_in (w := Jvm.Cond.code ⟨"GlacierMail", "firstBare", "(I)I"⟩ prog_1_method_64_code 3 (some .int)) (i := 1308) rfl rfl
set_option maxRecDepth 100000 in
theorem gm_cp146 : gm_cwd 146 ∈ gm_T := gm_T_in (w := Jvm.Cond.codeWith ⟨"GlacierMailLaw", "where", "(LGlacierMail;II[J)I"⟩ method_10_code 5 (some .int) [(0, 10, 13, 28), (0, 10, 17, 13)]) (i := 1314) rfl rfl
set_option maxRecDepth 100000 in
theorem gm_cp147 : gm_cwd 147 ∈ gm_T := gm_T_in (w := Jvm.Cond.code ⟨"GlacierMail", "where", "(II)I"⟩ prog_1_method_14_code 3 (some .int)) (i := 1318) rfl rfl
set_option maxRecDepth 100000 in
theorem gm_cp148 : gm_cwd 148 ∈ gm_T := gm_T_in (w := Jvm.Cond.code ⟨"GlacierMail$Way", "goOnTo", "(I)V"⟩ prog_11_method_10_code 3 none) (i := 1322) rfl rfl
set_option maxRecDepth 100000 in
theorem gm_cp149 : gm_cwd 149 ∈ gm_T := gm_T_in (w := Jvm.Cond.codeWith ⟨"GlacierMailLaw", "deep", "(LGlacierMail;II[J)I"⟩ method_11_code 5 (some .int) [(0, 10, 13, 28), (0, 10, 17, 13)]) (i := 1326) rfl rfl
set_option maxRecDepth 100000 in
theorem gm_cp150 : gm_cwd 150 ∈ gm_T := gm_T_in (w := Jvm.Cond.code ⟨"GlacierMail", "deep", "(II)I"⟩ prog_1_method_15_code 3 (some .int)) (i := 1330) rfl rfl
set_option maxRecDepth 100000 in
theorem gm_cp151 : gm_cwd 151 ∈ gm_T := gm_T_in (w := Jvm.Cond.codeWith ⟨"GlacierMailLaw", "post", "(LGlacierMail;II[J)I"⟩ method_12_code 5 (some .int) [(0, 10, 13, 28), (0, 10, 17, 13), (0, 10, 21, 15)]) (i := 1333) rfl rfl
set_option maxRecDepth 100000 in
theorem gm_cp152 : gm_cwd 152 ∈ gm_T := gm_T_in (w := Jvm.Cond.code ⟨"GlacierMail", "post", "(II)I"⟩ prog_1_method_16_code 3 (some .int)) (i := 1337) rfl rfl
set_option maxRecDepth 100000 in
theorem gm_cp153 : gm_cwd 153 ∈ gm_T := gm_T_in (w := Jvm.Cond.code ⟨"GlacierMail", "needUnlike", "(II)V"⟩ prog_1_method_85_code 3 none) (i := 1341) rfl rfl
set_option maxRecDepth 100000 in
theorem gm_cp154 : gm_cwd 154 ∈ gm_T := gm_T_in (w := Jvm.Cond.code ⟨"GlacierMail$History", "remember", "(LGlacierMail$State;)V"⟩ prog_3_method_4_code 3 none) (i := 1348) rfl rfl
set_option maxRecDepth 100000 in
theorem gm_cp155 : gm_cwd 155 ∈ gm_T := gm_T_in (w := Jvm.Cond.codeWith ⟨"GlacierMailLaw", "watch", "(LGlacierMail;II[J)I"⟩ method_13_code 5 (some .int) [(0, 10, 13, 28)]) (i := 1353) rfl rfl
set_option maxRecDepth 100000 in
theorem gm_cp156 : gm_cwd 156 ∈ gm_T := gm_T_in (w := Jvm.Cond.code ⟨"GlacierMail", "watch", "(II)I"⟩ prog_1_method_17_code 4 (some .int)) (i := 1357) rfl rfl
set_option maxRecDepth 100000 in
theorem gm_cp157 : gm_cwd 157 ∈ gm_T := gm_T_in (w := Jvm.Cond.codeWith ⟨"GlacierMailLaw", "open", "(LGlacierMail;I[J)I"⟩ method_14_code 4 (some .int) [(0, 9, 12, 28), (0, 9, 15, 57)]) (i := 1360) rfl rfl
set_option maxRecDepth 100000 in
theorem gm_cp158 : gm_cwd 158 ∈ gm_T := gm_T_in (w := Jvm.Cond.code ⟨"GlacierMail", "open", "(I)I"⟩ prog_1_method_18_code 2 (some .int)) (i := 1365) rfl rfl
set_option maxRecDepth 100000 in
theorem gm_cp159 : gm_cwd 159 ∈ gm_T := gm_T_in (w := Jvm.Cond.code ⟨"GlacierMail$State", "openLetter", "(II)V"⟩ prog_8_method_6_code 4 none) (i := 1385) rfl rfl
set_option maxRecDepth 100000 in
theorem gm_cp160 : gm_cwd 160 ∈ gm_T := gm_T_in (w := Jvm.Cond.codeWith ⟨"GlacierMailLaw", "years", "(LGlacierMail;I[J)I"⟩ method_15_code 4 (some .int) [(0, 9, 12, 13)]) (i := 1388) rfl rfl
set_option maxRecDepth 100000 in
theorem gm_cp161 : gm_cwd 161 ∈ gm_T := gm_T_in (w := Jvm.Cond.code ⟨"GlacierMail", "years", "(I)I"⟩ prog_1_method_19_code 4 (some .int)) (i := 1392) rfl rfl
set_option maxRecDepth 100000 in
theorem gm_cp162 : gm_cwd 162 ∈ gm_T := gm_T_in (w := Jvm.Cond.code ⟨"GlacierMail", "oneYearMore", "()I"⟩ prog_1_method_20_code 4 (some .int)) (i := 1397) rfl rfl
set_option maxRecDepth 100000 in
theorem gm_cp163 : gm_cwd 163 ∈ gm_T := gm_T_in (w := Jvm.Cond.code ⟨"GlacierMail", "openerOf", "(I)I"⟩ prog_1_method_21_code 6 (some .int)) (i := 1401) rfl rfl
set_option maxRecDepth 100000 in
theorem gm_cp164 : gm_cwd 164 ∈ gm_T := gm_T_in (w := Jvm.Cond.code ⟨"GlacierMail$Ice", "mayOpen", "(IIII)Z"⟩ prog_4_method_13_code 5 (some .boolean)) (i := 1405) rfl rfl
set_option maxRecDepth 100000 in
theorem gm_cp165 : gm_cwd 165 ∈ gm_T := gm_T_in (w := Jvm.Cond.code ⟨"GlacierMail$Law", "letsOpen", "([I)Z"⟩ prog_5_method_3_code 4 (some .boolean)) (i := 1409) rfl rfl
set_option maxRecDepth 100000 in
theorem gm_cp166 : gm_cwd 166 ∈ gm_T := gm_T_in (w := Jvm.Cond.codeWith ⟨"GlacierMailLaw", "throwsFor", "(LGlacierMail;IIII[J)I"⟩ method_16_code 7 (some .int) [(0, 14, 17, 28), (0, 14, 21, 13), (0, 14, 25, 37)]) (i := 1412) rfl rfl
set_option maxRecDepth 100000 in
theorem gm_cp167 : gm_cwd 167 ∈ gm_T := gm_T_in (w := Jvm.Cond.code ⟨"GlacierMail", "throwsFor", "(IIII)I"⟩ prog_1_method_22_code 9 (some .int)) (i := 1416) rfl rfl
set_option maxRecDepth 100000 in
theorem gm_cp168 : gm_cwd 168 ∈ gm_T := gm_T_in (w := Jvm.Cond.codeWith ⟨"GlacierMailLaw", "latest", "(LGlacierMail;II[J)I"⟩ method_17_code 5 (some .int) [(0, 10, 13, 28), (0, 10, 17, 13)]) (i := 1422) rfl rfl
set_option maxRecDepth 100000 in
theorem gm_cp169 : gm_cwd 169 ∈ gm_T := gm_T_in (w := Jvm.Cond.code ⟨"GlacierMail", "latest", "(II)I"⟩ prog_1_method_23_code 4 (some .int)) (i := 1426) rfl rfl
set_option maxRecDepth 100000 in
theorem gm_cp170 : gm_cwd 170 ∈ gm_T := gm_T_in (w := Jvm.Cond.code ⟨"GlacierMail$Way", "startHut", "(II)V"⟩ prog_11_method_4_code 3 none) (i := 1430) rfl rfl
set_option maxRecDepth 100000 in
theorem gm_cp171 : gm_cwd 171 ∈ gm_T := gm_T_in (w := Jvm.Cond.codeWith ⟨"GlacierMailLaw", "hut", "(LGlacierMail;II[J)I"⟩ method_18_code 5 (some .int) [(0, 10, 13, 28), (0, 10, 17, 13)]) (i := 1433) rfl rfl
set_option maxRecDepth 100000 in
theorem gm_cp172 : gm_cwd 172 ∈ gm_T := gm_T_in (w := Jvm.Cond.code ⟨"GlacierMail", "hut", "(II)I"⟩ prog_1_method_24_code 5 (some .int)) (i := 1437) rfl rfl
set_option maxRecDepth 100000 in
theorem gm_cp173 : gm_cwd 173 ∈ gm_T := gm_T_in (w := Jvm.Cond.codeWith ⟨"GlacierMailLaw", "without", "(LGlacierMail;II[J)I"⟩ method_19_code 5 (some .int) [(0, 10, 13, 28)]) (i := 1441) rfl rfl
set_option maxRecDepth 100000 in
theorem gm_cp174 : gm_cwd 174 ∈ gm_T := gm_T_in (w := Jvm.Cond.code ⟨"GlacierMail", "without", "(II)I"⟩ prog_1_method_25_code 3 (some .int)) (i := 1445) rfl rfl
set_option maxRecDepth 100000 in
theorem gm_cp175 : gm_cwd 175 ∈ gm_T := gm_T_in (w := Jvm.Cond.code ⟨"GlacierMail$Way", "leaveOut", "(I)V"⟩ prog_11_method_5_code 2 none) (i := 1449) rfl rfl
set_option maxRecDepth 100000 in
theorem gm_cp176 : gm_cwd 176 ∈ gm_T := gm_T_in (w := Jvm.Cond.codeWith ⟨"GlacierMailLaw", "moved", "(LGlacierMail;I[J)I"⟩ method_20_code 4 (some .int) [(0, 9, 12, 28)]) (i := 1452) rfl rfl
set_option maxRecDepth 100000 in
theorem gm_cp177 : gm_cwd 177 ∈ gm_T := gm_T_in (w := Jvm.Cond.code ⟨"GlacierMail", "moved", "(I)I"⟩ prog_1_method_26_code 2 (some .int)) (i := 1456) rfl rfl
set_option maxRecDepth 100000 in
theorem gm_cp178 : gm_cwd 178 ∈ gm_T := gm_T_in (w := Jvm.Cond.codeWith ⟨"GlacierMailLaw", "passes", "(LGlacierMail;I[J)I"⟩ method_21_code 4 (some .int) [(0, 9, 12, 28)]) (i := 1459) rfl rfl
set_option maxRecDepth 100000 in
theorem gm_cp179 : gm_cwd 179 ∈ gm_T := gm_T_in (w := Jvm.Cond.code ⟨"GlacierMail", "passes", "(I)I"⟩ prog_1_method_29_code 4 (some .int)) (i := 1463) rfl rfl
set_option maxRecDepth 100000 in
theorem gm_cp180 : gm_cwd 180 ∈ gm_T := gm_T_in (w := Jvm.Cond.code ⟨"GlacierMail", "sameLane", "(II)Z"⟩ prog_1_method_73_code 3 (some .boolean)) (i := 1467) rfl rfl
set_option maxRecDepth 100000 in
theorem gm_cp181 : gm_cwd 181 ∈ gm_T := gm_T_in (w := Jvm.Cond.code ⟨"GlacierMail", "passesBy", "(II)Z"⟩ prog_1_method_30_code 5 (some .boolean)) (i := 1471) rfl rfl
set_option maxRecDepth 100000 in
theorem gm_cp182 : gm_cwd 182 ∈ gm_T := gm_T_in (w := Jvm.Cond.code ⟨"GlacierMail", "startBoth", "(III)I"⟩ prog_1_method_74_code 5 (some .int)) (i := 1475) rfl rfl
set_option maxRecDepth 100000 in
theorem gm_cp183 : gm_cwd 183 ∈ gm_T := gm_T_in (w := Jvm.Cond.code ⟨"GlacierMail", "bothInIce", "()Z"⟩ prog_1_method_76_code 1 (some .boolean)) (i := 1480) rfl rfl
set_option maxRecDepth 100000 in
theorem gm_cp184 : gm_cwd 184 ∈ gm_T := gm_T_in (w := Jvm.Cond.code ⟨"GlacierMail", "stepBoth", "()V"⟩ prog_1_method_75_code 1 none) (i := 1484) rfl rfl
set_option maxRecDepth 100000 in
theorem gm_cp185 : gm_cwd 185 ∈ gm_T := gm_T_in (w := Jvm.Cond.codeWith ⟨"GlacierMailLaw", "writers", "(LGlacierMail;III[J)I"⟩ method_22_code 6 (some .int) [(0, 12, 15, 28), (0, 12, 19, 13)]) (i := 1487) rfl rfl
set_option maxRecDepth 100000 in
theorem gm_cp186 : gm_cwd 186 ∈ gm_T := gm_T_in (w := Jvm.Cond.code ⟨"GlacierMail", "writers", "(III)I"⟩ prog_1_method_31_code 6 (some .int)) (i := 1491) rfl rfl
set_option maxRecDepth 100000 in
theorem gm_cp187 : gm_cwd 187 ∈ gm_T := gm_T_in (w := Jvm.Cond.code ⟨"GlacierMail", "needFind", "(II)V"⟩ prog_1_method_84_code 3 none) (i := 1495) rfl rfl
set_option maxRecDepth 100000 in
theorem gm_cp188 : gm_cwd 188 ∈ gm_T := gm_T_in (w := Jvm.Cond.code ⟨"GlacierMail", "latestWriting", "(IIII)I"⟩ prog_1_method_33_code 6 (some .int)) (i := 1500) rfl rfl
set_option maxRecDepth 100000 in
theorem gm_cp189 : gm_cwd 189 ∈ gm_T := gm_T_in (w := Jvm.Cond.codeWith ⟨"GlacierMailLaw", "wrote", "(LGlacierMail;IIII[J)I"⟩ method_23_code 7 (some .int) [(0, 14, 17, 28), (0, 14, 21, 13)]) (i := 1503) rfl rfl
set_option maxRecDepth 100000 in
theorem gm_cp190 : gm_cwd 190 ∈ gm_T := gm_T_in (w := Jvm.Cond.code ⟨"GlacierMail", "wrote", "(IIII)I"⟩ prog_1_method_32_code 5 (some .int)) (i := 1507) rfl rfl
set_option maxRecDepth 100000 in
theorem gm_cp191 : gm_cwd 191 ∈ gm_T := gm_T_in (w := Jvm.Cond.codeWith ⟨"GlacierMailLaw", "table", "(LGlacierMail;II[J)I"⟩ method_24_code 5 (some .int) [(0, 10, 13, 28)]) (i := 1510) rfl rfl
set_option maxRecDepth 100000 in
theorem gm_cp192 : gm_cwd 192 ∈ gm_T := gm_T_in (w := Jvm.Cond.code ⟨"GlacierMail", "table", "(II)I"⟩ prog_1_method_34_code 3 (some .int)) (i := 1514) rfl rfl
set_option maxRecDepth 100000 in
theorem gm_cp193 : gm_cwd 193 ∈ gm_T := gm_T_in (w := Jvm.Cond.code ⟨"GlacierMail", "needTable", "(I)V"⟩ prog_1_method_82_code 2 none) (i := 1518) rfl rfl
set_option maxRecDepth 100000 in
theorem gm_cp194 : gm_cwd 194 ∈ gm_T := gm_T_in (w := Jvm.Cond.codeWith ⟨"GlacierMailLaw", "apart", "(LGlacierMail;III[J)I"⟩ method_25_code 6 (some .int) [(0, 19, 22, 28)]) (i := 1521) rfl rfl
set_option maxRecDepth 100000 in
theorem gm_cp195 : gm_cwd 195 ∈ gm_T := gm_T_in (w := Jvm.Cond.code ⟨"GlacierMail", "apart", "(III)Z"⟩ prog_1_method_35_code 4 (some .boolean)) (i := 1525) rfl rfl
set_option maxRecDepth 100000 in
theorem gm_cp196 : gm_cwd 196 ∈ gm_T := gm_T_in (w := Jvm.Cond.codeWith ⟨"GlacierMailLaw", "fit", "(LGlacierMail;[J)I"⟩ method_26_code 3 (some .int) [(0, 8, 11, 13)]) (i := 1528) rfl rfl
set_option maxRecDepth 100000 in
theorem gm_cp197 : gm_cwd 197 ∈ gm_T := gm_T_in (w := Jvm.Cond.code ⟨"GlacierMail", "fit", "()I"⟩ prog_1_method_39_code 4 (some .int)) (i := 1532) rfl rfl
set_option maxRecDepth 100000 in
theorem gm_cp198 : gm_cwd 198 ∈ gm_T := gm_T_in (w := Jvm.Cond.code ⟨"GlacierMail", "areReadings", "(I)Z"⟩ prog_1_method_40_code 5 (some .boolean)) (i := 1536) rfl rfl
set_option maxRecDepth 100000 in
theorem gm_cp199 : gm_cwd 199 ∈ gm_T := gm_T_in (w := Jvm.Cond.code ⟨"GlacierMail", "fitsReadings", "(II)Z"⟩ prog_1_method_41_code 4 (some .boolean)) (i := 1541) rfl rfl
set_option maxRecDepth 100000 in
theorem gm_cp200 : gm_cwd 200 ∈ gm_T := gm_T_in (w := Jvm.Cond.codeWith ⟨"GlacierMailLaw", "soonest", "(LGlacierMail;IIZ[J)I"⟩ method_27_code 6 (some .int) [(0, 12, 15, 28), (0, 12, 19, 13)]) (i := 1544) rfl rfl
set_option maxRecDepth 100000 in
theorem gm_cp201 : gm_cwd 201 ∈ gm_T := gm_T_in (w := Jvm.Cond.code ⟨"GlacierMail", "soonest", "(IIZ)I"⟩ prog_1_method_42_code 5 (some .int)) (i := 1548) rfl rfl
set_option maxRecDepth 100000 in
theorem gm_cp202 : gm_cwd 202 ∈ gm_T := gm_T_in (w := Jvm.Cond.code ⟨"GlacierMail$Answers", "spread", "(III)V"⟩ prog_2_method_2_code 7 none) (i := 1552) rfl rfl
set_option maxRecDepth 100000 in
theorem gm_cp203 : gm_cwd 203 ∈ gm_T := gm_T_in (w := Jvm.Cond.code ⟨"GlacierMail$Answers", "throwAgain", "(IIII)V"⟩ prog_2_method_3_code 10 none) (i := 1558) rfl rfl
set_option maxRecDepth 100000 in
theorem gm_cp204 : gm_cwd 204 ∈ gm_T := gm_T_in (w := Jvm.Cond.code ⟨"GlacierMail$Answers", "firstYear", "(I)I"⟩ prog_2_method_4_code 3 (some .int)) (i := 1567) rfl rfl
set_option maxRecDepth 100000 in
theorem gm_cp205 : gm_cwd 205 ∈ gm_T := gm_T_in (w := Jvm.Cond.code ⟨"GlacierMail$Answers", "fewestThrows", "(II)I"⟩ prog_2_method_5_code 3 (some .int)) (i := 1571) rfl rfl
set_option maxRecDepth 100000 in
theorem gm_cp206 : gm_cwd 206 ∈ gm_T := gm_T_in (w := Jvm.Cond.codeWith ⟨"GlacierMailLaw", "chain", "(LGlacierMail;III[J)I"⟩ method_28_code 6 (some .int) [(0, 12, 15, 28), (0, 12, 19, 13)]) (i := 1574) rfl rfl
set_option maxRecDepth 100000 in
theorem gm_cp207 : gm_cwd 207 ∈ gm_T := gm_T_in (w := Jvm.Cond.code ⟨"GlacierMail", "chain", "(III)I"⟩ prog_1_method_43_code 4 (some .int)) (i := 1578) rfl rfl
set_option maxRecDepth 100000 in
theorem gm_cp208 : gm_cwd 208 ∈ gm_T := gm_T_in (w := Jvm.Cond.code ⟨"GlacierMail$Answers", "holder", "(III)I"⟩ prog_2_method_6_code 9 (some .int)) (i := 1583) rfl rfl
set_option maxRecDepth 100000 in
theorem gm_cp209 : gm_cwd 209 ∈ gm_T := gm_T_in (w := Jvm.Cond.code ⟨"GlacierMail$Answers", "throwAhead", "(III)I"⟩ prog_2_method_7_code 7 (some .int)) (i := 1588) rfl rfl
set_option maxRecDepth 100000 in
theorem gm_cp210 : gm_cwd 210 ∈ gm_T := gm_T_in (w := Jvm.Cond.codeWith ⟨"GlacierMailLaw", "reached", "(LGlacierMail;II[J)I"⟩ method_29_code 5 (some .int) [(0, 10, 13, 28), (0, 10, 17, 13)]) (i := 1591) rfl rfl
set_option maxRecDepth 100000 in
theorem gm_cp211 : gm_cwd 211 ∈ gm_T := gm_T_in (w := Jvm.Cond.code ⟨"GlacierMail", "reached", "(II)I"⟩ prog_1_method_44_code 5 (some .int)) (i := 1595) rfl rfl
set_option maxRecDepth 100000 in
theorem gm_cp212 : gm_cwd 212 ∈ gm_T := gm_T_in (w := Jvm.Cond.codeWith ⟨"GlacierMailLaw", "thieves", "(LGlacierMail;IZ[J)I"⟩ method_30_code 5 (some .int) [(0, 10, 13, 13)]) (i := 1598) rfl rfl
set_option maxRecDepth 100000 in
theorem gm_cp213 : gm_cwd 213 ∈ gm_T := gm_T_in (w := Jvm.Cond.code ⟨"GlacierMail", "thieves", "(IZ)I"⟩ prog_1_method_45_code 5 (some .int)) (i := 1602) rfl rfl
set_option maxRecDepth 100000 in
theorem gm_cp214 : gm_cwd 214 ∈ gm_T := gm_T_in (w := Jvm.Cond.code ⟨"GlacierMail", "needThiefYears", "(I)V"⟩ prog_1_method_86_code 2 none) (i := 1606) rfl rfl
set_option maxRecDepth 100000 in
theorem gm_cp215 : gm_cwd 215 ∈ gm_T := gm_T_in (w := Jvm.Cond.code ⟨"GlacierMail", "reckonCame", "(I)V"⟩ prog_1_method_67_code 5 none) (i := 1610) rfl rfl
set_option maxRecDepth 100000 in
theorem gm_cp216 : gm_cwd 216 ∈ gm_T := gm_T_in (w := Jvm.Cond.code ⟨"GlacierMail", "bestNext", "(II)I"⟩ prog_1_method_46_code 4 (some .int)) (i := 1614) rfl rfl
set_option maxRecDepth 100000 in
theorem gm_cp217 : gm_cwd 217 ∈ gm_T := gm_T_in (w := Jvm.Cond.codeWith ⟨"GlacierMailLaw", "watchman", "(LGlacierMail;IZ[J)I"⟩ method_31_code 5 (some .int) [(0, 10, 13, 13)]) (i := 1617) rfl rfl
set_option maxRecDepth 100000 in
theorem gm_cp218 : gm_cwd 218 ∈ gm_T := gm_T_in (w := Jvm.Cond.code ⟨"GlacierMail", "watchman", "(IZ)I"⟩ prog_1_method_47_code 5 (some .int)) (i := 1621) rfl rfl
set_option maxRecDepth 100000 in
theorem gm_cp219 : gm_cwd 219 ∈ gm_T := gm_T_in (w := Jvm.Cond.code ⟨"GlacierMail", "mostBeside", "(II)I"⟩ prog_1_method_48_code 7 (some .int)) (i := 1625) rfl rfl
set_option maxRecDepth 100000 in
theorem gm_cp220 : gm_cwd 220 ∈ gm_T := gm_T_in (w := Jvm.Cond.codeWith ⟨"GlacierMailLaw", "meeting", "(LGlacierMail;II[J)I"⟩ method_32_code 5 (some .int) [(0, 10, 13, 28), (0, 10, 17, 13)]) (i := 1628) rfl rfl
set_option maxRecDepth 100000 in
theorem gm_cp221 : gm_cwd 221 ∈ gm_T := gm_T_in (w := Jvm.Cond.code ⟨"GlacierMail", "meeting", "(II)I"⟩ prog_1_method_49_code 5 (some .int)) (i := 1632) rfl rfl
set_option maxRecDepth 100000 in
theorem gm_cp222 : gm_cwd 222 ∈ gm_T := gm_T_in (w := Jvm.Cond.codeWith ⟨"GlacierMailLaw", "outs", "(LGlacierMail;I[J)I"⟩ method_33_code 4 (some .int) [(0, 9, 12, 13)]) (i := 1635) rfl rfl
set_option maxRecDepth 100000 in
theorem gm_cp223 : gm_cwd 223 ∈ gm_T := gm_T_in (w := Jvm.Cond.code ⟨"GlacierMail", "outs", "(I)I"⟩ prog_1_method_50_code 2 (some .int)) (i := 1639) rfl rfl
set_option maxRecDepth 100000 in
theorem gm_cp224 : gm_cwd 224 ∈ gm_T := gm_T_in (w := Jvm.Cond.codeWith ⟨"GlacierMailLaw", "streams", "(LGlacierMail;IZ[J)I"⟩ method_34_code 5 (some .int) [(0, 10, 13, 13)]) (i := 1642) rfl rfl
set_option maxRecDepth 100000 in
theorem gm_cp225 : gm_cwd 225 ∈ gm_T := gm_T_in (w := Jvm.Cond.code ⟨"GlacierMail", "streams", "(IZ)I"⟩ prog_1_method_53_code 6 (some .int)) (i := 1646) rfl rfl
set_option maxRecDepth 100000 in
theorem gm_cp226 : gm_cwd 226 ∈ gm_T := gm_T_in (w := Jvm.Cond.codeWith ⟨"GlacierMailLaw", "range", "(LGlacierMail;II[J)I"⟩ method_35_code 5 (some .int) [(0, 10, 13, 28), (0, 10, 17, 13)]) (i := 1649) rfl rfl
set_option maxRecDepth 100000 in
theorem gm_cp227 : gm_cwd 227 ∈ gm_T := gm_T_in (w := Jvm.Cond.code ⟨"GlacierMail", "range", "(II)I"⟩ prog_1_method_54_code 4 (some .int)) (i := 1653) rfl rfl
set_option maxRecDepth 100000 in
theorem gm_cp228 : gm_cwd 228 ∈ gm_T := gm_T_in (w := Jvm.Cond.codeWith ⟨"GlacierMailLaw", "swiftest", "(LGlacierMail;II[J)I"⟩ method_36_code 5 (some .int) [(0, 10, 13, 28), (0, 10, 17, 13)]) (i := 1656) rfl rfl
set_option maxRecDepth 100000 in
theorem gm_cp229 : gm_cwd 229 ∈ gm_T := gm_T_in (w := Jvm.Cond.code ⟨"GlacierMail", "swiftest", "(II)I"⟩ prog_1_method_55_code 7 (some .int)) (i := 1660) rfl rfl
set_option maxRecDepth 100000 in
theorem gm_cp230 : gm_cwd 230 ∈ gm_T := gm_T_in (w := Jvm.Cond.codeWith ⟨"GlacierMailLaw", "bare", "(LGlacierMail;I[J)I"⟩ method_37_code 4 (some .int) [(0, 9, 12, 13)]) (i := 1663) rfl rfl
set_option maxRecDepth 100000 in
theorem gm_cp231 : gm_cwd 231 ∈ gm_T := gm_T_in (w := Jvm.Cond.code ⟨"GlacierMail", "bare", "(I)I"⟩ prog_1_method_56_code 4 (some .int)) (i := 1667) rfl rfl
set_option maxRecDepth 100000 in
theorem gm_cp232 : gm_cwd 232 ∈ gm_T := gm_T_in (w := Jvm.Cond.codeWith ⟨"GlacierMailLaw", "log", "(LGlacierMail;II[J)I"⟩ method_38_code 5 (some .int) [(0, 10, 13, 37)]) (i := 1670) rfl rfl
set_option maxRecDepth 100000 in
theorem gm_cp233 : gm_cwd 233 ∈ gm_T := gm_T_in (w := Jvm.Cond.code ⟨"GlacierMail", "log", "(II)I"⟩ prog_1_method_57_code 3 (some .int)) (i := 1674) rfl rfl
set_option maxRecDepth 100000 in
theorem gm_cp234 : gm_cwd 234 ∈ gm_T := gm_T_in (w := Jvm.Cond.code ⟨"GlacierMailModel", "thrown", "()I"⟩ prog_14_method_1_code 1 (some .int)) (i := 1679) rfl rfl
set_option maxRecDepth 100000 in
theorem gm_cp235 : gm_cwd 235 ∈ gm_T := gm_T_in (w := Jvm.Cond.code ⟨"GlacierMailModel", "<init>", "()V"⟩ prog_14_method_5_code 1 none) (i := 1684) rfl rfl
set_option maxRecDepth 100000 in
theorem gm_cp236 : gm_cwd 236 ∈ gm_T := gm_T_in (w := Jvm.Cond.code ⟨"GlacierMailModel", "warms", "()V"⟩ prog_14_method_65_code 3 none) (i := 1689) rfl rfl
set_option maxRecDepth 100000 in
theorem gm_cp237 : gm_cwd 237 ∈ gm_T := gm_T_in (w := Jvm.Cond.code ⟨"GlacierMailModel", "image", "()V"⟩ prog_14_method_6_code 2 none) (i := 1812) rfl rfl
set_option maxRecDepth 100000 in
theorem gm_cp238 : gm_cwd 238 ∈ gm_T := gm_T_in (w := Jvm.Cond.code ⟨"GlacierMailModel", "back", "()Z"⟩ prog_14_method_7_code 2 (some .boolean)) (i := 1816) rfl rfl
set_option maxRecDepth 100000 in
theorem gm_cp239 : gm_cwd 239 ∈ gm_T := gm_T_in (w := Jvm.Cond.code ⟨"GlacierMailModel", "undo", "()Z"⟩ prog_14_method_9_code 2 (some .boolean)) (i := 1820) rfl rfl
set_option maxRecDepth 100000 in
theorem gm_cp240 : gm_cwd 240 ∈ gm_T := gm_T_in (w := Jvm.Cond.code ⟨"GlacierMailModel", "feed", "(IIIII)I"⟩ prog_14_method_24_code 7 (some .int)) (i := 1824) rfl rfl
set_option maxRecDepth 100000 in
theorem gm_cp241 : gm_cwd 241 ∈ gm_T := gm_T_in (w := Jvm.Cond.code ⟨"GlacierMailModel", "end", "(I)Z"⟩ prog_14_method_25_code 2 (some .boolean)) (i := 1828) rfl rfl
set_option maxRecDepth 100000 in
theorem gm_cp242 : gm_cwd 242 ∈ gm_T := gm_T_in (w := Jvm.Cond.code ⟨"GlacierMailModel", "fault", "()I"⟩ prog_14_method_35_code 1 (some .int)) (i := 1832) rfl rfl
set_option maxRecDepth 100000 in
theorem gm_cp243 : gm_cwd 243 ∈ gm_T := gm_T_in (w := Jvm.Cond.code ⟨"GlacierMailModel", "valley", "()I"⟩ prog_14_method_60_code 3 (some .int)) (i := 1836) rfl rfl
set_option maxRecDepth 100000 in
theorem gm_cp244 : gm_cwd 244 ∈ gm_T := gm_T_in (w := Jvm.Cond.code ⟨"GlacierMailModel", "readAll", "(Z)I"⟩ prog_14_method_59_code 3 (some .int)) (i := 1840) rfl rfl
set_option maxRecDepth 100000 in
theorem gm_cp245 : gm_cwd 245 ∈ gm_T := gm_T_in (w := Jvm.Cond.code ⟨"GlacierMailModel", "uses", "()V"⟩ prog_14_method_36_code 1 none) (i := 1844) rfl rfl
set_option maxRecDepth 100000 in
theorem gm_cp246 : gm_cwd 246 ∈ gm_T := gm_T_in (w := Jvm.Cond.code ⟨"GlacierMailModel", "blanks", "()V"⟩ prog_14_method_27_code 1 none) (i := 1848) rfl rfl
set_option maxRecDepth 100000 in
theorem gm_cp247 : gm_cwd 247 ∈ gm_T := gm_T_in (w := Jvm.Cond.code ⟨"GlacierMailModel", "isAt", "(II)Z"⟩ prog_14_method_26_code 3 (some .boolean)) (i := 1852) rfl rfl
set_option maxRecDepth 100000 in
theorem gm_cp248 : gm_cwd 248 ∈ gm_T := gm_T_in (w := Jvm.Cond.code ⟨"GlacierMailModel", "readLine", "(ZI)Z"⟩ prog_14_method_58_code 3 (some .boolean)) (i := 1856) rfl rfl
set_option maxRecDepth 100000 in
theorem gm_cp249 : gm_cwd 249 ∈ gm_T := gm_T_in (w := Jvm.Cond.code ⟨"GlacierMailModel", "letterRow", "()V"⟩ prog_14_method_28_code 1 none) (i := 1860) rfl rfl
set_option maxRecDepth 100000 in
theorem gm_cp250 : gm_cwd 250 ∈ gm_T := gm_T_in (w := Jvm.Cond.code ⟨"GlacierMailModel", "readValleyLine", "()Z"⟩ prog_14_method_50_code 3 (some .boolean)) (i := 1864) rfl rfl
set_option maxRecDepth 100000 in
theorem gm_cp251 : gm_cwd 251 ∈ gm_T := gm_T_in (w := Jvm.Cond.code ⟨"GlacierMailModel", "isWord", "(Ljava/lang/String;)Z"⟩ prog_14_method_29_code 4 (some .boolean)) (i := 1869) rfl rfl
set_option maxRecDepth 100000 in
theorem gm_cp252 : gm_cwd 252 ∈ gm_T := gm_T_in (w := Jvm.Cond.code ⟨"GlacierMailModel", "readLanes", "()Z"⟩ prog_14_method_40_code 2 (some .boolean)) (i := 1875) rfl rfl
set_option maxRecDepth 100000 in
theorem gm_cp253 : gm_cwd 253 ∈ gm_T := gm_T_in (w := Jvm.Cond.code ⟨"GlacierMailModel", "isEmpty", "()Z"⟩ prog_14_method_39_code 1 (some .boolean)) (i := 1879) rfl rfl
set_option maxRecDepth 100000 in
theorem gm_cp254 : gm_cwd 254 ∈ gm_T := gm_T_in (w := Jvm.Cond.code ⟨"GlacierMailModel", "people", "()I"⟩ prog_14_method_12_code 1 (some .int)) (i := 1883) rfl rfl
set_option maxRecDepth 100000 in
theorem gm_cp255 : gm_cwd 255 ∈ gm_T := gm_T_in (w := Jvm.Cond.code ⟨"GlacierMailModel", "letters", "()I"⟩ prog_14_method_13_code 1 (some .int)) (i := 1887) rfl rfl
set_option maxRecDepth 100000 in
theorem gm_cp256 : gm_cwd 256 ∈ gm_T := gm_T_in (w := Jvm.Cond.code ⟨"GlacierMailModel", "number", "(II)I"⟩ prog_14_method_33_code 3 (some .int)) (i := 1891) rfl rfl
set_option maxRecDepth 100000 in
theorem gm_cp257 : gm_cwd 257 ∈ gm_T := gm_T_in (w := Jvm.Cond.code ⟨"GlacierMailModel", "figures", "(III)I"⟩ prog_14_method_32_code 5 (some .int)) (i := 1895) rfl rfl
set_option maxRecDepth 100000 in
theorem gm_cp258 : gm_cwd 258 ∈ gm_T := gm_T_in (w := Jvm.Cond.code ⟨"GlacierMailModel", "readLast", "()Z"⟩ prog_14_method_41_code 2 (some .boolean)) (i := 1900) rfl rfl
set_option maxRecDepth 100000 in
theorem gm_cp259 : gm_cwd 259 ∈ gm_T := gm_T_in (w := Jvm.Cond.code ⟨"GlacierMailModel", "readSection", "()Z"⟩ prog_14_method_43_code 4 (some .boolean)) (i := 1905) rfl rfl
set_option maxRecDepth 100000 in
theorem gm_cp260 : gm_cwd 260 ∈ gm_T := gm_T_in (w := Jvm.Cond.code ⟨"GlacierMailModel", "lip", "()I"⟩ prog_14_method_11_code 1 (some .int)) (i := 1909) rfl rfl
set_option maxRecDepth 100000 in
theorem gm_cp261 : gm_cwd 261 ∈ gm_T := gm_T_in (w := Jvm.Cond.code ⟨"GlacierMailModel", "readSpeeds", "(I)Z"⟩ prog_14_method_42_code 4 (some .boolean)) (i := 1913) rfl rfl
set_option maxRecDepth 100000 in
theorem gm_cp262 : gm_cwd 262 ∈ gm_T := gm_T_in (w := Jvm.Cond.code ⟨"GlacierMailModel", "lanes", "()I"⟩ prog_14_method_10_code 1 (some .int)) (i := 1917) rfl rfl
set_option maxRecDepth 100000 in
theorem gm_cp263 : gm_cwd 263 ∈ gm_T := gm_T_in (w := Jvm.Cond.code ⟨"GlacierMailModel", "readSnow", "()Z"⟩ prog_14_method_44_code 3 (some .boolean)) (i := 1922) rfl rfl
set_option maxRecDepth 100000 in
theorem gm_cp264 : gm_cwd 264 ∈ gm_T := gm_T_in (w := Jvm.Cond.code ⟨"GlacierMailModel", "rowTold", "()I"⟩ prog_14_method_38_code 1 (some .int)) (i := 1926) rfl rfl
set_option maxRecDepth 100000 in
theorem gm_cp265 : gm_cwd 265 ∈ gm_T := gm_T_in (w := Jvm.Cond.code ⟨"GlacierMailModel", "after", "(Ljava/lang/String;II)I"⟩ prog_14_method_34_code 4 (some .int)) (i := 1931) rfl rfl
set_option maxRecDepth 100000 in
theorem gm_cp266 : gm_cwd 266 ∈ gm_T := gm_T_in (w := Jvm.Cond.code ⟨"GlacierMailModel", "readFlood", "()Z"⟩ prog_14_method_45_code 5 (some .boolean)) (i := 1936) rfl rfl
set_option maxRecDepth 100000 in
theorem gm_cp267 : gm_cwd 267 ∈ gm_T := gm_T_in (w := Jvm.Cond.code ⟨"GlacierMailModel", "now", "()I"⟩ prog_14_method_14_code 1 (some .int)) (i := 1940) rfl rfl
set_option maxRecDepth 100000 in
theorem gm_cp268 : gm_cwd 268 ∈ gm_T := gm_T_in (w := Jvm.Cond.code ⟨"GlacierMailModel", "readPerson", "()Z"⟩ prog_14_method_46_code 5 (some .boolean)) (i := 1945) rfl rfl
set_option maxRecDepth 100000 in
theorem gm_cp269 : gm_cwd 269 ∈ gm_T := gm_T_in (w := Jvm.Cond.code ⟨"GlacierMailModel", "laneTold", "()I"⟩ prog_14_method_37_code 1 (some .int)) (i := 1949) rfl rfl
set_option maxRecDepth 100000 in
theorem gm_cp270 : gm_cwd 270 ∈ gm_T := gm_T_in (w := Jvm.Cond.code ⟨"GlacierMailModel", "isNext", "(Ljava/lang/String;)Z"⟩ prog_14_method_30_code 2 (some .boolean)) (i := 1954) rfl rfl
set_option maxRecDepth 100000 in
theorem gm_cp271 : gm_cwd 271 ∈ gm_T := gm_T_in (w := Jvm.Cond.code ⟨"GlacierMailModel", "readRock", "()Z"⟩ prog_14_method_48_code 3 (some .boolean)) (i := 1959) rfl rfl
set_option maxRecDepth 100000 in
theorem gm_cp272 : gm_cwd 272 ∈ gm_T := gm_T_in (w := Jvm.Cond.code ⟨"GlacierMailModel", "throwsIn", "(IIII)V"⟩ prog_14_method_47_code 6 none) (i := 1963) rfl rfl
set_option maxRecDepth 100000 in
theorem gm_cp273 : gm_cwd 273 ∈ gm_T := gm_T_in (w := Jvm.Cond.code ⟨"GlacierMailModel", "setsLetter", "(III)V"⟩ prog_14_method_17_code 4 none) (i := 1967) rfl rfl
set_option maxRecDepth 100000 in
theorem gm_cp274 : gm_cwd 274 ∈ gm_T := gm_T_in (w := Jvm.Cond.code ⟨"GlacierMailModel", "readTable", "()Z"⟩ prog_14_method_49_code 2 (some .boolean)) (i := 1972) rfl rfl
set_option maxRecDepth 100000 in
theorem gm_cp275 : gm_cwd 275 ∈ gm_T := gm_T_in (w := Jvm.Cond.code ⟨"GlacierMailModel", "readLawLine", "(I)Z"⟩ prog_14_method_57_code 3 (some .boolean)) (i := 1978) rfl rfl
set_option maxRecDepth 100000 in
theorem gm_cp276 : gm_cwd 276 ∈ gm_T := gm_T_in (w := Jvm.Cond.code ⟨"GlacierMailModel", "readCond", "()Z"⟩ prog_14_method_56_code 1 (some .boolean)) (i := 1986) rfl rfl
set_option maxRecDepth 100000 in
theorem gm_cp277 : gm_cwd 277 ∈ gm_T := gm_T_in (w := Jvm.Cond.code ⟨"GlacierMailModel", "readAllOf", "()Z"⟩ prog_14_method_55_code 1 (some .boolean)) (i := 1990) rfl rfl
set_option maxRecDepth 100000 in
theorem gm_cp278 : gm_cwd 278 ∈ gm_T := gm_T_in (w := Jvm.Cond.code ⟨"GlacierMailModel", "readAtom", "()Z"⟩ prog_14_method_54_code 3 (some .boolean)) (i := 1994) rfl rfl
set_option maxRecDepth 100000 in
theorem gm_cp279 : gm_cwd 279 ∈ gm_T := gm_T_in (w := Jvm.Cond.code ⟨"GlacierMailModel", "sign", "(I)Z"⟩ prog_14_method_31_code 2 (some .boolean)) (i := 1998) rfl rfl
set_option maxRecDepth 100000 in
theorem gm_cp280 : gm_cwd 280 ∈ gm_T := gm_T_in (w := Jvm.Cond.code ⟨"GlacierMailModel", "emits", "(II)V"⟩ prog_14_method_51_code 3 none) (i := 2003) rfl rfl
set_option maxRecDepth 100000 in
theorem gm_cp281 : gm_cwd 281 ∈ gm_T := gm_T_in (w := Jvm.Cond.code ⟨"GlacierMailModel", "readSum", "()Z"⟩ prog_14_method_53_code 1 (some .boolean)) (i := 2009) rfl rfl
set_option maxRecDepth 100000 in
theorem gm_cp282 : gm_cwd 282 ∈ gm_T := gm_T_in (w := Jvm.Cond.code ⟨"GlacierMailModel", "readPart", "()Z"⟩ prog_14_method_52_code 2 (some .boolean)) (i := 2013) rfl rfl
set_option maxRecDepth 100000 in
theorem gm_cp283 : gm_cwd 283 ∈ gm_T := gm_T_in (w := Jvm.Cond.code ⟨"GlacierMailModel", "throwsIf", "(ZI)Z"⟩ prog_14_method_2_code 3 (some .boolean)) (i := 2026) rfl rfl
set_option maxRecDepth 100000 in
theorem gm_cp284 : gm_cwd 284 ∈ gm_T := gm_T_in (w := Jvm.Cond.code ⟨"GlacierMailModel", "law", "()I"⟩ prog_14_method_61_code 3 (some .int)) (i := 2030) rfl rfl
set_option maxRecDepth 100000 in
theorem gm_cp285 : gm_cwd 285 ∈ gm_T := gm_T_in (w := Jvm.Cond.code ⟨"GlacierMailModel", "heat", "(I)I"⟩ prog_14_method_69_code 2 (some .int)) (i := 2034) rfl rfl
set_option maxRecDepth 100000 in
theorem gm_cp286 : gm_cwd 286 ∈ gm_T := gm_T_in (w := Jvm.Cond.code ⟨"GlacierMailModel", "noYear", "(I)Z"⟩ prog_14_method_23_code 1 (some .boolean)) (i := 2037) rfl rfl
set_option maxRecDepth 100000 in
theorem gm_cp287 : gm_cwd 287 ∈ gm_T := gm_T_in (w := Jvm.Cond.code ⟨"GlacierMailModel", "in", "(III)Z"⟩ prog_14_method_3_code 3 (some .boolean)) (i := 2040) rfl rfl
set_option maxRecDepth 100000 in
theorem gm_cp288 : gm_cwd 288 ∈ gm_T := gm_T_in (w := Jvm.Cond.code ⟨"GlacierMailModel", "speed", "(II)I"⟩ prog_14_method_70_code 3 (some .int)) (i := 2044) rfl rfl
set_option maxRecDepth 100000 in
theorem gm_cp289 : gm_cwd 289 ∈ gm_T := gm_T_in (w := Jvm.Cond.code ⟨"GlacierMailModel", "noLane", "(I)Z"⟩ prog_14_method_19_code 2 (some .boolean)) (i := 2048) rfl rfl
set_option maxRecDepth 100000 in
theorem gm_cp290 : gm_cwd 290 ∈ gm_T := gm_T_in (w := Jvm.Cond.code ⟨"GlacierMailModel", "noRow", "(I)Z"⟩ prog_14_method_20_code 2 (some .boolean)) (i := 2052) rfl rfl
set_option maxRecDepth 100000 in
theorem gm_cp291 : gm_cwd 291 ∈ gm_T := gm_T_in (w := Jvm.Cond.code ⟨"GlacierMailModel", "speedAt", "(II)I"⟩ prog_14_method_67_code 5 (some .int)) (i := 2056) rfl rfl
set_option maxRecDepth 100000 in
theorem gm_cp292 : gm_cwd 292 ∈ gm_T := gm_T_in (w := Jvm.Cond.code ⟨"GlacierMailModel", "flow", "(III)I"⟩ prog_14_method_71_code 4 (some .int)) (i := 2060) rfl rfl
set_option maxRecDepth 100000 in
theorem gm_cp293 : gm_cwd 293 ∈ gm_T := gm_T_in (w := Jvm.Cond.code ⟨"GlacierMailModel", "flowAt", "(III)I"⟩ prog_14_method_68_code 6 (some .int)) (i := 2064) rfl rfl
set_option maxRecDepth 100000 in
theorem gm_cp294 : gm_cwd 294 ∈ gm_T := gm_T_in (w := Jvm.Cond.code ⟨"GlacierMailModel", "turnsTo", "(I)V"⟩ prog_14_method_66_code 3 none) (i := 2068) rfl rfl
set_option maxRecDepth 100000 in
theorem gm_cp295 : gm_cwd 295 ∈ gm_T := gm_T_in (w := Jvm.Cond.code ⟨"GlacierMailModel", "sumOf", "(I)I"⟩ prog_14_method_64_code 4 (some .int)) (i := 2072) rfl rfl
set_option maxRecDepth 100000 in
theorem gm_cp296 : gm_cwd 296 ∈ gm_T := gm_T_in (w := Jvm.Cond.code ⟨"GlacierMailModel", "holdsLine", "(I)Z"⟩ prog_14_method_63_code 9 (some .boolean)) (i := 2076) rfl rfl
set_option maxRecDepth 100000 in
theorem gm_cp297 : gm_cwd 297 ∈ gm_T := gm_T_in (w := Jvm.Cond.code ⟨"GlacierMailModel", "factOf", "(II)I"⟩ prog_14_method_62_code 3 (some .int)) (i := 2080) rfl rfl
set_option maxRecDepth 100000 in
theorem gm_cp298 : gm_cwd 298 ∈ gm_T := gm_T_in (w := Jvm.Cond.code ⟨"GlacierMailModel", "person", "(II)I"⟩ prog_14_method_81_code 3 (some .int)) (i := 2086) rfl rfl
set_option maxRecDepth 100000 in
theorem gm_cp299 : gm_cwd 299 ∈ gm_T := gm_T_in (w := Jvm.Cond.code ⟨"GlacierMailModel", "noPerson", "(I)Z"⟩ prog_14_method_21_code 2 (some .boolean)) (i := 2090) rfl rfl
set_option maxRecDepth 100000 in
theorem gm_cp300 : gm_cwd 300 ∈ gm_T := gm_T_in (w := Jvm.Cond.code ⟨"GlacierMailModel", "of", "(II)I"⟩ prog_14_method_15_code 3 (some .int)) (i := 2094) rfl rfl
set_option maxRecDepth 100000 in
theorem gm_cp301 : gm_cwd 301 ∈ gm_T := gm_T_in (w := Jvm.Cond.code ⟨"GlacierMailModel", "countOf", "(II)I"⟩ prog_14_method_80_code 6 (some .int)) (i := 2098) rfl rfl
set_option maxRecDepth 100000 in
theorem gm_cp302 : gm_cwd 302 ∈ gm_T := gm_T_in (w := Jvm.Cond.code ⟨"GlacierMailModel", "ofLetter", "(II)I"⟩ prog_14_method_16_code 3 (some .int)) (i := 2102) rfl rfl
set_option maxRecDepth 100000 in
theorem gm_cp303 : gm_cwd 303 ∈ gm_T := gm_T_in (w := Jvm.Cond.code ⟨"GlacierMailModel", "isWaiting", "(I)Z"⟩ prog_14_method_79_code 3 (some .boolean)) (i := 2106) rfl rfl
set_option maxRecDepth 100000 in
theorem gm_cp304 : gm_cwd 304 ∈ gm_T := gm_T_in (w := Jvm.Cond.code ⟨"GlacierMailModel", "isRock", "(I)Z"⟩ prog_14_method_18_code 2 (some .boolean)) (i := 2110) rfl rfl
set_option maxRecDepth 100000 in
theorem gm_cp305 : gm_cwd 305 ∈ gm_T := gm_T_in (w := Jvm.Cond.code ⟨"GlacierMailModel", "outOf", "(I)I"⟩ prog_14_method_75_code 2 (some .int)) (i := 2114) rfl rfl
set_option maxRecDepth 100000 in
theorem gm_cp306 : gm_cwd 306 ∈ gm_T := gm_T_in (w := Jvm.Cond.code ⟨"GlacierMailModel", "runsLetter", "(II)V"⟩ prog_14_method_74_code 3 none) (i := 2118) rfl rfl
set_option maxRecDepth 100000 in
theorem gm_cp307 : gm_cwd 307 ∈ gm_T := gm_T_in (w := Jvm.Cond.code ⟨"GlacierMailModel", "runs", "(IIIZI)V"⟩ prog_14_method_73_code 9 none) (i := 2122) rfl rfl
set_option maxRecDepth 100000 in
theorem gm_cp308 : gm_cwd 308 ∈ gm_T := gm_T_in (w := Jvm.Cond.code ⟨"GlacierMailModel", "floods", "(III)I"⟩ prog_14_method_72_code 7 (some .int)) (i := 2126) rfl rfl
set_option maxRecDepth 100000 in
theorem gm_cp309 : gm_cwd 309 ∈ gm_T := gm_T_in (w := Jvm.Cond.code ⟨"GlacierMailModel", "letter", "(II)I"⟩ prog_14_method_83_code 4 (some .int)) (i := 2130) rfl rfl
set_option maxRecDepth 100000 in
theorem gm_cp310 : gm_cwd 310 ∈ gm_T := gm_T_in (w := Jvm.Cond.code ⟨"GlacierMailModel", "noLetter", "(I)Z"⟩ prog_14_method_22_code 2 (some .boolean)) (i := 2134) rfl rfl
set_option maxRecDepth 100000 in
theorem gm_cp311 : gm_cwd 311 ∈ gm_T := gm_T_in (w := Jvm.Cond.code ⟨"GlacierMailModel", "bareFrom", "(I)I"⟩ prog_14_method_82_code 3 (some .int)) (i := 2138) rfl rfl
set_option maxRecDepth 100000 in
theorem gm_cp312 : gm_cwd 312 ∈ gm_T := gm_T_in (w := Jvm.Cond.code ⟨"GlacierMailModel", "isBare", "(II)Z"⟩ prog_14_method_78_code 3 (some .boolean)) (i := 2142) rfl rfl
set_option maxRecDepth 100000 in
theorem gm_cp313 : gm_cwd 313 ∈ gm_T := gm_T_in (w := Jvm.Cond.code ⟨"GlacierMailModel", "isInIce", "(I)Z"⟩ prog_14_method_77_code 2 (some .boolean)) (i := 2146) rfl rfl
set_option maxRecDepth 100000 in
theorem gm_cp314 : gm_cwd 314 ∈ gm_T := gm_T_in (w := Jvm.Cond.code ⟨"GlacierMailModel", "where", "(II)I"⟩ prog_14_method_84_code 3 (some .int)) (i := 2150) rfl rfl
set_option maxRecDepth 100000 in
theorem gm_cp315 : gm_cwd 315 ∈ gm_T := gm_T_in (w := Jvm.Cond.code ⟨"GlacierMailModel", "deep", "(II)I"⟩ prog_14_method_85_code 3 (some .int)) (i := 2154) rfl rfl
set_option maxRecDepth 100000 in
theorem gm_cp316 : gm_cwd 316 ∈ gm_T := gm_T_in (w := Jvm.Cond.code ⟨"GlacierMailModel", "post", "(II)I"⟩ prog_14_method_86_code 3 (some .int)) (i := 2158) rfl rfl
set_option maxRecDepth 100000 in
theorem gm_cp317 : gm_cwd 317 ∈ gm_T := gm_T_in (w := Jvm.Cond.code ⟨"GlacierMailModel", "remembers", "()V"⟩ prog_14_method_8_code 2 none) (i := 2162) rfl rfl
set_option maxRecDepth 100000 in
theorem gm_cp318 : gm_cwd 318 ∈ gm_T := gm_T_in (w := Jvm.Cond.code ⟨"GlacierMailModel", "watch", "(II)I"⟩ prog_14_method_87_code 4 (some .int)) (i := 2166) rfl rfl
set_option maxRecDepth 100000 in
theorem gm_cp319 : gm_cwd 319 ∈ gm_T := gm_T_in (w := Jvm.Cond.code ⟨"GlacierMailModel", "open", "(I)I"⟩ prog_14_method_89_code 2 (some .int)) (i := 2170) rfl rfl
set_option maxRecDepth 100000 in
theorem gm_cp320 : gm_cwd 320 ∈ gm_T := gm_T_in (w := Jvm.Cond.code ⟨"GlacierMailModel", "opens", "(II)V"⟩ prog_14_method_88_code 4 none) (i := 2174) rfl rfl
set_option maxRecDepth 100000 in
theorem gm_cp321 : gm_cwd 321 ∈ gm_T := gm_T_in (w := Jvm.Cond.code ⟨"GlacierMailModel", "years", "(I)I"⟩ prog_14_method_93_code 4 (some .int)) (i := 2178) rfl rfl
set_option maxRecDepth 100000 in
theorem gm_cp322 : gm_cwd 322 ∈ gm_T := gm_T_in (w := Jvm.Cond.code ⟨"GlacierMailModel", "year", "()I"⟩ prog_14_method_92_code 4 (some .int)) (i := 2182) rfl rfl
set_option maxRecDepth 100000 in
theorem gm_cp323 : gm_cwd 323 ∈ gm_T := gm_T_in (w := Jvm.Cond.code ⟨"GlacierMailModel", "opener", "(I)I"⟩ prog_14_method_91_code 4 (some .int)) (i := 2186) rfl rfl
set_option maxRecDepth 100000 in
theorem gm_cp324 : gm_cwd 324 ∈ gm_T := gm_T_in (w := Jvm.Cond.code ⟨"GlacierMailModel", "mayOpen", "(II)Z"⟩ prog_14_method_90_code 3 (some .boolean)) (i := 2190) rfl rfl
set_option maxRecDepth 100000 in
theorem gm_cp325 : gm_cwd 325 ∈ gm_T := gm_T_in (w := Jvm.Cond.code ⟨"GlacierMailModel", "throwsFor", "(IIII)I"⟩ prog_14_method_94_code 9 (some .int)) (i := 2194) rfl rfl
set_option maxRecDepth 100000 in
theorem gm_cp326 : gm_cwd 326 ∈ gm_T := gm_T_in (w := Jvm.Cond.code ⟨"GlacierMailModel", "outFrom", "(III)I"⟩ prog_14_method_76_code 4 (some .int)) (i := 2198) rfl rfl
set_option maxRecDepth 100000 in
theorem gm_cp327 : gm_cwd 327 ∈ gm_T := gm_T_in (w := Jvm.Cond.code ⟨"GlacierMailModel", "latest", "(II)I"⟩ prog_14_method_95_code 5 (some .int)) (i := 2202) rfl rfl
set_option maxRecDepth 100000 in
theorem gm_cp328 : gm_cwd 328 ∈ gm_T := gm_T_in (w := Jvm.Cond.code ⟨"GlacierMailModel", "hut", "(II)I"⟩ prog_14_method_96_code 5 (some .int)) (i := 2206) rfl rfl
set_option maxRecDepth 100000 in
theorem gm_cp329 : gm_cwd 329 ∈ gm_T := gm_T_in (w := Jvm.Cond.code ⟨"GlacierMailModel", "without", "(II)I"⟩ prog_14_method_97_code 3 (some .int)) (i := 2210) rfl rfl
set_option maxRecDepth 100000 in
theorem gm_cp330 : gm_cwd 330 ∈ gm_T := gm_T_in (w := Jvm.Cond.code ⟨"GlacierMailModel", "moved", "(I)I"⟩ prog_14_method_98_code 2 (some .int)) (i := 2214) rfl rfl
set_option maxRecDepth 100000 in
theorem gm_cp331 : gm_cwd 331 ∈ gm_T := gm_T_in (w := Jvm.Cond.code ⟨"GlacierMailModel", "lost", "()I"⟩ prog_14_method_99_code 3 (some .int)) (i := 2218) rfl rfl
set_option maxRecDepth 100000 in
theorem gm_cp332 : gm_cwd 332 ∈ gm_T := gm_T_in (w := Jvm.Cond.code ⟨"GlacierMailModel", "market", "(Z)I"⟩ prog_14_method_102_code 6 (some .int)) (i := 2222) rfl rfl
set_option maxRecDepth 100000 in
theorem gm_cp333 : gm_cwd 333 ∈ gm_T := gm_T_in (w := Jvm.Cond.code ⟨"GlacierMailModel", "outsAll", "()V"⟩ prog_14_method_100_code 2 none) (i := 2226) rfl rfl
set_option maxRecDepth 100000 in
theorem gm_cp334 : gm_cwd 334 ∈ gm_T := gm_T_in (w := Jvm.Cond.code ⟨"GlacierMailModel", "outsIn", "(IIZ)I"⟩ prog_14_method_101_code 6 (some .int)) (i := 2230) rfl rfl
set_option maxRecDepth 100000 in
theorem gm_cp335 : gm_cwd 335 ∈ gm_T := gm_T_in (w := Jvm.Cond.code ⟨"GlacierMailModel", "passes", "(I)I"⟩ prog_14_method_106_code 4 (some .int)) (i := 2234) rfl rfl
set_option maxRecDepth 100000 in
theorem gm_cp336 : gm_cwd 336 ∈ gm_T := gm_T_in (w := Jvm.Cond.code ⟨"GlacierMailModel", "keepsRows", "()V"⟩ prog_14_method_103_code 2 none) (i := 2238) rfl rfl
set_option maxRecDepth 100000 in
theorem gm_cp337 : gm_cwd 337 ∈ gm_T := gm_T_in (w := Jvm.Cond.code ⟨"GlacierMailModel", "isPassing", "(I)Z"⟩ prog_14_method_105_code 3 (some .boolean)) (i := 2242) rfl rfl
set_option maxRecDepth 100000 in
theorem gm_cp338 : gm_cwd 338 ∈ gm_T := gm_T_in (w := Jvm.Cond.code ⟨"GlacierMailModel", "isOtherInIce", "(I)Z"⟩ prog_14_method_104_code 2 (some .boolean)) (i := 2246) rfl rfl
set_option maxRecDepth 100000 in
theorem gm_cp339 : gm_cwd 339 ∈ gm_T := gm_T_in (w := Jvm.Cond.code ⟨"GlacierMailModel", "writers", "(III)I"⟩ prog_14_method_108_code 6 (some .int)) (i := 2250) rfl rfl
set_option maxRecDepth 100000 in
theorem gm_cp340 : gm_cwd 340 ∈ gm_T := gm_T_in (w := Jvm.Cond.code ⟨"GlacierMailModel", "wroteIn", "(IIII)I"⟩ prog_14_method_107_code 6 (some .int)) (i := 2254) rfl rfl
set_option maxRecDepth 100000 in
theorem gm_cp341 : gm_cwd 341 ∈ gm_T := gm_T_in (w := Jvm.Cond.code ⟨"GlacierMailModel", "wrote", "(IIII)I"⟩ prog_14_method_109_code 5 (some .int)) (i := 2258) rfl rfl
set_option maxRecDepth 100000 in
theorem gm_cp342 : gm_cwd 342 ∈ gm_T := gm_T_in (w := Jvm.Cond.code ⟨"GlacierMailModel", "table", "(II)I"⟩ prog_14_method_112_code 3 (some .int)) (i := 2262) rfl rfl
set_option maxRecDepth 100000 in
theorem gm_cp343 : gm_cwd 343 ∈ gm_T := gm_T_in (w := Jvm.Cond.code ⟨"GlacierMailModel", "noTable", "(I)Z"⟩ prog_14_method_111_code 2 (some .boolean)) (i := 2266) rfl rfl
set_option maxRecDepth 100000 in
theorem gm_cp344 : gm_cwd 344 ∈ gm_T := gm_T_in (w := Jvm.Cond.code ⟨"GlacierMailModel", "ofTable", "(II)I"⟩ prog_14_method_110_code 3 (some .int)) (i := 2270) rfl rfl
set_option maxRecDepth 100000 in
theorem gm_cp345 : gm_cwd 345 ∈ gm_T := gm_T_in (w := Jvm.Cond.code ⟨"GlacierMailModel", "apart", "(III)Z"⟩ prog_14_method_114_code 4 (some .boolean)) (i := 2274) rfl rfl
set_option maxRecDepth 100000 in
theorem gm_cp346 : gm_cwd 346 ∈ gm_T := gm_T_in (w := Jvm.Cond.code ⟨"GlacierMailModel", "areApart", "(III)Z"⟩ prog_14_method_113_code 6 (some .boolean)) (i := 2278) rfl rfl
set_option maxRecDepth 100000 in
theorem gm_cp347 : gm_cwd 347 ∈ gm_T := gm_T_in (w := Jvm.Cond.code ⟨"GlacierMailModel", "has", "(II)Z"⟩ prog_14_method_4_code 2 (some .boolean)) (i := 2281) rfl rfl
set_option maxRecDepth 100000 in
theorem gm_cp348 : gm_cwd 348 ∈ gm_T := gm_T_in (w := Jvm.Cond.code ⟨"GlacierMailModel", "poles", "()I"⟩ prog_14_method_115_code 6 (some .int)) (i := 2285) rfl rfl
set_option maxRecDepth 100000 in
theorem gm_cp349 : gm_cwd 349 ∈ gm_T := gm_T_in (w := Jvm.Cond.code ⟨"GlacierMailModel", "fit", "()I"⟩ prog_14_method_116_code 5 (some .int)) (i := 2290) rfl rfl
set_option maxRecDepth 100000 in
theorem gm_cp350 : gm_cwd 350 ∈ gm_T := gm_T_in (w := Jvm.Cond.code ⟨"GlacierMailModel", "soonest", "(IIZ)I"⟩ prog_14_method_121_code 5 (some .int)) (i := 2294) rfl rfl
set_option maxRecDepth 100000 in
theorem gm_cp351 : gm_cwd 351 ∈ gm_T := gm_T_in (w := Jvm.Cond.code ⟨"GlacierMailModel", "answers", "(I)V"⟩ prog_14_method_119_code 7 none) (i := 2298) rfl rfl
set_option maxRecDepth 100000 in
theorem gm_cp352 : gm_cwd 352 ∈ gm_T := gm_T_in (w := Jvm.Cond.code ⟨"GlacierMailModel", "at", "(II)I"⟩ prog_14_method_117_code 2 (some .int)) (i := 2301) rfl rfl
set_option maxRecDepth 100000 in
theorem gm_cp353 : gm_cwd 353 ∈ gm_T := gm_T_in (w := Jvm.Cond.code ⟨"GlacierMailModel", "isWatching", "(II)Z"⟩ prog_14_method_118_code 3 (some .boolean)) (i := 2305) rfl rfl
set_option maxRecDepth 100000 in
theorem gm_cp354 : gm_cwd 354 ∈ gm_T := gm_T_in (w := Jvm.Cond.code ⟨"GlacierMailModel", "hasIn", "(I)I"⟩ prog_14_method_120_code 3 (some .int)) (i := 2309) rfl rfl
set_option maxRecDepth 100000 in
theorem gm_cp355 : gm_cwd 355 ∈ gm_T := gm_T_in (w := Jvm.Cond.code ⟨"GlacierMailModel", "chain", "(III)I"⟩ prog_14_method_123_code 7 (some .int)) (i := 2313) rfl rfl
set_option maxRecDepth 100000 in
theorem gm_cp356 : gm_cwd 356 ∈ gm_T := gm_T_in (w := Jvm.Cond.code ⟨"GlacierMailModel", "thrower", "(III)I"⟩ prog_14_method_122_code 6 (some .int)) (i := 2317) rfl rfl
set_option maxRecDepth 100000 in
theorem gm_cp357 : gm_cwd 357 ∈ gm_T := gm_T_in (w := Jvm.Cond.code ⟨"GlacierMailModel", "reached", "(II)I"⟩ prog_14_method_124_code 6 (some .int)) (i := 2321) rfl rfl
set_option maxRecDepth 100000 in
theorem gm_cp358 : gm_cwd 358 ∈ gm_T := gm_T_in (w := Jvm.Cond.code ⟨"GlacierMailModel", "thieves", "(IZ)I"⟩ prog_14_method_126_code 5 (some .int)) (i := 2325) rfl rfl
set_option maxRecDepth 100000 in
theorem gm_cp359 : gm_cwd 359 ∈ gm_T := gm_T_in (w := Jvm.Cond.code ⟨"GlacierMailModel", "steals", "(I)V"⟩ prog_14_method_125_code 5 none) (i := 2329) rfl rfl
set_option maxRecDepth 100000 in
theorem gm_cp360 : gm_cwd 360 ∈ gm_T := gm_T_in (w := Jvm.Cond.code ⟨"GlacierMailModel", "watchman", "(IZ)I"⟩ prog_14_method_127_code 8 (some .int)) (i := 2333) rfl rfl
set_option maxRecDepth 100000 in
theorem gm_cp361 : gm_cwd 361 ∈ gm_T := gm_T_in (w := Jvm.Cond.code ⟨"GlacierMailModel", "meeting", "(II)I"⟩ prog_14_method_128_code 4 (some .int)) (i := 2337) rfl rfl
set_option maxRecDepth 100000 in
theorem gm_cp362 : gm_cwd 362 ∈ gm_T := gm_T_in (w := Jvm.Cond.code ⟨"GlacierMailModel", "outs", "(I)I"⟩ prog_14_method_129_code 2 (some .int)) (i := 2341) rfl rfl
set_option maxRecDepth 100000 in
theorem gm_cp363 : gm_cwd 363 ∈ gm_T := gm_T_in (w := Jvm.Cond.code ⟨"GlacierMailModel", "order", "(I)I"⟩ prog_14_method_130_code 5 (some .int)) (i := 2345) rfl rfl
set_option maxRecDepth 100000 in
theorem gm_cp364 : gm_cwd 364 ∈ gm_T := gm_T_in (w := Jvm.Cond.code ⟨"GlacierMailModel", "streams", "(IZ)I"⟩ prog_14_method_131_code 5 (some .int)) (i := 2349) rfl rfl
set_option maxRecDepth 100000 in
theorem gm_cp365 : gm_cwd 365 ∈ gm_T := gm_T_in (w := Jvm.Cond.code ⟨"GlacierMailModel", "range", "(II)I"⟩ prog_14_method_132_code 4 (some .int)) (i := 2353) rfl rfl
set_option maxRecDepth 100000 in
theorem gm_cp366 : gm_cwd 366 ∈ gm_T := gm_T_in (w := Jvm.Cond.code ⟨"GlacierMailModel", "swiftest", "(II)I"⟩ prog_14_method_133_code 7 (some .int)) (i := 2357) rfl rfl
set_option maxRecDepth 100000 in
theorem gm_cp367 : gm_cwd 367 ∈ gm_T := gm_T_in (w := Jvm.Cond.code ⟨"GlacierMailModel", "bare", "(I)I"⟩ prog_14_method_134_code 4 (some .int)) (i := 2361) rfl rfl
set_option maxRecDepth 100000 in
theorem gm_cp368 : gm_cwd 368 ∈ gm_T := gm_T_in (w := Jvm.Cond.code ⟨"GlacierMailModel", "log", "(II)I"⟩ prog_14_method_135_code 3 (some .int)) (i := 2365) rfl rfl
set_option maxRecDepth 100000 in
theorem gm_cp369 : gm_cwd 369 ∈ gm_T := gm_T_in (w := Jvm.Cond.code ⟨"GlacierMailModel", "count", "(I)I"⟩ prog_14_method_136_code 5 (some .int)) (i := 2369) rfl rfl
set_option maxRecDepth 100000 in
theorem gm_cpr0 : ∀ w ∈ (List.range' 0 30).map gm_cwd, w ∈ gm_T := List.forall_mem_cons.mpr ⟨gm_cp0, List.forall_mem_cons.mpr ⟨gm_cp1, List.forall_mem_cons.mpr ⟨gm_cp2, List.forall_mem_cons.mpr ⟨gm_cp3, List.forall_mem_cons.mpr ⟨gm_cp4, List.forall_mem_cons.mpr ⟨gm_cp5, List.forall_mem_cons.mpr ⟨gm_cp6, List.forall_mem_cons.mpr ⟨gm_cp7, List.forall_mem_cons.mpr ⟨gm_cp8, List.forall_mem_cons.mpr ⟨gm_cp9, List.forall_mem_cons.mpr ⟨gm_cp10, List.forall_mem_cons.mpr ⟨gm_cp11, List.forall_mem_cons.mpr ⟨gm_cp12, List.forall_mem_cons.mpr ⟨gm_cp13, List.forall_mem_cons.mpr ⟨gm_cp14, List.forall_mem_cons.mpr ⟨gm_cp15, List.forall_mem_cons.mpr ⟨gm_cp16, List.forall_mem_cons.mpr ⟨gm_cp17, List.forall_mem_cons.mpr ⟨gm_cp18, List.forall_mem_cons.mpr ⟨gm_cp19, List.forall_mem_cons.mpr ⟨gm_cp20, List.forall_mem_cons.mpr ⟨gm_cp21, List.forall_mem_cons.mpr ⟨gm_cp22, List.forall_mem_cons.mpr ⟨gm_cp23, List.forall_mem_cons.mpr ⟨gm_cp24, List.forall_mem_cons.mpr ⟨gm_cp25, List.forall_mem_cons.mpr ⟨gm_cp26, List.forall_mem_cons.mpr ⟨gm_cp27, List.forall_mem_cons.mpr ⟨gm_cp28, List.forall_mem_cons.mpr ⟨gm_cp29, fun _ h => absurd h List.not_mem_nil⟩⟩⟩⟩⟩⟩⟩⟩⟩⟩⟩⟩⟩⟩⟩⟩⟩⟩⟩⟩⟩⟩⟩⟩⟩⟩⟩⟩⟩⟩
set_option maxRecDepth 100000 in
theorem gm_cpr30 : ∀ w ∈ (List.range' 30 30).map gm_cwd, w ∈ gm_T := List.forall_mem_cons.mpr ⟨gm_cp30, List.forall_mem_cons.mpr ⟨gm_cp31, List.forall_mem_cons.mpr ⟨gm_cp32, List.forall_mem_cons.mpr ⟨gm_cp33, List.forall_mem_cons.mpr ⟨gm_cp34, List.forall_mem_cons.mpr ⟨gm_cp35, List.forall_mem_cons.mpr ⟨gm_cp36, List.forall_mem_cons.mpr ⟨gm_cp37, List.forall_mem_cons.mpr ⟨gm_cp38, List.forall_mem_cons.mpr ⟨gm_cp39, List.forall_mem_cons.mpr ⟨gm_cp40, List.forall_mem_cons.mpr ⟨gm_cp41, List.forall_mem_cons.mpr ⟨gm_cp42, List.forall_mem_cons.mpr ⟨gm_cp43, List.forall_mem_cons.mpr ⟨gm_cp44, List.forall_mem_cons.mpr ⟨gm_cp45, List.forall_mem_cons.mpr ⟨gm_cp46, List.forall_mem_cons.mpr ⟨gm_cp47, List.forall_mem_cons.mpr ⟨gm_cp48, List.forall_mem_cons.mpr ⟨gm_cp49, List.forall_mem_cons.mpr ⟨gm_cp50, List.forall_mem_cons.mpr ⟨gm_cp51, List.forall_mem_cons.mpr ⟨gm_cp52, List.forall_mem_cons.mpr ⟨gm_cp53, List.forall_mem_cons.mpr ⟨gm_cp54, List.forall_mem_cons.mpr ⟨gm_cp55, List.forall_mem_cons.mpr ⟨gm_cp56, List.forall_mem_cons.mpr ⟨gm_cp57, List.forall_mem_cons.mpr ⟨gm_cp58, List.forall_mem_cons.mpr ⟨gm_cp59, fun _ h => absurd h List.not_mem_nil⟩⟩⟩⟩⟩⟩⟩⟩⟩⟩⟩⟩⟩⟩⟩⟩⟩⟩⟩⟩⟩⟩⟩⟩⟩⟩⟩⟩⟩⟩
set_option maxRecDepth 100000 in
theorem gm_cpr60 : ∀ w ∈ (List.range' 60 30).map gm_cwd, w ∈ gm_T := List.forall_mem_cons.mpr ⟨gm_cp60, List.forall_mem_cons.mpr ⟨gm_cp61, List.forall_mem_cons.mpr ⟨gm_cp62, List.forall_mem_cons.mpr ⟨gm_cp63, List.forall_mem_cons.mpr ⟨gm_cp64, List.forall_mem_cons.mpr ⟨gm_cp65, List.forall_mem_cons.mpr ⟨gm_cp66, List.forall_mem_cons.mpr ⟨gm_cp67, List.forall_mem_cons.mpr ⟨gm_cp68, List.forall_mem_cons.mpr ⟨gm_cp69, List.forall_mem_cons.mpr ⟨gm_cp70, List.forall_mem_cons.mpr ⟨gm_cp71, List.forall_mem_cons.mpr ⟨gm_cp72, List.forall_mem_cons.mpr ⟨gm_cp73, List.forall_mem_cons.mpr ⟨gm_cp74, List.forall_mem_cons.mpr ⟨gm_cp75, List.forall_mem_cons.mpr ⟨gm_cp76, List.forall_mem_cons.mpr ⟨gm_cp77, List.forall_mem_cons.mpr ⟨gm_cp78, List.forall_mem_cons.mpr ⟨gm_cp79, List.forall_mem_cons.mpr ⟨gm_cp80, List.forall_mem_cons.mpr ⟨gm_cp81, List.forall_mem_cons.mpr ⟨gm_cp82, List.forall_mem_cons.mpr ⟨gm_cp83, List.forall_mem_cons.mpr ⟨gm_cp84, List.forall_mem_cons.mpr ⟨gm_cp85, List.forall_mem_cons.mpr ⟨gm_cp86, List.forall_mem_cons.mpr ⟨gm_cp87, List.forall_mem_cons.mpr ⟨gm_cp88, List.forall_mem_cons.mpr ⟨gm_cp89, fun _ h => absurd h List.not_mem_nil⟩⟩⟩⟩⟩⟩⟩⟩⟩⟩⟩⟩⟩⟩⟩⟩⟩⟩⟩⟩⟩⟩⟩⟩⟩⟩⟩⟩⟩⟩
set_option maxRecDepth 100000 in
theorem gm_cpr90 : ∀ w ∈ (List.range' 90 30).map gm_cwd, w ∈ gm_T := List.forall_mem_cons.mpr ⟨gm_cp90, List.forall_mem_cons.mpr ⟨gm_cp91, List.forall_mem_cons.mpr ⟨gm_cp92, List.forall_mem_cons.mpr ⟨gm_cp93, List.forall_mem_cons.mpr ⟨gm_cp94, List.forall_mem_cons.mpr ⟨gm_cp95, List.forall_mem_cons.mpr ⟨gm_cp96, List.forall_mem_cons.mpr ⟨gm_cp97, List.forall_mem_cons.mpr ⟨gm_cp98, List.forall_mem_cons.mpr ⟨gm_cp99, List.forall_mem_cons.mpr ⟨gm_cp100, List.forall_mem_cons.mpr ⟨gm_cp101, List.forall_mem_cons.mpr ⟨gm_cp102, List.forall_mem_cons.mpr ⟨gm_cp103, List.forall_mem_cons.mpr ⟨gm_cp104, List.forall_mem_cons.mpr ⟨gm_cp105, List.forall_mem_cons.mpr ⟨gm_cp106, List.forall_mem_cons.mpr ⟨gm_cp107, List.forall_mem_cons.mpr ⟨gm_cp108, List.forall_mem_cons.mpr ⟨gm_cp109, List.forall_mem_cons.mpr ⟨gm_cp110, List.forall_mem_cons.mpr ⟨gm_cp111, List.forall_mem_cons.mpr ⟨gm_cp112, List.forall_mem_cons.mpr ⟨gm_cp113, List.forall_mem_cons.mpr ⟨gm_cp114, List.forall_mem_cons.mpr ⟨gm_cp115, List.forall_mem_cons.mpr ⟨gm_cp116, List.forall_mem_cons.mpr ⟨gm_cp117, List.forall_mem_cons.mpr ⟨gm_cp118, List.forall_mem_cons.mpr ⟨gm_cp119, fun _ h => absurd h List.not_mem_nil⟩⟩⟩⟩⟩⟩⟩⟩⟩⟩⟩⟩⟩⟩⟩⟩⟩⟩⟩⟩⟩⟩⟩⟩⟩⟩⟩⟩⟩⟩
set_option maxRecDepth 100000 in
theorem gm_cpr120 : ∀ w ∈ (List.range' 120 30).map gm_cwd, w ∈ gm_T := List.forall_mem_cons.mpr ⟨gm_cp120, List.forall_mem_cons.mpr ⟨gm_cp121, List.forall_mem_cons.mpr ⟨gm_cp122, List.forall_mem_cons.mpr ⟨gm_cp123, List.forall_mem_cons.mpr ⟨gm_cp124, List.forall_mem_cons.mpr ⟨gm_cp125, List.forall_mem_cons.mpr ⟨gm_cp126, List.forall_mem_cons.mpr ⟨gm_cp127, List.forall_mem_cons.mpr ⟨gm_cp128, List.forall_mem_cons.mpr ⟨gm_cp129, List.forall_mem_cons.mpr ⟨gm_cp130, List.forall_mem_cons.mpr ⟨gm_cp131, List.forall_mem_cons.mpr ⟨gm_cp132, List.forall_mem_cons.mpr ⟨gm_cp133, List.forall_mem_cons.mpr ⟨gm_cp134, List.forall_mem_cons.mpr ⟨gm_cp135, List.forall_mem_cons.mpr ⟨gm_cp136, List.forall_mem_cons.mpr ⟨gm_cp137, List.forall_mem_cons.mpr ⟨gm_cp138, List.forall_mem_cons.mpr ⟨gm_cp139, List.forall_mem_cons.mpr ⟨gm_cp140, List.forall_mem_cons.mpr ⟨gm_cp141, List.forall_mem_cons.mpr ⟨gm_cp142, List.forall_mem_cons.mpr ⟨gm_cp143, List.forall_mem_cons.mpr ⟨gm_cp144, List.forall_mem_cons.mpr ⟨gm_cp145, List.forall_mem_cons.mpr ⟨gm_cp146, List.forall_mem_cons.mpr ⟨gm_cp147, List.forall_mem_cons.mpr ⟨gm_cp148, List.forall_mem_cons.mpr ⟨gm_cp149, fun _ h => absurd h List.not_mem_nil⟩⟩⟩⟩⟩⟩⟩⟩⟩⟩⟩⟩⟩⟩⟩⟩⟩⟩⟩⟩⟩⟩⟩⟩⟩⟩⟩⟩⟩⟩
set_option maxRecDepth 100000 in
theorem gm_cpr150 : ∀ w ∈ (List.range' 150 30).map gm_cwd, w ∈ gm_T := List.forall_mem_cons.mpr ⟨gm_cp150, List.forall_mem_cons.mpr ⟨gm_cp151, List.forall_mem_cons.mpr ⟨gm_cp152, List.forall_mem_cons.mpr ⟨gm_cp153, List.forall_mem_cons.mpr ⟨gm_cp154, List.forall_mem_cons.mpr ⟨gm_cp155, List.forall_mem_cons.mpr ⟨gm_cp156, List.forall_mem_cons.mpr ⟨gm_cp157, List.forall_mem_cons.mpr ⟨gm_cp158, List.forall_mem_cons.mpr ⟨gm_cp159, List.forall_mem_cons.mpr ⟨gm_cp160, List.forall_mem_cons.mpr ⟨gm_cp161, List.forall_mem_cons.mpr ⟨gm_cp162, List.forall_mem_cons.mpr ⟨gm_cp163, List.forall_mem_cons.mpr ⟨gm_cp164, List.forall_mem_cons.mpr ⟨gm_cp165, List.forall_mem_cons.mpr ⟨gm_cp166, List.forall_mem_cons.mpr ⟨gm_cp167, List.forall_mem_cons.mpr ⟨gm_cp168, List.forall_mem_cons.mpr ⟨gm_cp169, List.forall_mem_cons.mpr ⟨gm_cp170, List.forall_mem_cons.mpr ⟨gm_cp171, List.forall_mem_cons.mpr ⟨gm_cp172, List.forall_mem_cons.mpr ⟨gm_cp173, List.forall_mem_cons.mpr ⟨gm_cp174, List.forall_mem_cons.mpr ⟨gm_cp175, List.forall_mem_cons.mpr ⟨gm_cp176, List.forall_mem_cons.mpr ⟨gm_cp177, List.forall_mem_cons.mpr ⟨gm_cp178, List.forall_mem_cons.mpr ⟨gm_cp179, fun _ h => absurd h List.not_mem_nil⟩⟩⟩⟩⟩⟩⟩⟩⟩⟩⟩⟩⟩⟩⟩⟩⟩⟩⟩⟩⟩⟩⟩⟩⟩⟩⟩⟩⟩⟩
set_option maxRecDepth 100000 in
theorem gm_cpr180 : ∀ w ∈ (List.range' 180 30).map gm_cwd, w ∈ gm_T := List.forall_mem_cons.mpr ⟨gm_cp180, List.forall_mem_cons.mpr ⟨gm_cp181, List.forall_mem_cons.mpr ⟨gm_cp182, List.forall_mem_cons.mpr ⟨gm_cp183, List.forall_mem_cons.mpr ⟨gm_cp184, List.forall_mem_cons.mpr ⟨gm_cp185, List.forall_mem_cons.mpr ⟨gm_cp186, List.forall_mem_cons.mpr ⟨gm_cp187, List.forall_mem_cons.mpr ⟨gm_cp188, List.forall_mem_cons.mpr ⟨gm_cp189, List.forall_mem_cons.mpr ⟨gm_cp190, List.forall_mem_cons.mpr ⟨gm_cp191, List.forall_mem_cons.mpr ⟨gm_cp192, List.forall_mem_cons.mpr ⟨gm_cp193, List.forall_mem_cons.mpr ⟨gm_cp194, List.forall_mem_cons.mpr ⟨gm_cp195, List.forall_mem_cons.mpr ⟨gm_cp196, List.forall_mem_cons.mpr ⟨gm_cp197, List.forall_mem_cons.mpr ⟨gm_cp198, List.forall_mem_cons.mpr ⟨gm_cp199, List.forall_mem_cons.mpr ⟨gm_cp200, List.forall_mem_cons.mpr ⟨gm_cp201, List.forall_mem_cons.mpr ⟨gm_cp202, List.forall_mem_cons.mpr ⟨gm_cp203, List.forall_mem_cons.mpr ⟨gm_cp204, List.forall_mem_cons.mpr ⟨gm_cp205, List.forall_mem_cons.mpr ⟨gm_cp206, List.forall_mem_cons.mpr ⟨gm_cp207, List.forall_mem_cons.mpr ⟨gm_cp208, List.forall_mem_cons.mpr ⟨gm_cp209, fun _ h => absurd h List.not_mem_nil⟩⟩⟩⟩⟩⟩⟩⟩⟩⟩⟩⟩⟩⟩⟩⟩⟩⟩⟩⟩⟩⟩⟩⟩⟩⟩⟩⟩⟩⟩
set_option maxRecDepth 100000 in
theorem gm_cpr210 : ∀ w ∈ (List.range' 210 30).map gm_cwd, w ∈ gm_T := List.forall_mem_cons.mpr ⟨gm_cp210, List.forall_mem_cons.mpr ⟨gm_cp211, List.forall_mem_cons.mpr ⟨gm_cp212, List.forall_mem_cons.mpr ⟨gm_cp213, List.forall_mem_cons.mpr ⟨gm_cp214, List.forall_mem_cons.mpr ⟨gm_cp215, List.forall_mem_cons.mpr ⟨gm_cp216, List.forall_mem_cons.mpr ⟨gm_cp217, List.forall_mem_cons.mpr ⟨gm_cp218, List.forall_mem_cons.mpr ⟨gm_cp219, List.forall_mem_cons.mpr ⟨gm_cp220, List.forall_mem_cons.mpr ⟨gm_cp221, List.forall_mem_cons.mpr ⟨gm_cp222, List.forall_mem_cons.mpr ⟨gm_cp223, List.forall_mem_cons.mpr ⟨gm_cp224, List.forall_mem_cons.mpr ⟨gm_cp225, List.forall_mem_cons.mpr ⟨gm_cp226, List.forall_mem_cons.mpr ⟨gm_cp227, List.forall_mem_cons.mpr ⟨gm_cp228, List.forall_mem_cons.mpr ⟨gm_cp229, List.forall_mem_cons.mpr ⟨gm_cp230, List.forall_mem_cons.mpr ⟨gm_cp231, List.forall_mem_cons.mpr ⟨gm_cp232, List.forall_mem_cons.mpr ⟨gm_cp233, List.forall_mem_cons.mpr ⟨gm_cp234, List.forall_mem_cons.mpr ⟨gm_cp235, List.forall_mem_cons.mpr ⟨gm_cp236, List.forall_mem_cons.mpr ⟨gm_cp237, List.forall_mem_cons.mpr ⟨gm_cp238, List.forall_mem_cons.mpr ⟨gm_cp239, fun _ h => absurd h List.not_mem_nil⟩⟩⟩⟩⟩⟩⟩⟩⟩⟩⟩⟩⟩⟩⟩⟩⟩⟩⟩⟩⟩⟩⟩⟩⟩⟩⟩⟩⟩⟩
set_option maxRecDepth 100000 in
theorem gm_cpr240 : ∀ w ∈ (List.range' 240 30).map gm_cwd, w ∈ gm_T := List.forall_mem_cons.mpr ⟨gm_cp240, List.forall_mem_cons.mpr ⟨gm_cp241, List.forall_mem_cons.mpr ⟨gm_cp242, List.forall_mem_cons.mpr ⟨gm_cp243, List.forall_mem_cons.mpr ⟨gm_cp244, List.forall_mem_cons.mpr ⟨gm_cp245, List.forall_mem_cons.mpr ⟨gm_cp246, List.forall_mem_cons.mpr ⟨gm_cp247, List.forall_mem_cons.mpr ⟨gm_cp248, List.forall_mem_cons.mpr ⟨gm_cp249, List.forall_mem_cons.mpr ⟨gm_cp250, List.forall_mem_cons.mpr ⟨gm_cp251, List.forall_mem_cons.mpr ⟨gm_cp252, List.forall_mem_cons.mpr ⟨gm_cp253, List.forall_mem_cons.mpr ⟨gm_cp254, List.forall_mem_cons.mpr ⟨gm_cp255, List.forall_mem_cons.mpr ⟨gm_cp256, List.forall_mem_cons.mpr ⟨gm_cp257, List.forall_mem_cons.mpr ⟨gm_cp258, List.forall_mem_cons.mpr ⟨gm_cp259, List.forall_mem_cons.mpr ⟨gm_cp260, List.forall_mem_cons.mpr ⟨gm_cp261, List.forall_mem_cons.mpr ⟨gm_cp262, List.forall_mem_cons.mpr ⟨gm_cp263, List.forall_mem_cons.mpr ⟨gm_cp264, List.forall_mem_cons.mpr ⟨gm_cp265, List.forall_mem_cons.mpr ⟨gm_cp266, List.forall_mem_cons.mpr ⟨gm_cp267, List.forall_mem_cons.mpr ⟨gm_cp268, List.forall_mem_cons.mpr ⟨gm_cp269, fun _ h => absurd h List.not_mem_nil⟩⟩⟩⟩⟩⟩⟩⟩⟩⟩⟩⟩⟩⟩⟩⟩⟩⟩⟩⟩⟩⟩⟩⟩⟩⟩⟩⟩⟩⟩
set_option maxRecDepth 100000 in
theorem gm_cpr270 : ∀ w ∈ (List.range' 270 30).map gm_cwd, w ∈ gm_T := List.forall_mem_cons.mpr ⟨gm_cp270, List.forall_mem_cons.mpr ⟨gm_cp271, List.forall_mem_cons.mpr ⟨gm_cp272, List.forall_mem_cons.mpr ⟨gm_cp273, List.forall_mem_cons.mpr ⟨gm_cp274, List.forall_mem_cons.mpr ⟨gm_cp275, List.forall_mem_cons.mpr ⟨gm_cp276, List.forall_mem_cons.mpr ⟨gm_cp277, List.forall_mem_cons.mpr ⟨gm_cp278, List.forall_mem_cons.mpr ⟨gm_cp279, List.forall_mem_cons.mpr ⟨gm_cp280, List.forall_mem_cons.mpr ⟨gm_cp281, List.forall_mem_cons.mpr ⟨gm_cp282, List.forall_mem_cons.mpr ⟨gm_cp283, List.forall_mem_cons.mpr ⟨gm_cp284, List.forall_mem_cons.mpr ⟨gm_cp285, List.forall_mem_cons.mpr ⟨gm_cp286, List.forall_mem_cons.mpr ⟨gm_cp287, List.forall_mem_cons.mpr ⟨gm_cp288, List.forall_mem_cons.mpr ⟨gm_cp289, List.forall_mem_cons.mpr ⟨gm_cp290, List.forall_mem_cons.mpr ⟨gm_cp291, List.forall_mem_cons.mpr ⟨gm_cp292, List.forall_mem_cons.mpr ⟨gm_cp293, List.forall_mem_cons.mpr ⟨gm_cp294, List.forall_mem_cons.mpr ⟨gm_cp295, List.forall_mem_cons.mpr ⟨gm_cp296, List.forall_mem_cons.mpr ⟨gm_cp297, List.forall_mem_cons.mpr ⟨gm_cp298, List.forall_mem_cons.mpr ⟨gm_cp299, fun _ h => absurd h List.not_mem_nil⟩⟩⟩⟩⟩⟩⟩⟩⟩⟩⟩⟩⟩⟩⟩⟩⟩⟩⟩⟩⟩⟩⟩⟩⟩⟩⟩⟩⟩⟩
set_option maxRecDepth 100000 in
theorem gm_cpr300 : ∀ w ∈ (List.range' 300 30).map gm_cwd, w ∈ gm_T := List.forall_mem_cons.mpr ⟨gm_cp300, List.forall_mem_cons.mpr ⟨gm_cp301, List.forall_mem_cons.mpr ⟨gm_cp302, List.forall_mem_cons.mpr ⟨gm_cp303, List.forall_mem_cons.mpr ⟨gm_cp304, List.forall_mem_cons.mpr ⟨gm_cp305, List.forall_mem_cons.mpr ⟨gm_cp306, List.forall_mem_cons.mpr ⟨gm_cp307, List.forall_mem_cons.mpr ⟨gm_cp308, List.forall_mem_cons.mpr ⟨gm_cp309, List.forall_mem_cons.mpr ⟨gm_cp310, List.forall_mem_cons.mpr ⟨gm_cp311, List.forall_mem_cons.mpr ⟨gm_cp312, List.forall_mem_cons.mpr ⟨gm_cp313, List.forall_mem_cons.mpr ⟨gm_cp314, List.forall_mem_cons.mpr ⟨gm_cp315, List.forall_mem_cons.mpr ⟨gm_cp316, List.forall_mem_cons.mpr ⟨gm_cp317, List.forall_mem_cons.mpr ⟨gm_cp318, List.forall_mem_cons.mpr ⟨gm_cp319, List.forall_mem_cons.mpr ⟨gm_cp320, List.forall_mem_cons.mpr ⟨gm_cp321, List.forall_mem_cons.mpr ⟨gm_cp322, List.forall_mem_cons.mpr ⟨gm_cp323, List.forall_mem_cons.mpr ⟨gm_cp324, List.forall_mem_cons.mpr ⟨gm_cp325, List.forall_mem_cons.mpr ⟨gm_cp326, List.forall_mem_cons.mpr ⟨gm_cp327, List.forall_mem_cons.mpr ⟨gm_cp328, List.forall_mem_cons.mpr ⟨gm_cp329, fun _ h => absurd h List.not_mem_nil⟩⟩⟩⟩⟩⟩⟩⟩⟩⟩⟩⟩⟩⟩⟩⟩⟩⟩⟩⟩⟩⟩⟩⟩⟩⟩⟩⟩⟩⟩
set_option maxRecDepth 100000 in
theorem gm_cpr330 : ∀ w ∈ (List.range' 330 30).map gm_cwd, w ∈ gm_T := List.forall_mem_cons.mpr ⟨gm_cp330, List.forall_mem_cons.mpr ⟨gm_cp331, List.forall_mem_cons.mpr ⟨gm_cp332, List.forall_mem_cons.mpr ⟨gm_cp333, List.forall_mem_cons.mpr ⟨gm_cp334, List.forall_mem_cons.mpr ⟨gm_cp335, List.forall_mem_cons.mpr ⟨gm_cp336, List.forall_mem_cons.mpr ⟨gm_cp337, List.forall_mem_cons.mpr ⟨gm_cp338, List.forall_mem_cons.mpr ⟨gm_cp339, List.forall_mem_cons.mpr ⟨gm_cp340, List.forall_mem_cons.mpr ⟨gm_cp341, List.forall_mem_cons.mpr ⟨gm_cp342, List.forall_mem_cons.mpr ⟨gm_cp343, List.forall_mem_cons.mpr ⟨gm_cp344, List.forall_mem_cons.mpr ⟨gm_cp345, List.forall_mem_cons.mpr ⟨gm_cp346, List.forall_mem_cons.mpr ⟨gm_cp347, List.forall_mem_cons.mpr ⟨gm_cp348, List.forall_mem_cons.mpr ⟨gm_cp349, List.forall_mem_cons.mpr ⟨gm_cp350, List.forall_mem_cons.mpr ⟨gm_cp351, List.forall_mem_cons.mpr ⟨gm_cp352, List.forall_mem_cons.mpr ⟨gm_cp353, List.forall_mem_cons.mpr ⟨gm_cp354, List.forall_mem_cons.mpr ⟨gm_cp355, List.forall_mem_cons.mpr ⟨gm_cp356, List.forall_mem_cons.mpr ⟨gm_cp357, List.forall_mem_cons.mpr ⟨gm_cp358, List.forall_mem_cons.mpr ⟨gm_cp359, fun _ h => absurd h List.not_mem_nil⟩⟩⟩⟩⟩⟩⟩⟩⟩⟩⟩⟩⟩⟩⟩⟩⟩⟩⟩⟩⟩⟩⟩⟩⟩⟩⟩⟩⟩⟩
set_option maxRecDepth 100000 in
theorem gm_cpr360 : ∀ w ∈ (List.range' 360 10).map gm_cwd, w ∈ gm_T := List.forall_mem_cons.mpr ⟨gm_cp360, List.forall_mem_cons.mpr ⟨gm_cp361, List.forall_mem_cons.mpr ⟨gm_cp362, List.forall_mem_cons.mpr ⟨gm_cp363, List.forall_mem_cons.mpr ⟨gm_cp364, List.forall_mem_cons.mpr ⟨gm_cp365, List.forall_mem_cons.mpr ⟨gm_cp366, List.forall_mem_cons.mpr ⟨gm_cp367, List.forall_mem_cons.mpr ⟨gm_cp368, List.forall_mem_cons.mpr ⟨gm_cp369, fun _ h => absurd h List.not_mem_nil⟩⟩⟩⟩⟩⟩⟩⟩⟩⟩
theorem gm_cp_ok {mi : Nat} (h : mi < 370) : gm_cwd mi ∈ gm_T := by
  have key : ∀ a k : Nat, (∀ w ∈ (List.range' a k).map gm_cwd, w ∈ gm_T) → a ≤ mi → mi < a + k → gm_cwd mi ∈ gm_T := fun a k h1 h2 h3 => h1 _ (List.mem_map.mpr ⟨mi, List.mem_range'_1.mpr ⟨h2, h3⟩, rfl⟩)
  rcases Nat.lt_or_ge mi 30 with h0 | h0
  · exact key 0 30 gm_cpr0 (by omega) (by omega)
  rcases Nat.lt_or_ge mi 60 with h30 | h30
  · exact key 30 30 gm_cpr30 (by omega) (by omega)
  rcases Nat.lt_or_ge mi 90 with h60 | h60
  · exact key 60 30 gm_cpr60 (by omega) (by omega)
  rcases Nat.lt_or_ge mi 120 with h90 | h90
  · exact key 90 30 gm_cpr90 (by omega) (by omega)
  rcases Nat.lt_or_ge mi 150 with h120 | h120
  · exact key 120 30 gm_cpr120 (by omega) (by omega)
  rcases Nat.lt_or_ge mi 180 with h150 | h150
  · exact key 150 30 gm_cpr150 (by omega) (by omega)
  rcases Nat.lt_or_ge mi 210 with h180 | h180
  · exact key 180 30 gm_cpr180 (by omega) (by omega)
  rcases Nat.lt_or_ge mi 240 with h210 | h210
  · exact key 210 30 gm_cpr210 (by omega) (by omega)
  rcases Nat.lt_or_ge mi 270 with h240 | h240
  · exact key 240 30 gm_cpr240 (by omega) (by omega)
  rcases Nat.lt_or_ge mi 300 with h270 | h270
  · exact key 270 30 gm_cpr270 (by omega) (by omega)
  rcases Nat.lt_or_ge mi 330 with h300 | h300
  · exact key 300 30 gm_cpr300 (by omega) (by omega)
  rcases Nat.lt_or_ge mi 360 with h330 | h330
  · exact key 330 30 gm_cpr330 (by omega) (by omega)
  exact key 360 10 gm_cpr360 (by omega) (by omega)
theorem gm_mck0 : ((List.range 30).drop 0).all gm_mck = true := by decide +kernel
theorem gm_mck30 : ((List.range 60).drop 30).all gm_mck = true := by decide +kernel
theorem gm_mck60 : ((List.range 90).drop 60).all gm_mck = true := by decide +kernel
theorem gm_mck90 : ((List.range 120).drop 90).all gm_mck = true := by decide +kernel
theorem gm_mck120 : ((List.range 150).drop 120).all gm_mck = true := by decide +kernel
theorem gm_mck150 : ((List.range 180).drop 150).all gm_mck = true := by decide +kernel
theorem gm_mck180 : ((List.range 210).drop 180).all gm_mck = true := by decide +kernel
theorem gm_mck210 : ((List.range 240).drop 210).all gm_mck = true := by decide +kernel
theorem gm_mck240 : ((List.range 270).drop 240).all gm_mck = true := by decide +kernel
theorem gm_mck270 : ((List.range 300).drop 270).all gm_mck = true := by decide +kernel
theorem gm_mck300 : ((List.range 330).drop 300).all gm_mck = true := by decide +kernel
theorem gm_mck330 : ((List.range 360).drop 330).all gm_mck = true := by decide +kernel
theorem gm_mck360 : ((List.range 370).drop 360).all gm_mck = true := by decide +kernel
theorem gm_mck_ok {mi : Nat} (h : mi < 370) : gm_mck mi = true := by
  have key : ∀ a z : Nat, ((List.range z).drop a).all gm_mck = true → a ≤ mi → mi < z → gm_mck mi = true := by
    intro a z h1 h2 h3
    refine List.all_eq_true.mp h1 mi (List.mem_iff_getElem?.mpr ⟨mi - a, ?_⟩)
    rw [List.getElem?_drop, List.getElem?_range (by omega)]
    congr 1; omega
  rcases Nat.lt_or_ge mi 30 with h0 | h0
  · exact key 0 30 gm_mck0 (by omega) (by omega)
  rcases Nat.lt_or_ge mi 60 with h30 | h30
  · exact key 30 60 gm_mck30 (by omega) (by omega)
  rcases Nat.lt_or_ge mi 90 with h60 | h60
  · exact key 60 90 gm_mck60 (by omega) (by omega)
  rcases Nat.lt_or_ge mi 120 with h90 | h90
  · exact key 90 120 gm_mck90 (by omega) (by omega)
  rcases Nat.lt_or_ge mi 150 with h120 | h120
  · exact key 120 150 gm_mck120 (by omega) (by omega)
  rcases Nat.lt_or_ge mi 180 with h150 | h150
  · exact key 150 180 gm_mck150 (by omega) (by omega)
  rcases Nat.lt_or_ge mi 210 with h180 | h180
  · exact key 180 210 gm_mck180 (by omega) (by omega)
  rcases Nat.lt_or_ge mi 240 with h210 | h210
  · exact key 210 240 gm_mck210 (by omega) (by omega)
  rcases Nat.lt_or_ge mi 270 with h240 | h240
  · exact key 240 270 gm_mck240 (by omega) (by omega)
  rcases Nat.lt_or_ge mi 300 with h270 | h270
  · exact key 270 300 gm_mck270 (by omega) (by omega)
  rcases Nat.lt_or_ge mi 330 with h300 | h300
  · exact key 300 330 gm_mck300 (by omega) (by omega)
  rcases Nat.lt_or_ge mi 360 with h330 | h330
  · exact key 330 360 gm_mck330 (by omega) (by omega)
  exact key 360 370 gm_mck360 (by omega) (by omega)
/-- class of the code, place in the pool, kind (0 virtual, 1 constructor, 2 static, 3 a nest mate's constructor, 5 static with a table), the method; words -/
def gm_cl_ : List (Nat × Nat × Nat × Nat × Nat × Nat × Nat × Nat) := [(15, 135, 1, 0, 185, 186, 0, 154), (0, 22, 3, 1, 193, 194, 0, 155), (1, 42, 1, 2, 199, 200, 0, 156), (0, 39, 1, 3, 309, 310, 0, 157), (3, 24, 3, 1, 315, 194, 0, 155), (0, 46, 1, 4, 328, 329, 0, 158), (4, 38, 0, 5, 332, 333, 334, 158), (4, 41, 0, 6, 336, 338, 0, 158), (4, 44, 0, 7, 341, 343, 1, 158), (4, 57, 2, 8, 345, 346, 0, 159), (4, 67, 0, 9, 348, 349, 350, 156), (4, 73, 0, 10, 352, 353, 354, 156), (4, 77, 2, 11, 356, 357, 0, 160), (4, 47, 0, 12, 359, 361, 2, 158), (0, 55, 1, 13, 388, 389, 0, 161), (0, 67, 1, 14, 426, 427, 0, 162), (8, 11, 1, 2, 431, 200, 0, 156), (0, 76, 1, 15, 447, 448, 0, 164), (9, 3, 1, 16, 450, 451, 0, 163), (10, 11, 1, 17, 456, 457, 0, 165), (0, 85, 1, 18, 504, 505, 0, 166), (12, 3, 1, 16, 507, 451, 0, 163), (12, 11, 1, 2, 509, 200, 0, 156), (0, 94, 1, 2, 523, 200, 0, 156), (15, 139, 0, 19, 579, 580, 581, 154), (0, 110, 0, 20, 583, 585, 3, 154), (15, 144, 0, 21, 587, 588, 589, 154), (15, 161, 0, 22, 591, 592, 593, 154), (15, 217, 0, 23, 595, 596, 597, 154), (0, 254, 0, 24, 599, 601, 4, 154), (0, 277, 0, 9, 603, 349, 350, 156), (0, 390, 0, 25, 604, 605, 606, 156), (2, 25, 2, 26, 608, 609, 0, 160), (2, 31, 2, 11, 611, 357, 0, 160), (2, 34, 2, 8, 612, 346, 0, 159), (0, 217, 0, 27, 613, 614, 615, 161), (7, 48, 0, 10, 617, 353, 354, 156), (7, 54, 0, 28, 618, 619, 620, 155), (1, 72, 0, 10, 622, 353, 354, 156), (7, 58, 0, 29, 623, 624, 625, 161), (0, 295, 0, 30, 627, 628, 629, 161), (7, 68, 0, 31, 631, 632, 633, 161), (7, 112, 0, 32, 635, 636, 637, 161), (7, 72, 0, 33, 639, 641, 5, 161), (7, 91, 2, 26, 643, 609, 0, 160), (7, 96, 0, 34, 644, 645, 646, 158), (7, 100, 2, 11, 648, 357, 0, 160), (7, 76, 0, 35, 649, 650, 651, 158), (4, 90, 0, 36, 653, 654, 655, 158), (4, 97, 0, 37, 657, 659, 6, 158), (4, 118, 2, 38, 662, 663, 0, 159), (4, 101, 0, 39, 665, 667, 7, 158), (4, 123, 0, 34, 669, 645, 646, 158), (4, 105, 0, 40, 670, 671, 672, 178), (13, 26, 0, 9, 674, 349, 350, 156), (13, 30, 0, 10, 675, 353, 354, 156), (13, 34, 0, 41, 676, 678, 8, 178), (13, 38, 2, 11, 681, 357, 0, 160), (13, 43, 2, 26, 682, 609, 0, 160), (4, 109, 2, 26, 683, 609, 0, 160), (4, 112, 0, 42, 684, 686, 9, 158), (7, 82, 0, 43, 689, 691, 10, 161), (7, 106, 0, 44, 693, 694, 695, 158), (7, 109, 0, 9, 697, 349, 350, 156), (0, 250, 0, 45, 698, 699, 700, 156), (0, 186, 0, 10, 702, 353, 354, 156), (15, 221, 0, 46, 703, 704, 705, 154), (0, 315, 0, 47, 707, 709, 11, 154), (0, 450, 0, 28, 711, 619, 620, 155), (15, 241, 0, 48, 712, 713, 714, 154), (0, 354, 2, 49, 716, 717, 0, 182), (0, 359, 0, 50, 722, 724, 12, 154), (0, 347, 0, 51, 726, 728, 13, 154), (15, 271, 0, 52, 730, 731, 732, 154), (0, 402, 0, 53, 734, 736, 14, 154), (15, 290, 0, 54, 738, 739, 740, 154), (0, 419, 0, 55, 742, 743, 744, 157), (3, 25, 0, 56, 746, 748, 15, 157), (3, 29, 0, 57, 750, 751, 752, 155), (1, 64, 0, 58, 754, 755, 756, 156), (15, 295, 0, 59, 761, 762, 763, 154), (0, 114, 0, 57, 765, 751, 752, 155), (15, 299, 0, 60, 766, 767, 768, 154), (0, 136, 0, 61, 770, 772, 16, 154), (0, 154, 0, 5, 774, 333, 334, 158), (0, 157, 0, 62, 775, 776, 777, 157), (15, 303, 0, 63, 779, 780, 781, 154), (0, 150, 0, 64, 783, 785, 17, 154), (0, 192, 0, 65, 787, 789, 18, 154), (0, 257, 0, 66, 791, 793, 19, 154), (0, 408, 0, 67, 795, 797, 20, 154), (0, 435, 0, 68, 799, 801, 21, 154), (0, 438, 0, 69, 803, 804, 805, 157), (15, 149, 5, 70, 807, 808, 0, 153), (15, 7, 0, 71, 812, 813, 814, 154), (12, 28, 0, 25, 828, 605, 606, 156), (10, 27, 0, 75, 832, 833, 834, 165), (11, 37, 2, 26, 836, 609, 0, 160), (11, 43, 0, 76, 837, 838, 839, 165), (11, 46, 2, 77, 841, 842, 0, 165), (11, 50, 2, 78, 844, 845, 0, 165), (12, 43, 0, 80, 853, 855, 22, 166), (12, 84, 0, 81, 858, 859, 860, 165), (11, 53, 0, 82, 862, 863, 864, 169), (16, 335, 0, 83, 866, 867, 868, 169), (11, 58, 0, 84, 872, 873, 874, 169), (16, 492, 0, 85, 876, 877, 878, 169), (16, 495, 2, 86, 880, 881, 0, 170), (17, 9, 2, 87, 883, 884, 0, 169), (16, 1059, 2, 88, 888, 889, 0, 171), (16, 498, 2, 89, 891, 892, 0, 172), (19, 67, 2, 90, 894, 895, 0, 172), (19, 48, 2, 91, 897, 898, 0, 172), (19, 414, 2, 87, 900, 884, 0, 169), (19, 71, 2, 92, 901, 902, 0, 172), (12, 51, 0, 93, 912, 913, 914, 165), (12, 57, 0, 76, 916, 838, 839, 165), (12, 61, 0, 94, 917, 918, 919, 165), (11, 69, 0, 93, 921, 913, 914, 165), (12, 67, 0, 95, 923, 924, 925, 165), (11, 62, 0, 81, 927, 859, 860, 165), (12, 71, 0, 96, 928, 930, 23, 166), (12, 91, 0, 97, 932, 934, 24, 166), (12, 105, 0, 98, 937, 938, 939, 165), (12, 94, 0, 99, 941, 943, 25, 166), (12, 113, 0, 100, 947, 949, 26, 166), (12, 119, 0, 101, 951, 953, 27, 166), (12, 75, 0, 102, 965, 966, 967, 156), (12, 78, 0, 45, 969, 699, 700, 156), (9, 21, 0, 81, 974, 859, 860, 165), (9, 27, 0, 104, 975, 977, 28, 164), (9, 79, 0, 105, 979, 980, 981, 155), (1, 68, 0, 9, 983, 349, 350, 156), (9, 76, 0, 93, 984, 913, 914, 165), (9, 84, 0, 76, 985, 838, 839, 165), (9, 88, 0, 94, 986, 918, 919, 165), (9, 33, 0, 106, 988, 990, 29, 164), (9, 38, 0, 107, 993, 995, 30, 164), (9, 105, 0, 108, 997, 998, 999, 156), (9, 110, 0, 9, 1001, 349, 350, 156), (9, 114, 0, 10, 1002, 353, 354, 156), (9, 117, 0, 102, 1003, 966, 967, 156), (9, 120, 0, 45, 1004, 699, 700, 156), (9, 124, 0, 109, 1005, 1007, 31, 164), (9, 43, 0, 110, 1010, 1012, 32, 164), (9, 128, 0, 111, 1014, 1016, 33, 164), (9, 133, 0, 112, 1019, 1020, 1021, 165), (11, 66, 0, 95, 1023, 924, 925, 165), (9, 48, 0, 113, 1025, 1027, 34, 164), (9, 53, 0, 114, 1030, 1032, 35, 164), (9, 58, 0, 115, 1035, 1037, 36, 164), (9, 63, 0, 116, 1040, 1042, 37, 164), (9, 149, 0, 117, 1044, 1046, 38, 164), (9, 154, 0, 95, 1049, 924, 925, 165), (9, 68, 0, 118, 1051, 1053, 39, 164), (9, 160, 0, 119, 1055, 1056, 1057, 155), (1, 76, 0, 102, 1059, 966, 967, 156), (1, 79, 0, 45, 1060, 699, 700, 156), (9, 73, 0, 120, 1062, 1064, 40, 164), (10, 38, 0, 98, 1066, 938, 939, 165), (10, 42, 0, 121, 1067, 1068, 1069, 165), (10, 46, 0, 93, 1071, 913, 914, 165), (15, 158, 5, 122, 1157, 1158, 0, 153), (15, 17, 0, 123, 1160, 1161, 1162, 154), (0, 142, 0, 124, 1168, 1169, 1170, 166), (12, 34, 2, 125, 1173, 1174, 0, 159), (5, 304, 2, 26, 1183, 609, 0, 160), (12, 40, 1, 126, 1185, 1186, 0, 178), (13, 11, 1, 2, 1190, 200, 0, 156), (13, 18, 0, 58, 1191, 755, 756, 156), (15, 165, 5, 127, 1200, 1201, 0, 153), (15, 20, 0, 128, 1203, 1204, 1205, 154), (0, 160, 0, 129, 1207, 1209, 42, 154), (0, 163, 0, 34, 1212, 645, 646, 158), (15, 169, 5, 130, 1213, 1214, 0, 153), (15, 24, 0, 131, 1217, 1218, 1219, 154), (0, 166, 0, 132, 1221, 1223, 43, 154), (0, 306, 0, 133, 1225, 1227, 44, 154), (0, 169, 0, 134, 1245, 1247, 45, 154), (0, 172, 0, 36, 1249, 654, 655, 158), (15, 173, 5, 135, 1250, 1251, 0, 153), (15, 30, 0, 136, 1253, 1254, 1255, 154), (0, 176, 0, 35, 1257, 650, 651, 158), (15, 177, 5, 137, 1258, 1259, 0, 153), (15, 34, 0, 138, 1262, 1263, 1264, 154), (0, 180, 0, 139, 1266, 1268, 46, 154), (0, 189, 0, 140, 1270, 1272, 47, 154), (15, 180, 5, 141, 1290, 1291, 0, 153), (15, 39, 0, 142, 1293, 1294, 1295, 154), (0, 200, 0, 143, 1297, 1299, 48, 154), (0, 206, 0, 144, 1301, 1303, 49, 154), (0, 212, 0, 145, 1305, 1307, 50, 154), (0, 447, 0, 32, 1309, 636, 637, 161), (0, 411, 0, 31, 1310, 632, 633, 161), (15, 183, 5, 146, 1312, 1313, 0, 153), (15, 42, 0, 147, 1315, 1316, 1317, 154), (0, 220, 0, 148, 1319, 1320, 1321, 161), (0, 229, 2, 26, 1323, 609, 0, 160), (15, 186, 5, 149, 1324, 1325, 0, 153), (15, 45, 0, 150, 1327, 1328, 1329, 154), (15, 189, 5, 151, 1331, 1332, 0, 153), (15, 48, 0, 152, 1334, 1335, 1336, 154), (0, 234, 0, 153, 1338, 1340, 51, 154), (0, 237, 0, 108, 1343, 998, 999, 156), (0, 243, 0, 154, 1345, 1346, 1347, 157), (3, 33, 2, 26, 1349, 609, 0, 160), (0, 246, 0, 119, 1350, 1056, 1057, 155), (15, 192, 5, 155, 1351, 1352, 0, 153), (15, 51, 0, 156, 1354, 1355, 1356, 154), (15, 195, 5, 157, 1358, 1359, 0, 153), (15, 54, 0, 158, 1362, 1363, 1364, 154), (0, 266, 0, 159, 1382, 1383, 1384, 155), (15, 198, 5, 160, 1386, 1387, 0, 153), (15, 59, 0, 161, 1389, 1390, 1391, 154), (0, 274, 0, 162, 1394, 1396, 52, 154), (0, 280, 0, 163, 1398, 1400, 53, 154), (0, 283, 0, 164, 1402, 1403, 1404, 158), (4, 132, 0, 165, 1406, 1407, 1408, 178), (15, 201, 5, 166, 1410, 1411, 0, 153), (15, 62, 0, 167, 1413, 1414, 1415, 154), (0, 291, 0, 29, 1419, 624, 625, 161), (15, 205, 5, 168, 1420, 1421, 0, 153), (15, 66, 0, 169, 1423, 1424, 1425, 154), (0, 298, 0, 170, 1427, 1428, 1429, 161), (15, 208, 5, 171, 1431, 1432, 0, 153), (15, 69, 0, 172, 1434, 1435, 1436, 154), (15, 211, 5, 173, 1439, 1440, 0, 153), (15, 72, 0, 174, 1442, 1443, 1444, 154), (0, 309, 0, 175, 1446, 1447, 1448, 161), (15, 214, 5, 176, 1450, 1451, 0, 153), (15, 75, 0, 177, 1453, 1454, 1455, 154), (15, 226, 5, 178, 1457, 1458, 0, 153), (15, 78, 0, 179, 1460, 1461, 1462, 154), (0, 319, 0, 180, 1464, 1466, 54, 154), (0, 323, 0, 181, 1468, 1470, 55, 154), (0, 326, 0, 182, 1472, 1474, 56, 154), (0, 396, 2, 11, 1476, 357, 0, 160), (0, 329, 0, 183, 1477, 1479, 57, 154), (0, 332, 0, 184, 1481, 1483, 58, 154), (15, 229, 5, 185, 1485, 1486, 0, 153), (15, 81, 0, 186, 1488, 1489, 1490, 154), (0, 335, 0, 187, 1492, 1494, 59, 154), (0, 338, 0, 188, 1497, 1499, 60, 154), (15, 232, 5, 189, 1501, 1502, 0, 153), (15, 84, 0, 190, 1504, 1505, 1506, 154), (15, 235, 5, 191, 1508, 1509, 0, 153), (15, 87, 0, 192, 1511, 1512, 1513, 154), (0, 341, 0, 193, 1515, 1517, 61, 154), (15, 238, 5, 194, 1519, 1520, 0, 153), (15, 90, 0, 195, 1522, 1523, 1524, 154), (15, 245, 5, 196, 1526, 1527, 0, 153), (15, 94, 0, 197, 1529, 1530, 1531, 154), (0, 362, 0, 198, 1533, 1535, 62, 154), (0, 367, 0, 199, 1538, 1540, 63, 154), (15, 248, 5, 200, 1542, 1543, 0, 153), (15, 97, 0, 201, 1545, 1546, 1547, 154), (0, 370, 0, 202, 1549, 1550, 1551, 162), (8, 36, 0, 9, 1553, 349, 350, 156), (8, 40, 0, 25, 1554, 605, 606, 156), (8, 48, 0, 203, 1555, 1557, 64, 162), (8, 52, 0, 10, 1559, 353, 354, 156), (8, 56, 0, 170, 1560, 1428, 1429, 161), (8, 61, 0, 30, 1561, 628, 629, 161), (8, 65, 0, 45, 1562, 699, 700, 156), (8, 69, 2, 26, 1563, 609, 0, 160), (0, 373, 0, 204, 1564, 1565, 1566, 162), (0, 376, 0, 205, 1568, 1569, 1570, 162), (15, 252, 5, 206, 1572, 1573, 0, 153), (15, 101, 0, 207, 1575, 1576, 1577, 154), (0, 381, 0, 208, 1580, 1581, 1582, 162), (8, 74, 0, 204, 1584, 1565, 1566, 162), (8, 77, 0, 209, 1585, 1587, 65, 162), (15, 255, 5, 210, 1589, 1590, 0, 153), (15, 104, 0, 211, 1592, 1593, 1594, 154), (15, 258, 5, 212, 1596, 1597, 0, 153), (15, 107, 0, 213, 1599, 1600, 1601, 154), (0, 384, 0, 214, 1603, 1605, 66, 154), (0, 387, 0, 215, 1607, 1609, 67, 154), (0, 393, 0, 216, 1611, 1613, 68, 154), (15, 262, 5, 217, 1615, 1616, 0, 153), (15, 111, 0, 218, 1618, 1619, 1620, 154), (0, 399, 0, 219, 1622, 1624, 69, 154), (15, 265, 5, 220, 1626, 1627, 0, 153), (15, 114, 0, 221, 1629, 1630, 1631, 154), (15, 268, 5, 222, 1633, 1634, 0, 153), (15, 117, 0, 223, 1636, 1637, 1638, 154), (15, 275, 5, 224, 1640, 1641, 0, 153), (15, 120, 0, 225, 1643, 1644, 1645, 154), (15, 278, 5, 226, 1647, 1648, 0, 153), (15, 123, 0, 227, 1650, 1651, 1652, 154), (15, 281, 5, 228, 1654, 1655, 0, 153), (15, 126, 0, 229, 1657, 1658, 1659, 154), (15, 284, 5, 230, 1661, 1662, 0, 153), (15, 129, 0, 231, 1664, 1665, 1666, 154), (15, 287, 5, 232, 1668, 1669, 0, 153), (15, 132, 0, 233, 1671, 1672, 1673, 154), (15, 155, 0, 234, 1676, 1677, 1678, 167), (15, 138, 1, 235, 1682, 1683, 0, 167), (20, 72, 0, 236, 1686, 1688, 70, 167), (15, 298, 0, 237, 1809, 1810, 1811, 167), (15, 302, 0, 238, 1813, 1814, 1815, 167), (15, 294, 0, 239, 1817, 1818, 1819, 167), (15, 143, 0, 240, 1821, 1822, 1823, 167), (15, 148, 0, 241, 1825, 1826, 1827, 167), (15, 164, 0, 242, 1829, 1830, 1831, 167), (15, 154, 0, 243, 1833, 1834, 1835, 167), (20, 296, 0, 244, 1837, 1839, 71, 167), (20, 289, 0, 245, 1841, 1843, 72, 167), (20, 119, 0, 246, 1845, 1847, 73, 167), (20, 112, 0, 247, 1849, 1851, 74, 167), (20, 292, 0, 248, 1853, 1855, 75, 167), (20, 131, 0, 249, 1857, 1859, 76, 167), (20, 283, 0, 250, 1861, 1863, 77, 167), (20, 134, 0, 251, 1866, 1868, 78, 167), (20, 122, 0, 82, 1870, 863, 864, 169), (20, 127, 0, 84, 1871, 873, 874, 169), (20, 182, 0, 252, 1872, 1874, 79, 167), (20, 145, 0, 253, 1876, 1878, 80, 167), (20, 97, 0, 254, 1880, 1882, 81, 167), (20, 100, 0, 255, 1884, 1886, 82, 167), (20, 142, 0, 256, 1888, 1890, 83, 167), (20, 138, 0, 257, 1892, 1894, 84, 167), (20, 187, 0, 258, 1897, 1899, 85, 167), (20, 192, 0, 259, 1902, 1904, 86, 167), (20, 94, 0, 260, 1906, 1908, 87, 167), (20, 149, 0, 261, 1910, 1912, 88, 167), (20, 86, 0, 262, 1914, 1916, 89, 167), (20, 197, 0, 263, 1919, 1921, 90, 167), (20, 153, 0, 264, 1923, 1925, 91, 167), (20, 158, 0, 265, 1928, 1930, 92, 167), (20, 202, 0, 266, 1933, 1935, 93, 167), (20, 162, 0, 267, 1937, 1939, 94, 167), (20, 207, 0, 268, 1942, 1944, 95, 167), (20, 165, 0, 269, 1946, 1948, 96, 167), (20, 170, 0, 270, 1951, 1953, 97, 167), (20, 212, 0, 271, 1956, 1958, 98, 167), (20, 177, 0, 272, 1960, 1962, 99, 167), (20, 173, 0, 273, 1964, 1966, 100, 167), (20, 217, 0, 274, 1969, 1971, 101, 167), (20, 286, 0, 275, 1975, 1977, 102, 167), (20, 253, 0, 276, 1983, 1985, 103, 167), (20, 270, 0, 277, 1987, 1989, 104, 167), (20, 258, 0, 278, 1991, 1993, 105, 167), (20, 248, 0, 279, 1995, 1997, 106, 167), (20, 227, 0, 280, 2000, 2002, 107, 167), (20, 265, 0, 281, 2006, 2008, 108, 167), (20, 245, 0, 282, 2010, 2012, 109, 167), (20, 300, 0, 283, 2023, 2025, 110, 167), (15, 160, 0, 284, 2027, 2028, 2029, 167), (15, 168, 0, 285, 2031, 2032, 2033, 167), (20, 353, 2, 286, 2035, 2036, 0, 167), (20, 90, 2, 287, 2038, 2039, 0, 167), (15, 172, 0, 288, 2041, 2042, 2043, 167), (20, 356, 0, 289, 2045, 2047, 111, 167), (20, 359, 0, 290, 2049, 2051, 112, 167), (20, 338, 0, 291, 2053, 2055, 113, 167), (15, 176, 0, 292, 2057, 2058, 2059, 167), (20, 362, 0, 293, 2061, 2063, 114, 167), (20, 334, 0, 294, 2065, 2067, 115, 167), (20, 341, 0, 295, 2069, 2071, 116, 167), (20, 327, 0, 296, 2073, 2075, 117, 167), (20, 324, 0, 297, 2077, 2079, 118, 167), (20, 345, 2, 26, 2081, 609, 0, 160), (20, 350, 2, 11, 2082, 357, 0, 160), (15, 179, 0, 298, 2083, 2084, 2085, 167), (20, 393, 0, 299, 2087, 2089, 119, 167), (20, 396, 0, 300, 2091, 2093, 120, 167), (20, 399, 0, 301, 2095, 2097, 121, 167), (20, 82, 0, 302, 2099, 2101, 122, 167), (20, 390, 0, 303, 2103, 2105, 123, 167), (20, 374, 0, 304, 2107, 2109, 124, 167), (20, 387, 0, 305, 2111, 2113, 125, 167), (20, 381, 0, 306, 2115, 2117, 126, 167), (20, 377, 0, 307, 2119, 2121, 127, 167), (20, 371, 0, 308, 2123, 2125, 128, 167), (15, 182, 0, 309, 2127, 2128, 2129, 167), (20, 405, 0, 310, 2131, 2133, 129, 167), (20, 408, 0, 311, 2135, 2137, 130, 167), (20, 402, 0, 312, 2139, 2141, 131, 167), (20, 384, 0, 313, 2143, 2145, 132, 167), (15, 185, 0, 314, 2147, 2148, 2149, 167), (15, 188, 0, 315, 2151, 2152, 2153, 167), (15, 191, 0, 316, 2155, 2156, 2157, 167), (20, 411, 0, 317, 2159, 2161, 133, 167), (15, 194, 0, 318, 2163, 2164, 2165, 167), (15, 197, 0, 319, 2167, 2168, 2169, 167), (20, 414, 0, 320, 2171, 2173, 134, 167), (15, 200, 0, 321, 2175, 2176, 2177, 167), (20, 423, 0, 322, 2179, 2181, 135, 167), (20, 420, 0, 323, 2183, 2185, 136, 167), (20, 417, 0, 324, 2187, 2189, 137, 167), (15, 204, 0, 325, 2191, 2192, 2193, 167), (20, 425, 0, 326, 2195, 2197, 138, 167), (15, 207, 0, 327, 2199, 2200, 2201, 167), (15, 210, 0, 328, 2203, 2204, 2205, 167), (15, 213, 0, 329, 2207, 2208, 2209, 167), (15, 216, 0, 330, 2211, 2212, 2213, 167), (15, 220, 0, 331, 2215, 2216, 2217, 167), (15, 225, 0, 332, 2219, 2220, 2221, 167), (20, 428, 0, 333, 2223, 2225, 139, 167), (20, 431, 0, 334, 2227, 2229, 140, 167), (15, 228, 0, 335, 2231, 2232, 2233, 167), (20, 438, 0, 336, 2235, 2237, 141, 167), (20, 441, 0, 337, 2239, 2241, 142, 167), (20, 435, 0, 338, 2243, 2245, 143, 167), (15, 231, 0, 339, 2247, 2248, 2249, 167), (20, 444, 0, 340, 2251, 2253, 144, 167), (15, 234, 0, 341, 2255, 2256, 2257, 167), (15, 237, 0, 342, 2259, 2260, 2261, 167), (20, 448, 0, 343, 2263, 2265, 145, 167), (20, 451, 0, 344, 2267, 2269, 146, 167), (15, 240, 0, 345, 2271, 2272, 2273, 167), (20, 457, 0, 346, 2275, 2277, 147, 167), (20, 454, 2, 347, 2279, 2280, 0, 167), (15, 244, 0, 348, 2282, 2283, 2284, 167), (20, 460, 2, 49, 2286, 717, 0, 182), (15, 247, 0, 349, 2287, 2288, 2289, 167), (15, 251, 0, 350, 2291, 2292, 2293, 167), (20, 471, 0, 351, 2295, 2297, 148, 167), (20, 465, 2, 352, 2299, 2300, 0, 167), (20, 468, 0, 353, 2302, 2304, 149, 167), (20, 474, 0, 354, 2306, 2308, 150, 167), (15, 254, 0, 355, 2310, 2311, 2312, 167), (20, 480, 0, 356, 2314, 2316, 151, 167), (15, 257, 0, 357, 2318, 2319, 2320, 167), (15, 261, 0, 358, 2322, 2323, 2324, 167), (20, 483, 0, 359, 2326, 2328, 152, 167), (15, 264, 0, 360, 2330, 2331, 2332, 167), (15, 267, 0, 361, 2334, 2335, 2336, 167), (15, 270, 0, 362, 2338, 2339, 2340, 167), (15, 274, 0, 363, 2342, 2343, 2344, 167), (15, 277, 0, 364, 2346, 2347, 2348, 167), (15, 280, 0, 365, 2350, 2351, 2352, 167), (15, 283, 0, 366, 2354, 2355, 2356, 167), (15, 286, 0, 367, 2358, 2359, 2360, 167), (15, 289, 0, 368, 2362, 2363, 2364, 167), (15, 306, 0, 369, 2366, 2367, 2368, 167)]
def gm_cck (q : Nat × Nat × Nat × Nat × Nat × Nat × Nat × Nat) : Bool := match q with
  | (o, ix, kd, mj, p1, p2, p3, p4) => decide (mj < 370) && (decide (lw_tbl[p4]? = some (.initialized (gm_mn mj).cls)) && (if kd = 3 then true else decide (lw_tbl[p1]? = some (.methodLink (gm_rn o) ix (gm_mn mj)))) && (if kd = 0 then decide (lw_tbl[p2]? = some (.instanceMethod (gm_mn mj))) && decide (lw_tbl[p3]? = some (.selects (gm_mn mj).cls (gm_mn mj) (gm_mn mj))) else if kd = 1 ∨ kd = 3 then decide (lw_tbl[p2]? = some (.instanceMethod (gm_mn mj))) && (decide ((gm_mn mj).name = "<init>") && decide (gm_rt mj = none)) else decide (lw_tbl[p2]? = some (.static (gm_mn mj)))) && (if kd = 5 then decide (gm_hh mj ≠ []) else decide (gm_hh mj = [])) && (if kd = 3 then gm_nst.any (fun r => decide (r.1 = gm_rn o ∧ r.2.1 = ix ∧ r.2.2.1 = gm_mn mj)) else true))
theorem gm_cl_len : gm_cl_.length = 437 := by decide +kernel
theorem gm_cl_ok0 : (gm_cl_.drop 0 |>.take 80).all gm_cck = true := by decide +kernel
theorem gm_cl_ok80 : (gm_cl_.drop 80 |>.take 80).all gm_cck = true := by decide +kernel
theorem gm_cl_ok160 : (gm_cl_.drop 160 |>.take 80).all gm_cck = true := by decide +kernel
theorem gm_cl_ok240 : (gm_cl_.drop 240 |>.take 80).all gm_cck = true := by decide +kernel
theorem gm_cl_ok320 : (gm_cl_.drop 320 |>.take 80).all gm_cck = true := by decide +kernel
theorem gm_cl_ok400 : (gm_cl_.drop 400 |>.take 80).all gm_cck = true := by decide +kernel
theorem gm_cl_ok {q : Nat × Nat × Nat × Nat × Nat × Nat × Nat × Nat} (h : q ∈ gm_cl_) : gm_cck q = true := by
  have key : ∀ a : Nat, ((gm_cl_.drop a).take 80).all gm_cck = true → ∀ i, a ≤ i → i < a + 80 → gm_cl_[i]? = some q → gm_cck q = true := by
    intro a h1 i h2 h3 h4
    refine List.all_eq_true.mp h1 q (List.mem_iff_getElem?.mpr ⟨i - a, ?_⟩)
    rw [List.getElem?_take_of_lt (by omega), List.getElem?_drop, show a + (i - a) = i by omega]; exact h4
  obtain ⟨i, hi⟩ := List.getElem?_of_mem h
  have hl : i < 437 := by rw [← gm_cl_len]; exact (List.getElem?_eq_some_iff.mp hi).1
  rcases Nat.lt_or_ge i 80 with h0 | h0
  · exact key 0 gm_cl_ok0 i (by omega) (by omega) hi
  rcases Nat.lt_or_ge i 160 with h80 | h80
  · exact key 80 gm_cl_ok80 i (by omega) (by omega) hi
  rcases Nat.lt_or_ge i 240 with h160 | h160
  · exact key 160 gm_cl_ok160 i (by omega) (by omega) hi
  rcases Nat.lt_or_ge i 320 with h240 | h240
  · exact key 240 gm_cl_ok240 i (by omega) (by omega) hi
  rcases Nat.lt_or_ge i 400 with h320 | h320
  · exact key 320 gm_cl_ok320 i (by omega) (by omega) hi
  exact key 400 gm_cl_ok400 i (by omega) (by omega) hi
def gm_co : List (List (Nat × Nat × Nat)) := [[(22, 3, 1), (39, 1, 3), (46, 1, 4), (55, 1, 13), (67, 1, 14), (76, 1, 15), (85, 1, 18), (94, 1, 2), (110, 0, 20), (254, 0, 24), (277, 0, 9), (390, 0, 25), (217, 0, 27), (295, 0, 30), (250, 0, 45), (186, 0, 10), (315, 0, 47), (450, 0, 28), (354, 2, 49), (359, 0, 50), (347, 0, 51), (402, 0, 53), (419, 0, 55), (114, 0, 57), (136, 0, 61), (154, 0, 5), (157, 0, 62), (150, 0, 64), (192, 0, 65), (257, 0, 66), (408, 0, 67), (435, 0, 68), (438, 0, 69), (142, 0, 124), (160, 0, 129), (163, 0, 34), (166, 0, 132), (306, 0, 133), (169, 0, 134), (172, 0, 36), (176, 0, 35), (180, 0, 139), (189, 0, 140), (200, 0, 143), (206, 0, 144), (212, 0, 145), (447, 0, 32), (411, 0, 31), (220, 0, 148), (229, 2, 26), (234, 0, 153), (237, 0, 108), (243, 0, 154), (246, 0, 119), (266, 0, 159), (274, 0, 162), (280, 0, 163), (283, 0, 164), (291, 0, 29), (298, 0, 170), (309, 0, 175), (319, 0, 180), (323, 0, 181), (326, 0, 182), (396, 2, 11), (329, 0, 183), (332, 0, 184), (335, 0, 187), (338, 0, 188), (341, 0, 193), (362, 0, 198), (367, 0, 199), (370, 0, 202), (373, 0, 204), (376, 0, 205), (381, 0, 208), (384, 0, 214), (387, 0, 215), (393, 0, 216), (399, 0, 219)], [(42, 1, 2), (72, 0, 10), (64, 0, 58), (68, 0, 9), (76, 0, 102), (79, 0, 45)], [(25, 2, 26), (31, 2, 11), (34, 2, 8)], [(24, 3, 1), (25, 0, 56), (29, 0, 57), (33, 2, 26)], [(38, 0, 5), (41, 0, 6), (44, 0, 7), (57, 2, 8), (67, 0, 9), (73, 0, 10), (77, 2, 11), (47, 0, 12), (90, 0, 36), (97, 0, 37), (118, 2, 38), (101, 0, 39), (123, 0, 34), (105, 0, 40), (109, 2, 26), (112, 0, 42), (132, 0, 165)], [(304, 2, 26)], [], [(48, 0, 10), (54, 0, 28), (58, 0, 29), (68, 0, 31), (112, 0, 32), (72, 0, 33), (91, 2, 26), (96, 0, 34), (100, 2, 11), (76, 0, 35), (82, 0, 43), (106, 0, 44), (109, 0, 9)], [(11, 1, 2), (36, 0, 9), (40, 0, 25), (48, 0, 203), (52, 0, 10), (56, 0, 170), (61, 0, 30), (65, 0, 45), (69, 2, 26), (74, 0, 204), (77, 0, 209)], [(3, 1, 16), (21, 0, 81), (27, 0, 104), (79, 0, 105), (76, 0, 93), (84, 0, 76), (88, 0, 94), (33, 0, 106), (38, 0, 107), (105, 0, 108), (110, 0, 9), (114, 0, 10), (117, 0, 102), (120, 0, 45), (124, 0, 109), (43, 0, 110), (128, 0, 111), (133, 0, 112), (48, 0, 113), (53, 0, 114), (58, 0, 115), (63, 0, 116), (149, 0, 117), (154, 0, 95), (68, 0, 118), (160, 0, 119), (73, 0, 120)], [(11, 1, 17), (27, 0, 75), (38, 0, 98), (42, 0, 121), (46, 0, 93)], [(37, 2, 26), (43, 0, 76), (46, 2, 77), (50, 2, 78), (53, 0, 82), (58, 0, 84), (69, 0, 93), (62, 0, 81), (66, 0, 95)], [(3, 1, 16), (11, 1, 2), (28, 0, 25), (43, 0, 80), (84, 0, 81), (51, 0, 93), (57, 0, 76), (61, 0, 94), (67, 0, 95), (71, 0, 96), (91, 0, 97), (105, 0, 98), (94, 0, 99), (113, 0, 100), (119, 0, 101), (75, 0, 102), (78, 0, 45), (34, 2, 125), (40, 1, 126)], [(26, 0, 9), (30, 0, 10), (34, 0, 41), (38, 2, 11), (43, 2, 26), (11, 1, 2), (18, 0, 58)], [], [(135, 1, 0), (139, 0, 19), (144, 0, 21), (161, 0, 22), (217, 0, 23), (221, 0, 46), (241, 0, 48), (271, 0, 52), (290, 0, 54), (295, 0, 59), (299, 0, 60), (303, 0, 63), (149, 5, 70), (7, 0, 71), (158, 5, 122), (17, 0, 123), (165, 5, 127), (20, 0, 128), (169, 5, 130), (24, 0, 131), (173, 5, 135), (30, 0, 136), (177, 5, 137), (34, 0, 138), (180, 5, 141), (39, 0, 142), (183, 5, 146), (42, 0, 147), (186, 5, 149), (45, 0, 150), (189, 5, 151), (48, 0, 152), (192, 5, 155), (51, 0, 156), (195, 5, 157), (54, 0, 158), (198, 5, 160), (59, 0, 161), (201, 5, 166), (62, 0, 167), (205, 5, 168), (66, 0, 169), (208, 5, 171), (69, 0, 172), (211, 5, 173), (72, 0, 174), (214, 5, 176), (75, 0, 177), (226, 5, 178), (78, 0, 179), (229, 5, 185), (81, 0, 186), (232, 5, 189), (84, 0, 190), (235, 5, 191), (87, 0, 192), (238, 5, 194), (90, 0, 195), (245, 5, 196), (94, 0, 197), (248, 5, 200), (97, 0, 201), (252, 5, 206), (101, 0, 207), (255, 5, 210), (104, 0, 211), (258, 5, 212), (107, 0, 213), (262, 5, 217), (111, 0, 218), (265, 5, 220), (114, 0, 221), (268, 5, 222), (117, 0, 223), (275, 5, 224), (120, 0, 225), (278, 5, 226), (123, 0, 227), (281, 5, 228), (126, 0, 229), (284, 5, 230), (129, 0, 231), (287, 5, 232), (132, 0, 233), (155, 0, 234), (138, 1, 235), (298, 0, 237), (302, 0, 238), (294, 0, 239), (143, 0, 240), (148, 0, 241), (164, 0, 242), (154, 0, 243), (160, 0, 284), (168, 0, 285), (172, 0, 288), (176, 0, 292), (179, 0, 298), (182, 0, 309), (185, 0, 314), (188, 0, 315), (191, 0, 316), (194, 0, 318), (197, 0, 319), (200, 0, 321), (204, 0, 325), (207, 0, 327), (210, 0, 328), (213, 0, 329), (216, 0, 330), (220, 0, 331), (225, 0, 332), (228, 0, 335), (231, 0, 339), (234, 0, 341), (237, 0, 342), (240, 0, 345), (244, 0, 348), (247, 0, 349), (251, 0, 350), (254, 0, 355), (257, 0, 357), (261, 0, 358), (264, 0, 360), (267, 0, 361), (270, 0, 362), (274, 0, 363), (277, 0, 364), (280, 0, 365), (283, 0, 366), (286, 0, 367), (289, 0, 368), (306, 0, 369)], [(335, 0, 83), (492, 0, 85), (495, 2, 86), (1059, 2, 88), (498, 2, 89)], [(9, 2, 87)], [], [(67, 2, 90), (48, 2, 91), (414, 2, 87), (71, 2, 92)], [(72, 0, 236), (296, 0, 244), (289, 0, 245), (119, 0, 246), (112, 0, 247), (292, 0, 248), (131, 0, 249), (283, 0, 250), (134, 0, 251), (122, 0, 82), (127, 0, 84), (182, 0, 252), (145, 0, 253), (97, 0, 254), (100, 0, 255), (142, 0, 256), (138, 0, 257), (187, 0, 258), (192, 0, 259), (94, 0, 260), (149, 0, 261), (86, 0, 262), (197, 0, 263), (153, 0, 264), (158, 0, 265), (202, 0, 266), (162, 0, 267), (207, 0, 268), (165, 0, 269), (170, 0, 270), (212, 0, 271), (177, 0, 272), (173, 0, 273), (217, 0, 274), (286, 0, 275), (253, 0, 276), (270, 0, 277), (258, 0, 278), (248, 0, 279), (227, 0, 280), (265, 0, 281), (245, 0, 282), (300, 0, 283), (353, 2, 286), (90, 2, 287), (356, 0, 289), (359, 0, 290), (338, 0, 291), (362, 0, 293), (334, 0, 294), (341, 0, 295), (327, 0, 296), (324, 0, 297), (345, 2, 26), (350, 2, 11), (393, 0, 299), (396, 0, 300), (399, 0, 301), (82, 0, 302), (390, 0, 303), (374, 0, 304), (387, 0, 305), (381, 0, 306), (377, 0, 307), (371, 0, 308), (405, 0, 310), (408, 0, 311), (402, 0, 312), (384, 0, 313), (411, 0, 317), (414, 0, 320), (423, 0, 322), (420, 0, 323), (417, 0, 324), (425, 0, 326), (428, 0, 333), (431, 0, 334), (438, 0, 336), (441, 0, 337), (435, 0, 338), (444, 0, 340), (448, 0, 343), (451, 0, 344), (457, 0, 346), (454, 2, 347), (460, 2, 49), (471, 0, 351), (465, 2, 352), (468, 0, 353), (474, 0, 354), (480, 0, 356), (483, 0, 359)]]
/-- the call at a place of the pool: kind, method -/
def gm_cal (o ix : Nat) : Option (Nat × Nat) := ((gm_co[o]?).getD []).lookup ix
theorem gm_co_ok : (List.range gm_co.length).all (fun o => ((gm_co[o]?).getD []).all (fun q => gm_cl_.any (fun r => decide ((r.1, r.2.1, r.2.2.1, r.2.2.2.1) = (o, q.1, q.2.1, q.2.2))))) = true := by decide +kernel
end
section
/-! CALLS: a method's judgement from its entry is a contract; a caller goes on behind it. -/
theorem gm_owc : (List.range 370).all (fun i => decide (gm_rn (gm_ow i) = (gm_mn i).cls)) = true := by decide +kernel
/-- the number of java/lang/Math in gm_rnl: its methods are the machine's own -/
def gm_mxi : Nat := 6
theorem gm_mxi_ok : gm_rn gm_mxi = "java/lang/Math" := rfl
theorem gm_plm : (List.range 370).all (fun i => decide (gm_ow i = gm_mxi) || plainName (gm_mn i).cls) = true := by decide +kernel
theorem gm_Ev_to {X : Int → Int} {LX : Nat} {adK adV : Nat → Nat} {A B : Nat → Prop} {s U : State} (h : gm_Ev X LX adK adV A s) (hW : s.WarmedH U.vm) (hz : s.heap.size ≤ U.heap.size) (hk : ∀ a : Nat, a < s.heap.size → ¬ A a → U.heap[a]? = s.heap[a]?) (hAB : ∀ q, B q → A q) : gm_Ev X LX adK adV B U := by
  obtain ⟨h1, h2, h3, h4, h5, h6, h7, h8, h9, h10, h11, h12, h13⟩ := h
  have hvm := hW.alike
  have hca : ∀ a b : String, va_Nw (.castable a b) s → va_Nw (.castable a b) U := fun a b h => va_tabs (c := .castable a b) rfl (rfl : (s.setVm U.vm).vm = U.vm) (by rw [Cond.castable_setVm hvm]; exact h)
  refine ⟨fun i hi => (((h1 i hi).moved hvm).kept hk).narrow hAB, fun q hq => vk_R.warm hW (h2 q hq), ((h3.moved hvm).kept hk).narrow hAB, ((h4.moved hvm).kept hk).narrow hAB, ((h5.moved hvm).kept hk).narrow hAB, (h6.moved hvm).kept (hk _ h7 h8), Nat.lt_of_lt_of_le h7 hz, fun q => h8 (hAB _ q), va_AO.moved hvm h9, fun q hq => va_Nw.warmM hW (h10 q hq), hca _ _ h11, fun x y hx hy => ?_, fun y hy => va_tabs (c := .declares y) rfl (rfl : (s.setVm U.vm).vm = U.vm) (by rw [Cond.declares_setVm hvm]; exact h13 y hy)⟩
  have h := h12 x y hx hy
  split
  · rename_i e
    rw [if_pos e] at h
    exact hca _ _ h
  · rename_i e
    rw [if_neg e] at h
    obtain ⟨a, b, c1, c2, c3⟩ := h
    exact ⟨a, b, by rw [hvm.findClass]; exact c1, by rw [hvm.findClass]; exact c2, by rw [hvm.assignable]; exact c3⟩
theorem gm_sr_at {α adK : Nat → Nat} {n : Nat} : ∀ {vs : List gm_V} {ws : List Value}, gm_sr α adK n vs ws → ws.length = vs.length ∧ ∀ (i : Nat) (v : gm_V), vs[i]? = some v → ∃ w, ws[i]? = some w ∧ gm_cv α adK n v w := by
  intro vs
  induction vs with
  | nil => intro ws h; cases h; exact ⟨rfl, fun i v h => by simp at h⟩
  | cons v vs ih =>
    intro ws h
    obtain ⟨w, ws', rfl, hw, h⟩ := h
    obtain ⟨h1, h2⟩ := ih h
    refine ⟨by simp [h1], fun i u hu => ?_⟩
    cases i with
    | zero => simp at hu; subst hu; exact ⟨w, rfl, hw⟩
    | succ i => simpa using h2 i u (by simpa using hu)
theorem gm_sr_app {α adK : Nat → Nat} {n : Nat} : ∀ {vs us : List gm_V} {ws : List Value}, gm_sr α adK n (vs ++ us) ws → ∃ w1 w2, ws = w1 ++ w2 ∧ gm_sr α adK n vs w1 ∧ gm_sr α adK n us w2 := by
  intro vs
  induction vs with
  | nil => intro us ws h; exact ⟨[], ws, rfl, rfl, h⟩
  | cons v vs ih =>
    intro us ws h
    obtain ⟨w, ws', rfl, hw, h⟩ := h
    obtain ⟨w1, w2, rfl, a, b⟩ := ih h
    exact ⟨w :: w1, w2, rfl, ⟨w, w1, rfl, hw, a⟩, b⟩
theorem gm_sr_snoc {α adK : Nat → Nat} {n : Nat} : ∀ {vs : List gm_V} {ws : List Value} {v : gm_V} {w : Value}, gm_sr α adK n vs ws → gm_cv α adK n v w → gm_sr α adK n (vs ++ [v]) (ws ++ [w]) := by
  intro vs
  induction vs with
  | nil => intro ws v w h hv; cases h; exact ⟨w, [], rfl, hv, rfl⟩
  | cons u vs ih =>
    intro ws v w h hv
    obtain ⟨x, ws', rfl, hx, h⟩ := h
    exact ⟨x, ws' ++ [w], rfl, hx, ih h hv⟩
theorem gm_sr_rev {α adK : Nat → Nat} {n : Nat} : ∀ {vs : List gm_V} {ws : List Value}, gm_sr α adK n vs ws → gm_sr α adK n vs.reverse ws.reverse := by
  intro vs
  induction vs with
  | nil => intro ws h; cases h; rfl
  | cons u vs ih =>
    intro ws h
    obtain ⟨x, ws', rfl, hx, h⟩ := h
    rw [List.reverse_cons, List.reverse_cons]
    exact gm_sr_snoc (ih h) hx
/-- the locals at a method's entry -/
def gm_ent (mj : Nat) (vs : List gm_V) : gm_L := vs.map some ++ List.replicate (gm_ml mj - vs.length) none
theorem gm_lg_len : ∀ {ws : List Value}, (∀ w ∈ ws, w.category = 1) → (lg_sl ws).length = ws.length := by
  intro ws
  induction ws with
  | nil => intro _; rfl
  | cons w ws ih =>
    intro h
    have h1 := h w List.mem_cons_self
    have h2 := ih fun x hx => h x (List.mem_cons_of_mem _ hx)
    have : lg_sl (w :: ws) = [Slot.val w] ++ lg_sl ws := by simp [lg_sl, h1]
    rw [this, List.length_append, h2]; simp; omega
theorem gm_args_at : ∀ {ws : List Value}, (∀ w ∈ ws, w.category = 1) → ∀ (i0 i : Nat) (w : Value), ws[i]? = some w → (i0 + i, w) ∈ lv_args i0 ws := by
  intro ws
  induction ws with
  | nil => intro _ i0 i w h; simp at h
  | cons x ws ih =>
    intro h i0 i w hi
    have h1 := h x List.mem_cons_self
    have e : lv_args i0 (x :: ws) = (i0, x) :: lv_args (i0 + 1) ws := by simp [lv_args, h1]
    rw [e]
    cases i with
    | zero => simp at hi; subst hi; exact List.mem_cons_self
    | succ i =>
      have := ih (fun y hy => h y (List.mem_cons_of_mem _ hy)) (i0 + 1) i w (by simpa using hi)
      rw [show i0 + (i + 1) = i0 + 1 + i by omega]
      exact List.mem_cons_of_mem _ this
theorem gm_lr_ent {α adK : Nat → Nat} {n mj : Nat} {vs : List gm_V} {ws : List Value} (h : gm_sr α adK n vs ws) (hcat : ∀ v ∈ vs, ¬ gm_sort v = 1) (hlen : vs.length ≤ gm_ml mj) : gm_lr α adK n (gm_ml mj) (gm_ent mj vs) ((lg_sl ws ++ List.replicate (gm_ml mj - (lg_sl ws).length) Slot.unset).toArray) := by
  obtain ⟨hl, hat⟩ := gm_sr_at h
  have hc : ∀ w ∈ ws, w.category = 1 := by
    intro w hw
    obtain ⟨i, hi⟩ := List.getElem?_of_mem hw
    have hlt : i < ws.length := (List.getElem?_eq_some_iff.mp hi).1
    have hv : vs[i]? = some (vs[i]'(by omega)) := List.getElem?_eq_getElem (by omega)
    obtain ⟨w', e, c⟩ := hat i _ hv
    rw [hi] at e; cases e
    exact gm_cat1 c (hcat _ (List.mem_of_getElem? hv))
  refine ⟨by simp [gm_ent]; omega, _, lv_entry ws (by rw [gm_lg_len hc]; omega), fun i v hi => ?_⟩
  unfold gm_ent at hi
  by_cases hlt : i < vs.length
  · rw [List.getElem?_append_left (by simpa using hlt), List.getElem?_map] at hi
    cases hv : vs[i]? with
    | none => rw [hv] at hi; simp at hi
    | some u =>
      rw [hv] at hi
      simp at hi
      subst hi
      obtain ⟨w, e, c⟩ := hat i u hv
      have := gm_args_at hc 0 i w e
      rw [Nat.zero_add] at this
      exact ⟨w, c, this⟩
  · rw [List.getElem?_append_right (by simpa using hlt)] at hi
    have := List.mem_of_getElem? hi
    have := List.eq_of_mem_replicate this
    cases this
theorem gm_mck_spec {mj : Nat} (h : mj < 370) : gm_cwd mj ∈ gm_T ∧ (gm_ow mj ≠ gm_mxi → plainName (gm_mn mj).cls = true) ∧ ((gm_mn mj).cls ≠ "java/lang/invoke/MethodHandle" ∧ (gm_mn mj).cls ≠ "java/lang/invoke/VarHandle") ∧ (parseMethodDescriptor (gm_mn mj).desc).map (fun d => d.parameters.length) = some (gm_na mj) ∧ gm_ml mj ≤ 200 ∧ gm_rn (gm_ow mj) = (gm_mn mj).cls := by
  have h1 := gm_mck_ok h
  have h2 := List.all_eq_true.mp gm_owc mj (List.mem_range.mpr h)
  have h3 := List.all_eq_true.mp gm_plm mj (List.mem_range.mpr h)
  simp only [gm_mck, Bool.and_eq_true, decide_eq_true_eq] at h1 h2
  obtain ⟨b, c, d⟩ := h1
  refine ⟨gm_cp_ok h, fun q => ?_, b, c, d, h2⟩
  simp only [Bool.or_eq_true, decide_eq_true_eq] at h3
  rcases h3 with h3 | h3
  · exact absurd h3 q
  · exact h3
section GC
variable {X : Int → Int} {LX d bc bs mi pc : Nat} {L : gm_L} {st : List gm_V} {n : Nat} {K : gm_K} {R : gm_R} {M : gm_M} {Q : gm_Q}
/-- the contract of a method without handlers, for one state of the cells -/
theorem gm_met {mj : Nat} {vs : List gm_V} {avs : List Value} (hm : mj < 370) (hmx : gm_ow mj ≠ gm_mxi) (hh : gm_hh mj = []) (l : Launch) (hl : l.stackTraces = false) {D : va_G} {ti : Nat → ClassId} {adK adV α : Nat → Nat} {A' : Nat → Prop} {H : Heap}
    (hW : gm_Wp X LX d bc bs mj 0 (gm_ent mj vs) [] n K R M Q) (hvs : gm_sr α adK n vs avs) (hcat : ∀ v ∈ vs, ¬ gm_sort v = 1) (hlen : vs.length ≤ gm_ml mj) (hP : va_P D gm_cs (gm_wl ti α n K R M) H) (hD : va_D A' (gm_wl ti α n K R M)) (hRv : gm_Rv n R) (hA' : ∀ q, H.size ≤ q → A' q) :
    vx_Met l (gm_mn mj) (gm_cwd mj :: gm_T) ({ frames := d, cells := bc, slots := bs, locals := d * 300 }) (va_Pc avs (fun U => U.heap = H ∧ gm_Ev X LX adK adV A' U ∧ va_K D gm_cs (gm_ty ti) U)) (gm_QC D ti adK A' α n Q) (gm_XC D ti A' α n Q) bc bs A' := by
  obtain ⟨-, hpl, -, -, -, hown9⟩ := gm_mck_spec hm
  refine vx_ofW (cc := gm_bc mj) (maxL := gm_ml mj) (ret := gm_rt mj) (ws' := gm_T) (hpl hmx) (by unfold gm_cwd; rw [if_pos hh]) ?_
  intro p e s m args below meth c s₁ B hml hex hv
  obtain ⟨rfl, hsz, hev, hK⟩ := hv
  have hts := atoms_spec (ws := gm_cwd mj :: gm_T) B.pre
  have hown : s.vm.findClass (gm_mn mj).cls = some m.cls := findClass_of_methodNamed B.named
  have hin : meth.name = (gm_mn mj).name := (name_of_methodNamed B.named B.method).1
  have htab : c.exceptionTable.toList = tableOf (gm_hh mj) := by
    rw [hh]
    cases hx : c.exceptionTable.toList with
    | nil => rfl
    | cons x xs => exact absurd (hex x (by rw [hx]; exact List.mem_cons_self)) id
  subst hsz
  rw [lg_entry_eq]
  exact hW p l e _ s m _ below meth c D ti adK adV A' α n bc bs ⟨B.exec, B.bytes, hml, by rw [hown9]; exact hown, B.returns, B.notSynchronized, fun w hw => hts w (List.mem_cons_of_mem _ hw), hin, hl, hm, htab⟩ hev (Nat.le_refl _) (Nat.le_refl _) (Nat.le_refl _) (Nat.le_refl _) hA' α s.heap [] 0 0 _ [] gm_xt.rf (by omega) (by omega) ⟨hK, hP, hD, va_S.rf, hRv⟩ (gm_lr_ent hvs hcat hlen) rfl
theorem gm_blind {avs : List Value} {H : Heap} {D : va_G} {ti : Nat → ClassId} {adK adV : Nat → Nat} {A' : Nat → Prop} : FrameBlind (va_Pc avs (fun U => U.heap = H ∧ gm_Ev X LX adK adV A' U ∧ va_K D gm_cs (gm_ty ti) U)) := by
  intro a U g mk h
  obtain ⟨h0, h1, h2, h3⟩ := h
  exact ⟨h0, h1, gm_Ev_to (U := U.calling g mk a) h2 (State.WarmedH.refl U) (Nat.le_refl _) (fun _ _ _ => rfl) (fun _ h => h), va_K.moved (u := U) (U := U.calling g mk a) (Vm.Alike.refl U.vm) h3⟩
/-- behind a call -/
theorem gm_after {p : Program} {l : Launch} {e : Env} {Rm : Room} {s : State} {m : MethodId} {args : Array Value} {below : List Frame} {meth : Method} {c : Code} {H : Heap} {locs : List Loc} {cells slots mc ms : Nat} {D : va_G} {ti : Nat → ClassId} {adK α : Nat → Nat} {A0 A1 : Nat → Prop} {a : Array Value} {ls : Array Slot} {st0 rest : List Value} {Qf : State → Prop} {H0 : Heap} {Q' : gm_Q}
    (hr : vx_Run p l e Rm s m args below meth c H locs cells slots mc ms (F0 m pc ls st0) rest (gm_QC D ti adK A1 α n Q' a) (gm_XC D ti A1 α n Q') A1) (hS : va_S A0 H0 H locs) (hA1 : ∀ q, A1 q → A0 q)
    (kk : ∀ (v : Option Value) (u : Option gm_V) (α' : Nat → Nat) (n' : Nat) (K' : gm_K) (R' : gm_R) (M' : gm_M) (H1 : Heap) (locs1 : List Loc), gm_ov α' adK n' u v → Q' (.inl u) n' K' R' M' → gm_xt α n α' n' → va_K D gm_cs (gm_ty ti) s → va_P D gm_cs (gm_wl ti α' n' K' R' M') H1 → va_D A0 (gm_wl ti α' n' K' R' M') → gm_Rv n' R' → va_S A0 H0 H1 locs1 → W p l e Rm s m args below meth c H1 locs1 (cells + mc) (slots + ms) Qf (F0 m (pc + 3) ls (v.toList ++ rest)))
    (kx : ∀ (x : Nat) (ce : Cell) (q9 : Addr) (α' : Nat → Nat) (n' : Nat) (K' : gm_K) (R' : gm_R) (M' : gm_M) (H1 : Heap) (locs1 : List Loc), x < 5 → Q' (.inr x) n' K' R' M' → gm_xt α n α' n' → va_K D gm_cs (gm_ty ti) s → va_P D gm_cs (gm_wl ti α' n' K' R' M') H1 → va_D A0 (gm_wl ti α' n' K' R' M') → gm_Rv n' R' → va_S A0 H0 H1 locs1 → H1[q9]? = some ce → ce.vm = .none → s.vm.findClass (gm_xn x) = some ce.cls → vx_W p l e Rm s m args below meth c H1 locs1 (cells + mc) (slots + ms) Qf (F0 m pc ls rest) q9) :
    W p l e Rm s m args below meth c H locs cells slots Qf (F0 m pc ls st0) := by
  intro T hT Xs
  rcases hr T hT Xs with ⟨v, st₀, t, T', L9, h0, X', hL9, e1, e2, ⟨⟨v', u, α', n', K', R', M', hv, ho, hq, hxt, hk, hp, hd9, hrv⟩, hF⟩, stp⟩ | ⟨q, st₀, t, T', L9, E, ce, h0, X', hL9, e1, e2, ⟨⟨x, α', n', K', R', M', rfl, hx5, hq, hxt, hk, hp, hd9, hrv⟩, hF⟩, hce, hcv, hcl, stp⟩
  · cases hv
    obtain ⟨k1, k2, k3⟩ := vx_keep h0 e1 hS (fun q _ h => hA1 q h) hA1 hL9 hF
    have hvm : s.vm.Alike t.vm := by rw [← e2]; exact X'.warmed.alike
    obtain ⟨t2, a1, b1⟩ := kk v u α' n' K' R' M' T'.heap (locs ++ L9) ho hq hxt (va_K.moved hvm.symm hk) (by rw [e1]; exact hp) (hd9.weaken fun _ _ _ h => hA1 _ h) hrv k3 T' rfl X'
    exact ⟨t2, stp t2 a1, b1⟩
  · obtain ⟨k1, k2, k3⟩ := vx_keep h0 e1 hS (fun q _ h => hA1 q h) hA1 hL9 hF
    have hvm : s.vm.Alike t.vm := by rw [← e2]; exact X'.warmed.alike
    obtain ⟨t2, a1, b1⟩ := kx x ce q α' n' K' R' M' T'.heap (locs ++ L9) hx5 hq hxt (va_K.moved hvm.symm hk) (by rw [e1]; exact hp) (hd9.weaken fun _ _ _ h => hA1 _ h) hrv k3 (by rw [e1]; exact hce) hcv hcl T' rfl X'
    exact ⟨t2, stp.trans a1, b1⟩
/-- what a callee owes its caller: the caller goes on with the value; a throw goes on to the caller's end -/
def gm_cont (X : Int → Int) (LX d bc bs mi pc : Nat) (L : gm_L) (st : List gm_V) (Q : gm_Q) : gm_Q := fun o n K R M => match o with
  | .inl u => gm_Wp X LX d bc bs mi pc L (u.toList ++ st) n K R M Q
  | .inr x => Q (.inr x) n K R M
theorem gm_tail {p : Program} {l : Launch} {e : Env} {Rm : Room} {s : State} {m : MethodId} {args : Array Value} {below : List Frame} {meth : Method} {c : Code} {H : Heap} {locs : List Loc} {cells slots bc' bs' mc ms n0 : Nat} {D : va_G} {ti : Nat → ClassId} {adK adV α α0 : Nat → Nat} {A A1 : Nat → Prop} {a : Array Value} {ls : Array Slot} {sv0 sv : List Value}
    (hh : gm_hh mi = []) (hcx : gm_Cx mi p l s m args meth c) (hev : gm_Ev X LX adK adV A s) (hd : d ≤ Rm.frames) (hd2 : d * 300 ≤ Rm.locals) (hmc : mc ≤ Rm.cells) (hms : ms ≤ Rm.slots) (hA : ∀ q, s.heap.size ≤ q → A q) (hxt : gm_xt α0 n0 α n) (hb1 : bc' ≤ bc) (hb2 : bs' ≤ bs) (hc1 : cells + bc ≤ mc) (hc2 : slots + bs ≤ ms) (hSv : va_S A s.heap H locs) (hL : gm_lr α adK n (gm_ml mi) L ls) (hS : gm_sr α adK n st sv) (hA1 : ∀ q, A1 q → A q)
    (hr : vx_Run p l e Rm s m args below meth c H locs cells slots bc' bs' (F0 m pc ls sv0) sv (gm_QC D ti adK A1 α n (gm_cont X LX d (bc - bc') (bs - bs') mi (pc + 3) L st Q) a) (gm_XC D ti A1 α n (gm_cont X LX d (bc - bc') (bs - bs') mi (pc + 3) L st Q)) A1) :
    W p l e Rm s m args below meth c H locs cells slots (vx_MQ below (gm_QC D ti adK A α0 n0 Q) (gm_XC D ti A α0 n0 Q) args s mc ms A) (F0 m pc ls sv0) := by
  refine gm_after hr hSv hA1 (fun v u α' n' K' R' M' H1 locs1 ho hq hx9 hk hp hdd hrv hs9 => ?_) (fun x ce q9 α' n' K' R' M' H1 locs1 hx5 hq hx9 hk hp hdd hrv hs9 hce hcv hcl => ?_)
  · refine hq p l e Rm s m args below meth c D ti adK adV A α0 n0 mc ms hcx hev hd hd2 hmc hms hA α' H1 locs1 (cells + bc') (slots + bs') ls (v.toList ++ sv) (hxt.trans hx9) (by omega) (by omega) ⟨hk, hp, hdd, hs9, hrv⟩ (gm_lr_ext hx9 hL) ?_
    cases u with
    | none => cases ho; exact gm_sr_ext hx9 hS
    | some u => obtain ⟨w, rfl, hw⟩ := ho; exact ⟨w, sv, rfl, hw, gm_sr_ext hx9 hS⟩
  · refine vx_out (ce := ce) (E := gm_xn x) (fun z hz => ?_) hcx.2.2.2.2.2.1 hce hcv hcl (fun t ht hvm => ⟨⟨x, α', n', K', R', M', rfl, hx5, hq, hxt.trans hx9, va_K.moved hvm hk, by rw [ht]; exact hp, hdd, hrv⟩, hs9.F ht⟩) hs9.2.2 (by omega) (by omega)
    rw [hcx.2.2.2.2.2.2.2.2.2.2, hh] at hz
    cases hz
end GC
end
section
/-! THE CALLS, kind by kind. -/
theorem gm_cal_spec {o ix kd mj : Nat} (h : gm_cal o ix = some (kd, mj)) : mj < 370 ∧ Jvm.Cond.initialized (gm_mn mj).cls ∈ gm_T ∧ (kd ≠ 3 → Jvm.Cond.methodLink (gm_rn o) ix (gm_mn mj) ∈ gm_T) ∧ (kd = 0 → Jvm.Cond.instanceMethod (gm_mn mj) ∈ gm_T ∧ Jvm.Cond.selects (gm_mn mj).cls (gm_mn mj) (gm_mn mj) ∈ gm_T) ∧ (kd = 1 ∨ kd = 3 → Jvm.Cond.instanceMethod (gm_mn mj) ∈ gm_T ∧ (gm_mn mj).name = "<init>" ∧ gm_rt mj = none) ∧ (kd = 2 ∨ kd = 5 → Jvm.Cond.static (gm_mn mj) ∈ gm_T) ∧ (kd ≠ 5 → gm_hh mj = []) ∧ (kd = 3 → ∃ r ∈ gm_nst, r.1 = gm_rn o ∧ r.2.1 = ix ∧ r.2.2.1 = gm_mn mj) := by
  unfold gm_cal at h
  cases hr : gm_co[o]? with
  | none => rw [hr] at h; simp at h
  | some r =>
    rw [hr] at h
    have h2 := gm_lookup_mem _ _ _ h
    have hlt := (List.getElem?_eq_some_iff.mp hr).1
    have h3 := List.all_eq_true.mp gm_co_ok o (List.mem_range.mpr hlt)
    rw [hr] at h3
    have h4 := List.all_eq_true.mp h3 _ h2
    obtain ⟨q, hq, hq2⟩ := List.any_eq_true.mp h4
    have h5 := gm_cl_ok hq
    obtain ⟨a1, a2, a3, a4, a5, a6, a7, a8⟩ := q
    simp only [decide_eq_true_eq, Prod.mk.injEq] at hq2
    obtain ⟨rfl, rfl, rfl, rfl⟩ := hq2
    simp only [gm_cck, Bool.and_eq_true, decide_eq_true_eq] at h5
    obtain ⟨b1, ⟨⟨⟨b2, b3⟩, b4⟩, b5⟩, b6⟩ := h5
    refine ⟨b1, gm_T_in b2 rfl, fun q => ?_, fun q => ?_, fun q => ?_, fun q => ?_, fun q => ?_, fun q => ?_⟩
    · rw [if_neg q] at b3
      exact gm_T_in (by simpa using b3) rfl
    · subst q
      simp only [if_true, Bool.and_eq_true, decide_eq_true_eq] at b4
      exact ⟨gm_T_in b4.1 rfl, gm_T_in b4.2 rfl⟩
    · rw [if_neg (by omega), if_pos q] at b4
      simp only [Bool.and_eq_true, decide_eq_true_eq] at b4
      exact ⟨gm_T_in b4.1 rfl, b4.2⟩
    · rw [if_neg (by omega), if_neg (by omega)] at b4
      exact gm_T_in (by simpa using b4) rfl
    · rw [if_neg q] at b5
      simpa using b5
    · rw [if_pos q] at b6
      obtain ⟨r9, hr9, hr8⟩ := List.any_eq_true.mp b6
      exact ⟨r9, hr9, by simpa using hr8⟩
theorem gm_cat_eq {α adK : Nat → Nat} {n : Nat} {v : gm_V} {w : Value} (h : gm_cv α adK n v w) : w.category = gm_cat v := by
  unfold gm_cat
  split
  · rename_i hs
    rcases v with x | x | y
    · simp [gm_sort] at hs
    · cases h; rfl
    · simp [gm_sort] at hs
  · rename_i hs; exact gm_cat1 h hs
theorem gm_sum_eq {α adK : Nat → Nat} {n : Nat} : ∀ {st : List gm_V} {sv : List Value}, gm_sr α adK n st sv → (sv.map fun v => v.category).sum = (st.map gm_cat).sum := by
  intro st
  induction st with
  | nil => intro sv h; cases h; rfl
  | cons v st ih =>
    intro sv h
    obtain ⟨w, sv', rfl, hw, h⟩ := h
    simp only [List.map_cons, List.sum_cons, ih h, gm_cat_eq hw]
section GI
variable {X : Int → Int} {LX d bc bs mi pc : Nat} {L : gm_L} {st : List gm_V} {n : Nat} {K : gm_K} {R : gm_R} {M : gm_M} {Q : gm_Q}
theorem gm_sub_A {A : Nat → Prop} {H0 H : Heap} {locs : List Loc} {ws : va_W} (hD : va_D A ws) (hS : va_S A H0 H locs) (hA : ∀ q, H0.size ≤ q → A q) : ∀ q, va_A ws H.size q → A q := by
  intro q h
  rcases h with ⟨k, e, h⟩ | h
  · exact hD.2 k (q, e) h
  · exact hA q (Nat.le_trans hS.1 h)
theorem gm_c_virt {ix mj k ci d' bc' bs' : Nat} {as : List gm_V} (h : gm_at mi pc = some (.invokevirtual ix)) (hc : gm_cal (gm_ow mi) ix = some (0, mj)) (hmx : gm_ow mj ≠ gm_mxi) (hh : gm_hh mi = []) (hk : 1 ≤ k ∧ k ≤ n) (hK : (K k).1 = ci + 4) (hci : ci < 12) (hcn : gm_cn ci = (gm_mn mj).cls) (hna : as.length = gm_na mj) (hcat : ∀ v ∈ as, ¬ gm_sort v = 1) (hlen : as.length + 1 ≤ gm_ml mj) (hst : (st.map gm_cat).sum ≤ 8) (hd' : d' + 1 ≤ d) (hb1 : bc' ≤ bc) (hb2 : bs' ≤ bs)
    (hW : gm_Wp X LX d' bc' bs' mj 0 (gm_ent mj (gm_vr k :: as)) [] n K R M (gm_cont X LX d (bc - bc') (bs - bs') mi (pc + 3) L st Q)) : gm_Wp X LX d bc bs mi pc L (as.reverse ++ gm_vr k :: st) n K R M Q := by
  intro p l e Rm s m args below meth c D ti adK adV A α0 n0 mc ms hcx hev hd hd2 hmc hms hA α H locs cells slots ls sv hxt hc1 hc2 hR hL hS
  obtain ⟨w1, w2, rfl, hw1, w, sv2, rfl, ⟨rfl, hkn⟩, hS2⟩ := gm_sr_app hS
  have hdg := gm_dec hcx h rfl
  obtain ⟨hx, hb, hml, hown, -, -, hts, -, hl, -⟩ := id hcx
  obtain ⟨hKn, hP, hD, hSv, hRv⟩ := id hR
  obtain ⟨hj, i1, i2, i3, -, -, i6, -⟩ := gm_cal_spec hc
  obtain ⟨j1, -, j3, j4, j5, -⟩ := gm_mck_spec hj
  have hA1 := gm_sub_A hD hSv hA
  have hvs : gm_sr α adK n (gm_vr k :: as) (Value.ref (α k) :: w1.reverse) := ⟨_, _, rfl, ⟨(gm_rf_pos hk.1).symm, hkn⟩, by have := gm_sr_rev hw1; rwa [List.reverse_reverse] at this⟩
  have hM := gm_met (adV := adV) (ti := ti) (D := D) hj hmx (i6 (by omega)) l hl hW hvs (by intro v hv; rcases List.mem_cons.mp hv with rfl | hv; exact (by simp [gm_sort]); exact hcat v hv) (by simpa using hlen) hP (hD.self (sz := H.size)) hRv (fun q h => Or.inr h)
  have he := gm_wl_at (ti := ti) (α := α) (K := K) (R := R) (M := M) hk.1 hk.2
  rw [gm_en_obj hK] at he
  obtain ⟨T, N, hcs, -⟩ := gm_cs_get hci
  have hcode : gm_cwd mj = .code (gm_mn mj) (gm_bc mj) (gm_ml mj) (gm_rt mj) := by unfold gm_cwd; rw [if_pos (i6 (by omega))]
  have hwl : w1.length = as.length := by have := (gm_sr_at hw1).1; simpa using this
  have hG : GoodIn gm_T (wsV (gm_rn (gm_ow mi)) ix (gm_mn mj).cls (gm_mn mj) (gm_cwd mj :: gm_T)) := by
    intro w hw
    refine ⟨?_, ?_⟩
    · simp only [wsV, List.cons_append, List.nil_append, List.mem_cons] at hw
      rcases hw with rfl | rfl | rfl | rfl | rfl | hw
      · exact i2 (by omega)
      · exact (i3 rfl).1
      · exact (i3 rfl).2
      · exact i1
      · exact j1
      · exact hw
    · simp only [wsV, List.cons_append, List.nil_append, List.mem_cons] at hw
      rcases hw with rfl | rfl | rfl | rfl | rfl | hw
      · exact Or.inl rfl
      · exact Or.inl rfl
      · exact Or.inl rfl
      · exact Or.inl rfl
      · exact (gm_T_good _ j1).2
      · exact (gm_T_good _ hw).2
  rw [gm_rf_pos hk.1]
  refine gm_tail (bc' := bc') (bs' := bs') hh hcx hev hd hd2 hmc hms hA hxt hb1 hb2 hc1 hc2 hSv hL hS2 hA1 (a := (Value.ref (α k) :: w1.reverse).toArray) ?_
  refine vx_runV (As := w1.reverse) (n := gm_na mj) (index := ix) (C := (gm_mn mj).cls) ⟨hx, hb, hml, hown, hts⟩ hM (cwV (rm := { frames := d', cells := bc', slots := bs', locals := d' * 300 }) (gm_na mj) hts hG (by rw [hcode]) rfl rfl ⟨rfl, j3.1, j3.2, j4⟩ ⟨by show d' + 1 ≤ _; omega, by show 8 + (gm_ml mj + 11) + d' * 300 ≤ _; omega⟩) ⟨gm_blind, ?_, fun U hU hWm => ⟨rfl, hU, gm_Ev_to hev hWm (by rw [hU]; exact hSv.1) (fun a h1 h2 => by rw [hU]; exact hSv.2.1 a h1 h2) hA1, va_K.moved hWm.alike hKn⟩⟩ rfl (by rw [List.length_reverse, hwl, hna]) ?_ (by rw [List.reverse_reverse]) (lv_room (by rw [gm_sum_eq hS2]; exact hst)) hdg ⟨by omega, by omega⟩
  · have := va_recv hKn hP hcs he
    rw [hcn] at this
    exact this
  · exact hL.2.choose_spec.1.1
end GI
end
section
/-! CALLS of constructors and static methods; Object's own constructor; Math's max and min. -/
section GI
variable {X : Int → Int} {LX d bc bs mi pc : Nat} {L : gm_L} {st : List gm_V} {n : Nat} {K : gm_K} {R : gm_R} {M : gm_M} {Q : gm_Q}
theorem gm_G1 {mj : Nat} (h : mj < 370) : GoodIn gm_T (gm_cwd mj :: gm_T) := by
  intro w hw
  obtain ⟨j1, -⟩ := gm_mck_spec h
  rcases List.mem_cons.mp hw with rfl | hw
  · exact ⟨j1, (gm_T_good _ j1).2⟩
  · exact gm_T_good _ hw
theorem gm_c_init {ix kd mj k d' bc' bs' : Nat} {as : List gm_V} (h : gm_at mi pc = some (.invokespecial ix)) (hc : gm_cal (gm_ow mi) ix = some (kd, mj)) (hkd : kd = 1 ∨ kd = 3) (hmx : gm_ow mj ≠ gm_mxi) (hh : gm_hh mi = []) (hk : 1 ≤ k ∧ k ≤ n) (hna : as.length = gm_na mj) (hcat : ∀ v ∈ as, ¬ gm_sort v = 1) (hlen : as.length + 1 ≤ gm_ml mj) (hst : (st.map gm_cat).sum ≤ 8) (hd' : d' + 1 ≤ d) (hb1 : bc' ≤ bc) (hb2 : bs' ≤ bs)
    (hW : gm_Wp X LX d' bc' bs' mj 0 (gm_ent mj (gm_vr k :: as)) [] n K R M (gm_cont X LX d (bc - bc') (bs - bs') mi (pc + 3) L st Q)) : gm_Wp X LX d bc bs mi pc L (as.reverse ++ gm_vr k :: st) n K R M Q := by
  intro p l e Rm s m args below meth c D ti adK adV A α0 n0 mc ms hcx hev hd hd2 hmc hms hA α H locs cells slots ls sv hxt hc1 hc2 hR hL hS
  obtain ⟨w1, w2, rfl, hw1, w, sv2, rfl, ⟨rfl, hkn⟩, hS2⟩ := gm_sr_app hS
  have hdg := gm_dec hcx h rfl
  obtain ⟨hx, hb, hml, hown, -, -, hts, -, hl, -⟩ := id hcx
  obtain ⟨hKn, hP, hD, hSv, hRv⟩ := id hR
  obtain ⟨hj, i1, i2, -, i4, -, i6, i7⟩ := gm_cal_spec hc
  obtain ⟨j1, -, j3, j4, j5, -⟩ := gm_mck_spec hj
  have hA1 := gm_sub_A hD hSv hA
  have hvs : gm_sr α adK n (gm_vr k :: as) (Value.ref (α k) :: w1.reverse) := ⟨_, _, rfl, ⟨(gm_rf_pos hk.1).symm, hkn⟩, by have := gm_sr_rev hw1; rwa [List.reverse_reverse] at this⟩
  have hM := gm_met (adV := adV) (ti := ti) (D := D) hj hmx (i6 (by omega)) l hl hW hvs (by intro v hv; rcases List.mem_cons.mp hv with rfl | hv; exact (by simp [gm_sort]); exact hcat v hv) (by simpa using hlen) hP (hD.self (sz := H.size)) hRv (fun q h => Or.inr h)
  obtain ⟨y1, y2, y3⟩ := i4 hkd
  have hcode : gm_cwd mj = .code (gm_mn mj) (gm_bc mj) (gm_ml mj) none := by unfold gm_cwd; rw [if_pos (i6 (by omega)), y3]
  have hwl : w1.length = as.length := by have := (gm_sr_at hw1).1; simpa using this
  rw [gm_rf_pos hk.1]
  have hpre : PreS s H (va_Pc (Value.ref (α k) :: w1.reverse) (fun U => U.heap = H ∧ gm_Ev X LX adK adV (va_A (gm_wl ti α n K R M) H.size) U ∧ va_K D gm_cs (gm_ty ti) U)) (Value.ref (α k) :: w1.reverse) := ⟨gm_blind, fun U hU hWm => ⟨rfl, hU, gm_Ev_to hev hWm (by rw [hU]; exact hSv.1) (fun a h1 h2 => by rw [hU]; exact hSv.2.1 a h1 h2) hA1, va_K.moved hWm.alike hKn⟩⟩
  refine gm_tail (bc' := bc') (bs' := bs') hh hcx hev hd hd2 hmc hms hA hxt hb1 hb2 hc1 hc2 hSv hL hS2 hA1 (a := (Value.ref (α k) :: w1.reverse).toArray) ?_
  have hR1 : d' + 1 ≤ Rm.frames ∧ 8 + (gm_ml mj + 11) + d' * 300 ≤ Rm.locals := ⟨by omega, by omega⟩
  have hroom := lv_room (m := m) (pc := pc) (ls := ls) (rest := w1 ++ Value.ref (α k) :: sv2) (st := sv2) (by rw [gm_sum_eq hS2]; exact hst)
  rcases hkd with rfl | rfl
  · exact vx_runI (As := w1.reverse) (n := gm_na mj) (index := ix) ⟨hx, hb, hml, hown, hts⟩ hM (cwI (rm := { frames := d', cells := bc', slots := bs', locals := d' * 300 }) (gm_na mj) hts (gm_G1 hj) (by rw [hcode]) rfl rfl (hts _ i1) (hts _ (i2 (by omega))) (hts _ y1) y2 ⟨j3.1, j3.2, j4⟩ hR1) hpre rfl (by rw [List.length_reverse, hwl, hna]) hL.2.choose_spec.1.1 (by rw [List.reverse_reverse]) hroom hdg ⟨by omega, by omega⟩
  · obtain ⟨r, hr1, hr2, hr3, hr4⟩ := i7 rfl
    have hnl := hev.2.2.2.2.2.2.2.2.2.1 r hr1
    rw [hr2, hr3, hr4] at hnl
    exact vx_runIN (As := w1.reverse) (n := gm_na mj) (index := ix) ⟨hx, hb, hml, hown, hts⟩ hM ⟨va_cnB (rm := { frames := d', cells := bc', slots := bs', locals := d' * 300 }) (gm_na mj) hts (gm_G1 hj) (by rw [hcode]) rfl rfl hnl (hts _ i1) ⟨j3.1, j3.2, j4⟩ hR1, y2, hts _ y1⟩ hpre rfl (by rw [List.length_reverse, hwl, hna]) hL.2.choose_spec.1.1 (by rw [List.reverse_reverse]) hroom hdg ⟨by omega, by omega⟩
theorem gm_c_stat {ix mj d' bc' bs' : Nat} {as : List gm_V} (h : gm_at mi pc = some (.invokestatic ix)) (hc : gm_cal (gm_ow mi) ix = some (2, mj)) (hmx : gm_ow mj ≠ gm_mxi) (hh : gm_hh mi = []) (hna : as.length = gm_na mj) (hcat : ∀ v ∈ as, ¬ gm_sort v = 1) (hlen : as.length ≤ gm_ml mj) (hst : (st.map gm_cat).sum ≤ 8) (hd' : d' + 1 ≤ d) (hb1 : bc' ≤ bc) (hb2 : bs' ≤ bs)
    (hW : gm_Wp X LX d' bc' bs' mj 0 (gm_ent mj as) [] n K R M (gm_cont X LX d (bc - bc') (bs - bs') mi (pc + 3) L st Q)) : gm_Wp X LX d bc bs mi pc L (as.reverse ++ st) n K R M Q := by
  intro p l e Rm s m args below meth c D ti adK adV A α0 n0 mc ms hcx hev hd hd2 hmc hms hA α H locs cells slots ls sv hxt hc1 hc2 hR hL hS
  obtain ⟨w1, sv2, rfl, hw1, hS2⟩ := gm_sr_app hS
  have hdg := gm_dec hcx h rfl
  obtain ⟨hx, hb, hml, hown, -, -, hts, -, hl, -⟩ := id hcx
  obtain ⟨hKn, hP, hD, hSv, hRv⟩ := id hR
  obtain ⟨hj, i1, i2, -, -, i5, i6, -⟩ := gm_cal_spec hc
  obtain ⟨j1, -, j3, j4, j5, -⟩ := gm_mck_spec hj
  have hA1 := gm_sub_A hD hSv hA
  have hvs : gm_sr α adK n as w1.reverse := by have := gm_sr_rev hw1; rwa [List.reverse_reverse] at this
  have hM := gm_met (adV := adV) (ti := ti) (D := D) hj hmx (i6 (by omega)) l hl hW hvs hcat hlen hP (hD.self (sz := H.size)) hRv (fun q h => Or.inr h)
  have hcode : gm_cwd mj = .code (gm_mn mj) (gm_bc mj) (gm_ml mj) (gm_rt mj) := by unfold gm_cwd; rw [if_pos (i6 (by omega))]
  have hwl : w1.length = as.length := by have := (gm_sr_at hw1).1; simpa using this
  have hpre : PreS s H (va_Pc w1.reverse (fun U => U.heap = H ∧ gm_Ev X LX adK adV (va_A (gm_wl ti α n K R M) H.size) U ∧ va_K D gm_cs (gm_ty ti) U)) w1.reverse := ⟨gm_blind, fun U hU hWm => ⟨rfl, hU, gm_Ev_to hev hWm (by rw [hU]; exact hSv.1) (fun a h1 h2 => by rw [hU]; exact hSv.2.1 a h1 h2) hA1, va_K.moved hWm.alike hKn⟩⟩
  refine gm_tail (bc' := bc') (bs' := bs') hh hcx hev hd hd2 hmc hms hA hxt hb1 hb2 hc1 hc2 hSv hL hS2 hA1 (a := w1.reverse.toArray) ?_
  have hR1 : d' + 1 ≤ Rm.frames ∧ 8 + (gm_ml mj + 11) + d' * 300 ≤ Rm.locals := ⟨by omega, by omega⟩
  have hroom := lv_room (m := m) (pc := pc) (ls := ls) (rest := w1 ++ sv2) (st := sv2) (by rw [gm_sum_eq hS2]; exact hst)
  exact vx_runS (As := w1.reverse) (n := gm_na mj) (index := ix) ⟨hx, hb, hml, hown, hts⟩ hM ⟨callB_of (rm := { frames := d', cells := bc', slots := bs', locals := d' * 300 }) (gm_na mj) hts (gm_G1 hj) (by rw [hcode]) rfl rfl (hts _ i1) (hts _ (i2 (by omega))) ⟨j3.1, j3.2, j4⟩ hR1, hts _ (i5 (Or.inl rfl))⟩ hpre rfl (by rw [List.length_reverse, hwl, hna]) hL.2.choose_spec.1.1 (by rw [List.reverse_reverse]) hroom hdg ⟨by omega, by omega⟩
end GI
end
section
/-! STRING CONSTANTS by place, THROWS. -/
def gm_slk : List ((Nat × Nat) × Nat) := [((12, 82), 0), ((12, 87), 1), ((12, 89), 2), ((12, 65), 3), ((12, 100), 4), ((12, 109), 5), ((12, 111), 6), ((12, 122), 7), ((12, 124), 8), ((12, 126), 9), ((12, 128), 10), ((12, 130), 11), ((12, 132), 12), ((12, 134), 13), ((12, 136), 14), ((12, 96), 15), ((12, 98), 16), ((9, 19), 17), ((9, 31), 18), ((9, 36), 19), ((9, 41), 20), ((9, 131), 21), ((9, 46), 22), ((9, 51), 23), ((9, 56), 24), ((9, 61), 25), ((9, 152), 26), ((9, 66), 27), ((9, 71), 28), ((0, 123), 29), ((0, 133), 30), ((0, 140), 31), ((0, 458), 32), ((0, 455), 33), ((0, 197), 34), ((0, 215), 35), ((0, 462), 36), ((0, 241), 37), ((0, 263), 38), ((0, 272), 39), ((0, 287), 40), ((0, 289), 41), ((0, 301), 42), ((0, 460), 43), ((0, 365), 44), ((0, 379), 45), ((0, 414), 46), ((20, 181), 47), ((20, 185), 48), ((20, 190), 49), ((20, 195), 50), ((20, 156), 51), ((20, 200), 52), ((20, 205), 53), ((20, 168), 54), ((20, 210), 55), ((20, 215), 56), ((20, 220), 57), ((20, 222), 58), ((20, 275), 59), ((20, 277), 60), ((20, 279), 61), ((20, 281), 62), ((20, 256), 63), ((20, 261), 64), ((20, 263), 65), ((20, 231), 66), ((20, 233), 67), ((20, 235), 68), ((20, 237), 69), ((20, 239), 70), ((20, 241), 71), ((20, 243), 72), ((20, 268), 73), ((20, 273), 74)]
def gm_sld (o ix : Nat) : Option Nat := gm_slk.lookup (o, ix)
theorem gm_slk_ok : gm_slk.all (fun q => (match gm_sr_[q.2]? with | some r => decide (r.1 = gm_rn q.1.1 ∧ r.2.1 = q.1.2 ∧ r.2.2.2 = q.2) | none => false) && decide (q.2 < 1000)) = true := by decide +kernel
/-- the classes thrown: class of the code, its link, number, the constructor's link; words -/
def gm_xl : List (Nat × Nat × Nat × Nat × Nat × Nat) := [(0, 121, 0, 125, 1072, 176), (0, 131, 1, 135, 1141, 177), (0, 261, 2, 265, 1366, 181), (0, 453, 3, 457, 1229, 179)]
def gm_xnm : List String := ["java/lang/RuntimeException", "java/lang/Exception"]
def gm_xok (w : Jvm.Cond) (X : String) : Bool := (decide (w ∈ lw_tbl) && goodWord w) || decide (w = .castable X X) || gm_dcs.any (fun y => decide (w = .declares y))
def gm_xck (q : Nat × Nat × Nat × Nat × Nat × Nat) : Bool := match q with
  | (o, ik, x, ic, p1, p2) => decide (x < 5) && decide (lw_tbl[p1]? = some (.classLink (gm_rn o) ik (gm_xn x))) && decide (lw_tbl[p2]? = some (.initialized (gm_xn x))) && (vx_atS (gm_rn o) ic (gm_xn x) gm_xnm).all (fun w => gm_xok w (gm_xn x) && vx_ot w) && (Bundle.fit (gm_xn x) && gm_xnm.all Bundle.fit)
theorem gm_xl_ok : gm_xl.all gm_xck = true := by decide +kernel
def gm_xlk (o ik : Nat) : Option (Nat × Nat) := (gm_xl.find? (fun q => decide (q.1 = o ∧ q.2.1 = ik))).map (fun q => (q.2.2.1, q.2.2.2.1))
end
section
/-! HOW A METHOD ENDS. -/
section GE
variable {X : Int → Int} {LX d bc bs mi pc : Nat} {L : gm_L} {st : List gm_V} {n : Nat} {K : gm_K} {R : gm_R} {M : gm_M} {Q : gm_Q}
theorem gm_r_int {x : Int} (h : gm_at mi pc = some .ireturn) (hr : gm_rt mi = some .int ∨ gm_rt mi = some .boolean ∧ (x = 0 ∨ x = 1)) (hq : Q (.inl (some (gm_vi x))) n K R M) : gm_Wp X LX d bc bs mi pc L [gm_vi x] n K R M Q := by
  intro p l e Rm s m args below meth c D ti adK adV A α0 n0 mc ms hcx hev hd hd2 hmc hms hA α H locs cells slots ls sv hxt hc1 hc2 hR hL hS
  obtain ⟨w, sv, rfl, h1, hS⟩ := hS
  cases h1; cases hS
  have hdg := gm_dec hcx h rfl
  obtain ⟨hx, hb, -, -, hret, hlk, -⟩ := id hcx
  obtain ⟨hKn, hP, hD, hSv, hRv⟩ := id hR
  have hq' : ∀ t : State, t.heap = H → s.WarmedH t.vm → gm_QC D ti adK A α0 n0 Q args s (.returned (some (.int (Int32.ofInt x)))) t := fun t ht hW => ⟨⟨_, some (gm_vi x), α, n, K, R, M, rfl, ⟨_, rfl, rfl⟩, hq, hxt, va_K.moved hW.alike hKn, by rw [ht]; exact hP, hD, hRv⟩, hSv.F ht⟩
  refine W.widen (k := mc) (n := ms) (by omega) (by omega) (vx_ret ?_)
  rcases hr with hr | ⟨hr, h01⟩
  · exact W.iret hx hb (by rw [hret]; exact hr) hq' hSv.2.2 hdg hlk
  · exact W.zret hx hb (by rw [hret]; exact hr) (by rcases h01 with rfl | rfl <;> rfl) hq' hSv.2.2 hdg hlk
theorem gm_r_void (h : gm_at mi pc = some .return_) (hr : gm_rt mi = none) (hq : Q (.inl none) n K R M) : gm_Wp X LX d bc bs mi pc L [] n K R M Q := by
  intro p l e Rm s m args below meth c D ti adK adV A α0 n0 mc ms hcx hev hd hd2 hmc hms hA α H locs cells slots ls sv hxt hc1 hc2 hR hL hS
  cases hS
  have hdg := gm_dec hcx h rfl
  obtain ⟨hx, hb, -, -, hret, hlk, -⟩ := id hcx
  obtain ⟨hKn, hP, hD, hSv, hRv⟩ := id hR
  refine W.widen (k := mc) (n := ms) (by omega) (by omega) (vx_ret ?_)
  exact W.vret hx hb (by rw [hret]; exact hr) (fun t ht hW => ⟨⟨_, none, α, n, K, R, M, rfl, rfl, hq, hxt, va_K.moved hW.alike hKn, by rw [ht]; exact hP, hD, hRv⟩, hSv.F ht⟩) hSv.2.2 hdg hlk
theorem gm_r_ref {k : Nat} (h : gm_at mi pc = some .areturn) (hr : (∃ C, gm_rt mi = some (.object C)) ∨ ∃ t, gm_rt mi = some (.array t)) (hq : Q (.inl (some (gm_vr k))) n K R M) : gm_Wp X LX d bc bs mi pc L [gm_vr k] n K R M Q := by
  intro p l e Rm s m args below meth c D ti adK adV A α0 n0 mc ms hcx hev hd hd2 hmc hms hA α H locs cells slots ls sv hxt hc1 hc2 hR hL hS
  obtain ⟨w, sv, rfl, ⟨rfl, hk⟩, hS⟩ := hS
  cases hS
  have hdg := gm_dec hcx h rfl
  obtain ⟨hx, hb, -, -, hret, hlk, -⟩ := id hcx
  obtain ⟨hKn, hP, hD, hSv, hRv⟩ := id hR
  refine W.widen (k := mc) (n := ms) (by omega) (by omega) (vx_ret ?_)
  have hq' : ∀ t : State, t.heap = H → s.WarmedH t.vm → gm_QC D ti adK A α0 n0 Q args s (.returned (some (gm_rf α k))) t := fun t ht hW => ⟨⟨_, some (gm_vr k), α, n, K, R, M, rfl, ⟨_, rfl, rfl, hk⟩, hq, hxt, va_K.moved hW.alike hKn, by rw [ht]; exact hP, hD, hRv⟩, hSv.F ht⟩
  have hv : gm_rf α k = .null ∨ ∃ a, gm_rf α k = .ref a := by cases k; exact Or.inl rfl; exact Or.inr ⟨_, rfl⟩
  rcases hr with ⟨C, hr⟩ | ⟨t, hr⟩
  · exact W.aret hx hb (by rw [hret]; exact hr) (Or.inl ⟨_, rfl⟩) hv hq' hSv.2.2 hdg hlk
  · exact W.aret hx hb (by rw [hret]; exact hr) (Or.inr ⟨_, rfl⟩) hv hq' hSv.2.2 hdg hlk
theorem gm_sld_spec {o ix id : Nat} (h : gm_sld o ix = some id) : id < 1000 ∧ ∃ tx, (gm_rn o, ix, tx, id) ∈ gm_sr_ := by
  have h1 := List.all_eq_true.mp gm_slk_ok _ (gm_lookup2 _ _ _ h)
  simp only [Bool.and_eq_true, decide_eq_true_eq] at h1
  obtain ⟨h1, h2⟩ := h1
  refine ⟨h2, ?_⟩
  cases hr : gm_sr_[id]? with
  | none => rw [hr] at h1; cases h1
  | some r =>
    rw [hr] at h1
    obtain ⟨r1, r2, r3, r4⟩ := r
    simp only [decide_eq_true_eq] at h1
    obtain ⟨rfl, rfl, rfl⟩ := h1
    exact ⟨r3, List.mem_of_getElem? hr⟩
theorem gm_ldcW {p : Program} {l : Launch} {e : Env} {Rm : Room} {s : State} {m : MethodId} {args : Array Value} {below : List Frame} {meth : Method} {c : Code} {T : State} {locs : List Loc} {cells slots : Nat}
    (Xs : Stand p l e Rm s m args below meth c T locs cells slots) (hexec : p.tables.exec = Jvm.exec) {own text : String} {index : Nat} {a : Addr} (hown : s.vm.findClass own = some m.cls)
    (hconst : (Jvm.Cond.stringRef own index text).before args s = true) (hev : (Term.string own index).eval args s none [] s = some (.ref a)) {g : JFrame} (hg : g.method = m) (hdg : decode c.code g.pc = .ok (.ldc_w index, 3)) :
    ∀ target, Steps p.tables e below (T.setTop { g with pc := g.pc + 3, stack := .ref a :: g.stack }) target → Steps p.tables e below (T.setTop g) target := by
  obtain ⟨k, cf, i, a', hk, hcf, hcp, -, hr, hev'⟩ := Cond.stringRef_spec hown hconst
  cases hev.symm.trans hev'
  obtain ⟨k', hk', he⟩ := Xs.warmed.alike.2.2 _ _ hk
  have hr' : k'.resolved[index]? = some (some (.string a)) := by
    rcases Xs.warmed.entry hk hk' index with h | ⟨h, -⟩
    · rw [h]; exact hr
    · rw [hr] at h; cases h
  intro target hrest
  subst hg
  jvm_step Xs.here [hexec, hdg, ldc_w.wp_string (e := e) (s := T) (f := g) Xs.here.top hk' (by rw [he]; exact hcf) hcp hr']
  exact hrest
theorem gm_p_ldcs {i : Instr} {ix id : Nat} (h : gm_at mi pc = some i) (hi : i = .ldc ix ∨ i = .ldc_w ix) (hv : gm_sld (gm_ow mi) ix = some id) : gm_Sp X LX d mi pc L st n K R M (pc + gm_len i) L (gm_vo id :: st) n K R M 0 0 := by
  intro p l e Rm s m args below meth c D ti adK adV A hcx hev hd hd2 hA α H locs cells slots ls sv Q' hc1 hc2 hR hL hS k2
  have hdg := gm_dec hcx h (by rcases hi with rfl | rfl <;> rfl)
  obtain ⟨hx, hb, -, hown, -, -, hts, -⟩ := _root_.id hcx
  obtain ⟨hid, tx, hmem⟩ := gm_sld_spec hv
  have hZ := hev.2.1 _ hmem
  have k3 := k2 α H locs ls (Value.ref (adK id) :: sv) gm_xt.rf hR hL ⟨_, _, rfl, ⟨adK id, rfl, fun _ => rfl⟩, hS⟩
  rcases hi with rfl | rfl
  · exact va_ldcS hx hb hown hZ hdg k3
  · intro T hT Xs
    obtain ⟨t, a1, b1⟩ := k3 T hT Xs
    exact ⟨t, gm_ldcW Xs hx hown hZ.1 hZ.2 (g := F0 m pc ls sv) rfl (by rw [hb]; exact hdg) t a1, b1⟩
end GE
end
section
/-- Object's constructor: class of the code, place; word -/
def gm_oil : List ((Nat × Nat) × Nat) := [((0, 3), 188), ((1, 3), 196), ((2, 3), 202), ((3, 3), 312), ((4, 3), 331), ((7, 3), 391), ((8, 3), 429), ((10, 3), 453), ((11, 3), 459), ((13, 3), 1188), ((20, 7), 1685)]
def gm_oi (o ix : Nat) : Bool := (gm_oil.lookup (o, ix)).isSome
theorem gm_oil_ok : gm_oil.all (fun q => decide (lw_tbl[q.2]? = some (.methodLink (gm_rn q.1.1) q.1.2 Lib.objectInit))) = true := by decide +kernel
set_option maxRecDepth 100000 in
theorem gm_oi1 : Jvm.Cond.instanceMethod Lib.objectInit ∈ gm_T := gm_T_in (i := 189) (by decide +kernel) rfl
set_option maxRecDepth 100000 in
theorem gm_oi2 : Jvm.Cond.code Lib.objectInit ⟨#[0xb1]⟩ 1 none ∈ gm_T := gm_T_in (i := 190) (by decide +kernel) rfl
def gm_jmax : Nat := 11
def gm_jmin : Nat := 26
set_option maxRecDepth 100000 in
theorem gm_jwmax : Jvm.Cond.code Lib.Math.max.name Lib.Math.max.code 2 (some .int) ∈ gm_T := gm_T_in (i := 358) (by decide +kernel) rfl
theorem gm_jnmax : gm_mn gm_jmax = Lib.Math.max.name := by decide +kernel
set_option maxRecDepth 100000 in
theorem gm_jwmin : Jvm.Cond.code Lib.Math.min.name Lib.Math.min.code 2 (some .int) ∈ gm_T := gm_T_in (i := 610) (by decide +kernel) rfl
theorem gm_jnmin : gm_mn gm_jmin = Lib.Math.min.name := by decide +kernel
/-- the number of a method's class among those of which objects are made -/
def gm_cio (i : Nat) : Nat := (([0, 1, 2, 3, 4, 4, 4, 4, 999, 2, 2, 999, 4, 5, 6, 7, 999, 8, 9, 0, 0, 0, 0, 0, 0, 2, 999, 5, 1, 5, 5, 5, 5, 5, 4, 4, 4, 4, 999, 4, 10, 10, 4, 5, 4, 2, 0, 0, 0, 999, 0, 0, 0, 0, 0, 3, 3, 1, 2, 0, 0, 0, 3, 0, 0, 0, 0, 0, 0, 3, 999, 0, 999, 9, 7, 8, 8, 8, 8, 9, 9, 8, 999, 999, 999, 999, 999, 999, 999, 999, 999, 999, 999, 8, 8, 8, 9, 9, 8, 9, 9, 9, 2, 7, 7, 1, 7, 7, 2, 7, 7, 7, 8, 7, 7, 7, 7, 7, 7, 1, 7, 8, 999, 0, 9, 999, 10, 999, 0, 0, 999, 0, 0, 0, 0, 999, 0, 999, 0, 0, 0, 999, 0, 0, 0, 0, 999, 0, 5, 999, 0, 999, 0, 0, 3, 999, 0, 999, 0, 1, 999, 0, 0, 0, 4, 10, 999, 0, 999, 0, 5, 999, 0, 999, 0, 5, 999, 0, 999, 0, 0, 0, 0, 0, 0, 999, 0, 0, 0, 999, 0, 999, 0, 0, 999, 0, 999, 0, 0, 0, 999, 0, 6, 6, 6, 6, 999, 0, 6, 6, 999, 0, 999, 0, 0, 0, 0, 999, 0, 0, 999, 0, 999, 0, 999, 0, 999, 0, 999, 0, 999, 0, 999, 0, 11, 11, 11, 11, 11, 11, 11, 11, 11, 11, 11, 11, 11, 11, 11, 11, 11, 11, 11, 11, 11, 11, 11, 11, 11, 11, 11, 11, 11, 11, 11, 11, 11, 11, 11, 11, 11, 11, 11, 11, 11, 11, 11, 11, 11, 11, 11, 11, 11, 11, 11, 11, 11, 11, 11, 11, 11, 11, 11, 11, 11, 11, 11, 11, 11, 11, 11, 11, 11, 11, 11, 11, 11, 11, 11, 11, 11, 11, 11, 11, 11, 11, 11, 11, 11, 11, 11, 11, 11, 11, 11, 11, 11, 11, 11, 11, 11, 11, 11, 11, 11, 11, 11, 11, 11, 11, 11, 11, 11, 11, 11, 11, 11, 11, 11, 11, 11, 11, 11, 11, 11, 11, 11, 11, 11, 11, 11, 11, 11, 11, 11, 11, 11, 11, 11, 11] : List Nat)[i]?).getD 999
theorem gm_cio_ok : (List.range 370).all (fun i => decide (gm_cio i = 999) || (decide (gm_cio i < 12) && decide (gm_cn (gm_cio i) = (gm_mn i).cls))) = true := by decide +kernel
end
section
/-! Object's constructor; max and min; a throw. -/
section GT
variable {X : Int → Int} {LX d bc bs mi pc : Nat} {L : gm_L} {st : List gm_V} {n : Nat} {K : gm_K} {R : gm_R} {M : gm_M} {Q : gm_Q}
theorem gm_p_oinit {ix k : Nat} (h : gm_at mi pc = some (.invokespecial ix)) (ho : gm_oi (gm_ow mi) ix = true) (hk : 1 ≤ k) (hst : (st.map gm_cat).sum ≤ 8) (hd' : 1 ≤ d) : gm_Sp X LX d mi pc L (gm_vr k :: st) n K R M (pc + 3) L st n K R M 0 0 := by
  intro p l e Rm s m args below meth c D ti adK adV A hcx hev hd hd2 hA α H locs cells slots ls sv Q' hc1 hc2 hR hL hS k2
  obtain ⟨w1, sv, rfl, ⟨rfl, -⟩, hS⟩ := hS
  have hdg := gm_dec hcx h rfl
  obtain ⟨hx, hb, hml, hown, -, -, hts, -⟩ := _root_.id hcx
  obtain ⟨q, hq⟩ := Option.isSome_iff_exists.mp ho
  have h1 := List.all_eq_true.mp gm_oil_ok _ (gm_lookup2 _ _ _ hq)
  simp only [decide_eq_true_eq] at h1
  rw [gm_rf_pos hk]
  refine W.objInit hx hb hown (hts _ (gm_T_in h1 rfl)) (hts _ gm_oi1) (hts _ gm_oi2) rfl (by rw [hml]; exact hL.2.choose_spec.1.1) rfl hdg (by omega) ?_ (k2 α H locs ls sv gm_xt.rf hR hL hS)
  have : (sv.map fun v => v.category).sum ≤ 8 := by rw [gm_sum_eq hS]; exact hst
  show 2 * 0 + _ + 12 ≤ _
  omega
theorem gm_p_max {ix : Nat} {x y : Int} (h : gm_at mi pc = some (.invokestatic ix)) (hc : gm_cal (gm_ow mi) ix = some (2, gm_jmax)) (hx0 : gm_w x = x) (hy0 : gm_w y = y) (hst : (st.map gm_cat).sum ≤ 8) (hd' : 1 ≤ d) : gm_Sp X LX d mi pc L (gm_vi y :: gm_vi x :: st) n K R M (pc + 3) L (gm_vi (max x y) :: st) n K R M 0 0 := by
  intro p l e Rm s m args below meth c D ti adK adV A hcx hev hd hd2 hA α H locs cells slots ls sv Q' hc1 hc2 hR hL hS k2
  obtain ⟨w0, sv, rfl, h0, hS⟩ := hS
  obtain ⟨w1, sv, rfl, h1, hS⟩ := hS
  cases h0; cases h1
  have hdg := gm_dec hcx h rfl
  obtain ⟨hx, hb, hml, hown, -, -, hts, -⟩ := _root_.id hcx
  obtain ⟨hj, i1, i2, -, -, i5, -⟩ := gm_cal_spec hc
  rw [gm_jnmax] at i1 i2 i5
  have hsum : (sv.map fun v => v.category).sum ≤ 8 := by rw [gm_sum_eq hS]; exact hst
  refine va_mmax hx hb (by rw [hml]; exact hL.2.choose_spec.1.1.symm) hown (hts _ (i2 (by omega))) (hts _ (i5 (Or.inl rfl))) (hts _ i1) (hts _ gm_jwmax) (by omega) (by omega) (by omega) (by omega) hdg ?_
  have e : (if Int32.ofInt x < Int32.ofInt y then Int32.ofInt y else Int32.ofInt x) = Int32.ofInt (max x y) := by
    have := gm_lt x y
    rw [hx0, hy0] at this
    simp only [this]
    split
    · rename_i q; rw [Int.max_eq_right (by omega)]
    · rename_i q; rw [Int.max_eq_left (by omega)]
  rw [e]
  exact k2 α H locs ls _ gm_xt.rf hR hL ⟨_, _, rfl, rfl, hS⟩
theorem gm_p_min {ix : Nat} {x y : Int} (h : gm_at mi pc = some (.invokestatic ix)) (hc : gm_cal (gm_ow mi) ix = some (2, gm_jmin)) (hx0 : gm_w x = x) (hy0 : gm_w y = y) (hst : (st.map gm_cat).sum ≤ 8) (hd' : 1 ≤ d) : gm_Sp X LX d mi pc L (gm_vi y :: gm_vi x :: st) n K R M (pc + 3) L (gm_vi (min x y) :: st) n K R M 0 0 := by
  intro p l e Rm s m args below meth c D ti adK adV A hcx hev hd hd2 hA α H locs cells slots ls sv Q' hc1 hc2 hR hL hS k2
  obtain ⟨w0, sv, rfl, h0, hS⟩ := hS
  obtain ⟨w1, sv, rfl, h1, hS⟩ := hS
  cases h0; cases h1
  have hdg := gm_dec hcx h rfl
  obtain ⟨hx, hb, hml, hown, -, -, hts, -⟩ := _root_.id hcx
  obtain ⟨hj, i1, i2, -, -, i5, -⟩ := gm_cal_spec hc
  rw [gm_jnmin] at i1 i2 i5
  have hsum : (sv.map fun v => v.category).sum ≤ 8 := by rw [gm_sum_eq hS]; exact hst
  refine va_mmin hx hb (by rw [hml]; exact hL.2.choose_spec.1.1.symm) hown (hts _ (i2 (by omega))) (hts _ (i5 (Or.inl rfl))) (hts _ i1) (hts _ gm_jwmin) (by omega) (by omega) (by omega) (by omega) hdg ?_
  have e : (if Int32.ofInt y < Int32.ofInt x then Int32.ofInt y else Int32.ofInt x) = Int32.ofInt (min x y) := by
    have := gm_lt y x
    rw [hx0, hy0] at this
    simp only [this]
    split
    · rename_i q; rw [Int.min_eq_right (by omega)]
    · rename_i q; rw [Int.min_eq_left (by omega)]
  rw [e]
  exact k2 α H locs ls _ gm_xt.rf hR hL ⟨_, _, rfl, rfl, hS⟩
theorem gm_xlk_spec {o ik x ic : Nat} (h : gm_xlk o ik = some (x, ic)) : x < 5 ∧ Jvm.Cond.classLink (gm_rn o) ik (gm_xn x) ∈ gm_T ∧ Jvm.Cond.initialized (gm_xn x) ∈ gm_T ∧ (∀ w ∈ vx_atS (gm_rn o) ic (gm_xn x) gm_xnm, (w ∈ gm_T ∨ w = .castable (gm_xn x) (gm_xn x) ∨ ∃ y ∈ gm_dcs, w = .declares y) ∧ vx_ot w = true) ∧ Bundle.fit (gm_xn x) = true ∧ ∀ y ∈ gm_xnm, Bundle.fit y = true := by
  unfold gm_xlk at h
  cases hr : gm_xl.find? (fun q => decide (q.1 = o ∧ q.2.1 = ik)) with
  | none => rw [hr] at h; cases h
  | some q =>
    rw [hr] at h
    have h1 := List.find?_some hr
    have h3 := List.all_eq_true.mp gm_xl_ok q (List.mem_of_find?_eq_some hr)
    obtain ⟨a1, a2, a3, a4, a5, a6⟩ := q
    simp only [decide_eq_true_eq] at h1
    obtain ⟨rfl, rfl⟩ := h1
    simp only [Option.map_some, Option.some.injEq, Prod.mk.injEq] at h
    obtain ⟨rfl, rfl⟩ := h
    simp only [gm_xck, Bool.and_eq_true, decide_eq_true_eq] at h3
    obtain ⟨⟨⟨⟨b1, b2⟩, b3⟩, b4⟩, b5, b6⟩ := h3
    refine ⟨b1, gm_T_in b2 rfl, gm_T_in b3 rfl, fun w hw => ?_, b5, fun y hy => List.all_eq_true.mp b6 y hy⟩
    have h4 := List.all_eq_true.mp b4 w hw
    simp only [gm_xok, Bool.and_eq_true, Bool.or_eq_true, decide_eq_true_eq] at h4
    refine ⟨?_, h4.2⟩
    rcases h4.1 with (q | q) | q
    · exact Or.inl (List.mem_filter.mpr q)
    · exact Or.inr (Or.inl q)
    · obtain ⟨y, hy, hy2⟩ := List.any_eq_true.mp q
      exact Or.inr (Or.inr ⟨y, hy, by simpa using hy2⟩)
theorem gm_throw {ik is ic x id : Nat} {lw : Bool} (hh : gm_hh mi = []) (h : gm_at mi pc = some (.new ik)) (hx : gm_xlk (gm_ow mi) ik = some (x, ic)) (h3 : gm_at mi (pc + 3) = some .dup) (h4 : gm_at mi (pc + 4) = some (if lw = true then .ldc_w is else .ldc is)) (h5 : gm_at mi (pc + (if lw = true then 7 else 6)) = some (.invokespecial ic)) (h6 : gm_at mi (pc + (if lw = true then 10 else 9)) = some .athrow) (hs : gm_sld (gm_ow mi) is = some id) (hst : (st.map gm_cat).sum ≤ 8) (hd' : 6 ≤ d) (hb1 : 1 ≤ bc) (hb2 : 6 ≤ bs) (hq : Q (.inr x) n K R M) : gm_Wp X LX d bc bs mi pc L st n K R M Q := by
  intro p l e Rm s m args below meth c D ti adK adV A α0 n0 mc ms hcx hev hd hd2 hmc hms hA α H locs cells slots ls sv hxt hc1 hc2 hR hL hS
  obtain ⟨hx9, hb, hml, hown, -, hlk, hts, -, hl, -, htab⟩ := _root_.id hcx
  obtain ⟨hKn, hP, hD, hSv, hRv⟩ := _root_.id hR
  obtain ⟨x1, x2, x3, x4, x5, x6⟩ := gm_xlk_spec hx
  obtain ⟨hid, tx, hmem⟩ := gm_sld_spec hs
  have hZ := hev.2.1 _ hmem
  have d0 := gm_dec hcx h rfl
  have d3 := gm_dec hcx h3 rfl
  have hsum : (sv.map fun v => v.category).sum ≤ 8 := by rw [gm_sum_eq hS]; exact hst
  have hat : ∀ w ∈ vx_atS (gm_rn (gm_ow mi)) ic (gm_xn x) gm_xnm, w.before args s = true := by
    intro w hw
    rcases (x4 w hw).1 with q | q | ⟨y, hy, q⟩
    · exact hts _ q
    · have h9 := hev.2.2.2.2.2.2.2.2.2.2.2.1 x x x1 x1
      rw [if_pos rfl] at h9
      rw [q]
      exact va_Nw.use rfl h9
    · rw [q]
      exact va_Nw.use rfl (hev.2.2.2.2.2.2.2.2.2.2.2.2 y hy)
  have hgood : ∀ w ∈ Jvm.Cond.classLink (gm_rn (gm_ow mi)) ik (gm_xn x) :: Jvm.Cond.initialized (gm_xn x) :: vx_atS (gm_rn (gm_ow mi)) ic (gm_xn x) gm_xnm, vx_ot w = true := by
    intro w hw
    rcases List.mem_cons.mp hw with rfl | hw
    · rfl
    · rcases List.mem_cons.mp hw with rfl | hw
      · rfl
      · exact (x4 w hw).2
  have hout : ∀ pc' : Nat, ∀ z ∈ c.exceptionTable.toList, covers z pc' = false := by
    intro pc' z hz
    rw [htab, hh] at hz
    cases hz
  have hXC : ∀ t : State, s.vm.Alike t.vm → H.size ≤ t.heap.size → (∀ q : Nat, q < H.size → t.heap[q]? = H[q]?) → gm_XC D ti A α0 n0 Q (gm_xn x) s t := by
    intro t hvm hz hk
    refine ⟨⟨x, α, n, K, R, M, rfl, x1, hq, hxt, va_K.moved hvm hKn, hP.kept (fun k y hy => hk y.1 ((hP k y hy).lt)), hD, hRv⟩, Nat.le_trans hSv.1 hz, fun q h1 h2 => ?_⟩
    rw [hk q (Nat.lt_of_lt_of_le h1 hSv.1)]
    exact hSv.2.1 q h1 h2
  have hsz : ls.size = c.maxLocals := by rw [hml]; exact hL.2.choose_spec.1.1
  cases lw with
  | true =>
    have d4 := gm_dec hcx h4 rfl
    have d7 := gm_dec hcx h5 rfl
    have d10 := gm_dec hcx h6 rfl
    exact vx_throwSW (names := gm_xnm) hx9 hb hl hown x5 x6 (hts _ x2) (hts _ x3) hZ hat hgood hev.2.2.1 hev.2.2.2.1 hSv hsz d0 d3 d4 d7 d10 (hout _) (by show 2 + 3 < _; omega) (by show _ + (13 * (2 + 1) + 43) ≤ _; omega) (by omega) (by omega) hlk hXC hSv.2.2 (by omega) (by omega)
  | false =>
    have d4 := gm_dec hcx h4 rfl
    have d6 := gm_dec hcx h5 rfl
    have d9 := gm_dec hcx h6 rfl
    exact vx_throwS (names := gm_xnm) hx9 hb hl hown x5 x6 (hts _ x2) (hts _ x3) hZ hat hgood hev.2.2.1 hev.2.2.2.1 hSv hsz d0 d3 d4 d6 d9 (hout _) (by show 2 + 3 < _; omega) (by show _ + (13 * (2 + 1) + 43) ≤ _; omega) (by omega) (by omega) hlk hXC hSv.2.2 (by omega) (by omega)
end GT
end
section
/-! THE EVALUATION of a stretch of code to a formula: gm_wx; it stops at the cuts (loop heads), and at calls it uses what is known of the callee. -/
/-- the fixed part of the cells: kind and length, references, numbers that never change -/
abbrev gm_Or : Type := (Nat → Option (Nat × Nat)) × (Nat → Int → Option Nat) × (Nat → Int → Option Int)
def gm_Fx (O : gm_Or) (n : Nat) (K : gm_K) (R : gm_R) (M : gm_M) : Prop :=
  (∀ k q, O.1 k = some q → 1 ≤ k ∧ k ≤ n ∧ K k = q) ∧ (∀ k j r, O.2.1 k j = some r → k ≤ n ∧ R k j = r) ∧ (∀ k j v, O.2.2 k j = some v → k ≤ n ∧ 4 ≤ (K k).1 ∧ M k j = v)
def gm_Wo (O : gm_Or) (X : Int → Int) (LX d bc bs mi pc : Nat) (L : gm_L) (st : List gm_V) (n : Nat) (K : gm_K) (R : gm_R) (M : gm_M) (Q : gm_Q) : Prop :=
  gm_Fx O n K R M → gm_Wp X LX d bc bs mi pc L st n K R M (fun o n K R M => gm_Fx O n K R M ∧ Q o n K R M)
/-- what is known of a method: frames, cells, slots, before, behind -/
abbrev gm_Sc : Type := Nat × Nat × Nat × (List gm_V → Nat → gm_K → gm_R → gm_M → Prop) × (List gm_V → Nat → gm_K → gm_R → gm_M → gm_Q)
/-- of a method that changes nothing: frames, before, its value -/
abbrev gm_Pu : Type := Nat × (List gm_V → Nat → gm_K → gm_R → gm_M → Prop) × (List gm_V → Nat → gm_K → gm_R → gm_M → Option gm_V)
def gm_OkE (O : gm_Or) (X : Int → Int) (LX : Nat) (E : List (Nat × gm_Sc)) : Prop := ∀ mj h mc ms pre post, E.lookup mj = some (h, mc, ms, pre, post) → ∀ d vs n K R M, h ≤ d → pre vs n K R M → gm_Wo O X LX d mc ms mj 0 (gm_ent mj vs) [] n K R M (post vs n K R M)
def gm_OkP (O : gm_Or) (X : Int → Int) (LX : Nat) (P : List (Nat × gm_Pu)) : Prop := ∀ mj h pre val, P.lookup mj = some (h, pre, val) → ∀ d vs n K R M, h ≤ d → pre vs n K R M → gm_Wo O X LX d 0 0 mj 0 (gm_ent mj vs) [] n K R M (fun o n' K' R' M' => o = .inl (val vs n K R M) ∧ n' = n ∧ K' = K ∧ R' = R ∧ M' = M)
def gm_ir (x : Int) : Prop := -2147483648 ≤ x ∧ x < 2147483648
def gm_ld (L : gm_L) (sr j : Nat) (k : gm_V → Prop) : Prop := match L[j]? with
  | some (some v) => if gm_sort v = sr then k v else False
  | _ => False
def gm_sto (L : gm_L) (sr j : Nat) : List gm_V → (gm_L → List gm_V → Prop) → Prop
  | v :: st, k => if gm_sort v = sr ∧ j + (if sr = 1 then 1 else 0) < L.length then k (gm_lst L j v) st else False
  | [], _ => False
def gm_two2 : List gm_V → (Int → Int → List gm_V → Prop) → Prop
  | .inl y :: .inl x :: st, k => k x y st
  | _, _ => False
def gm_one : List gm_V → (Int → List gm_V → Prop) → Prop
  | .inl x :: st, k => k x st
  | _, _ => False
def gm_twl : List gm_V → (Int → Int → List gm_V → Prop) → Prop
  | .inr (.inl y) :: .inr (.inl x) :: st, k => k x y st
  | _, _ => False
def gm_lin : List gm_V → (Int → Int → List gm_V → Prop) → Prop
  | .inl y :: .inr (.inl x) :: st, k => k x y st
  | _, _ => False
/-- a comparison of numbers that are ints -/
def gm_cm : ClassFile.Cond → Int → Int → Prop
  | .eq, x, y => x = y
  | .ne, x, y => ¬ x = y
  | .lt, x, y => x < y
  | .ge, x, y => y ≤ x
  | .gt, x, y => y < x
  | .le, x, y => x ≤ y
theorem gm_ir_w {x : Int} (h : gm_ir x) : gm_w x = x := gm_w_id h.1 h.2
theorem gm_cm_w {c : ClassFile.Cond} {x y : Int} (hx : gm_ir x) (hy : gm_ir y) : gm_cmp c x y = gm_cm c x y := by
  cases c <;> simp only [gm_cmp, gm_cm, gm_ir_w hx, gm_ir_w hy]
/-- the cell k is of this kind: seen in the fixed part, else owed -/
def gm_isK (O : gm_Or) (n : Nat) (K : gm_K) (k kind : Nat) (g : Prop) : Prop := match O.1 k with
  | some q => if q.1 = kind then g else False
  | none => (1 ≤ k ∧ k ≤ n ∧ (K k).1 = kind) ∧ g
theorem gm_isK_of {O : gm_Or} {n : Nat} {K : gm_K} {R : gm_R} {M : gm_M} {k kind : Nat} {g : Prop} (hF : gm_Fx O n K R M) (h : gm_isK O n K k kind g) : (1 ≤ k ∧ k ≤ n) ∧ (K k).1 = kind ∧ g := by
  unfold gm_isK at h
  cases hq : O.1 k with
  | none => rw [hq] at h; exact ⟨⟨h.1.1, h.1.2.1⟩, h.1.2.2, h.2⟩
  | some q =>
    rw [hq] at h
    obtain ⟨h1, h2, h3⟩ := hF.1 k q hq
    dsimp only at h
    split at h
    · rename_i e; exact ⟨⟨h1, h2⟩, by rw [h3]; exact e, h⟩
    · exact h.elim
/-- the length of the row k -/
def gm_len_ (O : gm_Or) (K : gm_K) (k : Nat) : Int := match O.1 k with
  | some q => q.2
  | none => (K k).2
theorem gm_len_of {O : gm_Or} {n : Nat} {K : gm_K} {R : gm_R} {M : gm_M} {k : Nat} (hF : gm_Fx O n K R M) : gm_len_ O K k = (K k).2 := by
  unfold gm_len_
  cases hq : O.1 k with
  | none => rfl
  | some q => rw [(hF.1 k q hq).2.2]
def gm_gM (O : gm_Or) (M : gm_M) (k : Nat) (j : Int) : Int := match O.2.2 k j with
  | some v => v
  | none => M k j
theorem gm_gM_of {O : gm_Or} {n : Nat} {K : gm_K} {R : gm_R} {M : gm_M} (hF : gm_Fx O n K R M) (k : Nat) (j : Int) : gm_gM O M k j = M k j := by
  unfold gm_gM
  cases hq : O.2.2 k j with
  | none => rfl
  | some q => exact (hF.2.2 k j q hq).2.2.symm
def gm_gR (O : gm_Or) (R : gm_R) (k : Nat) (j : Int) : Nat := match O.2.1 k j with
  | some v => v
  | none => R k j
theorem gm_gR_of {O : gm_Or} {n : Nat} {K : gm_K} {R : gm_R} {M : gm_M} (hF : gm_Fx O n K R M) (k : Nat) (j : Int) : gm_gR O R k j = R k j := by
  unfold gm_gR
  cases hq : O.2.1 k j with
  | none => rfl
  | some q => exact (hF.2.1 k j q hq).2.symm
/-- a number is written: not one that never changes -/
theorem gm_Fx_M {O : gm_Or} {n : Nat} {K : gm_K} {R : gm_R} {M : gm_M} {k : Nat} {j v : Int} (hF : gm_Fx O n K R M) (h : O.2.2 k j = none ∨ (K k).1 < 4) : gm_Fx O n K R (gm_uM M k j v) := by
  refine ⟨hF.1, hF.2.1, fun a b x hx => ?_⟩
  obtain ⟨h1, h2, h3⟩ := hF.2.2 a b x hx
  refine ⟨h1, h2, ?_⟩
  unfold gm_uM
  split
  · rename_i e
    obtain ⟨rfl, rfl⟩ := e
    rcases h with h | h
    · rw [h] at hx; cases hx
    · omega
  · exact h3
theorem gm_Fx_R {O : gm_Or} {n : Nat} {K : gm_K} {R : gm_R} {M : gm_M} {k : Nat} {j : Int} {v : Nat} (hF : gm_Fx O n K R M) (h : O.2.1 k j = none) : gm_Fx O n K (gm_uR R k j v) M := by
  refine ⟨hF.1, fun a b x hx => ?_, hF.2.2⟩
  obtain ⟨h1, h3⟩ := hF.2.1 a b x hx
  refine ⟨h1, ?_⟩
  unfold gm_uR
  split
  · rename_i e
    obtain ⟨rfl, rfl⟩ := e
    rw [h] at hx; cases hx
  · exact h3
theorem gm_Fx_n {O : gm_Or} {n kd len : Nat} {K : gm_K} {R : gm_R} {M : gm_M} (hF : gm_Fx O n K R M) : gm_Fx O (n + 1) (gm_nK K n kd len) (gm_nR R n) (gm_nM M n) := by
  refine ⟨fun k q h => ?_, fun k j r h => ?_, fun k j v h => ?_⟩
  · obtain ⟨h1, h2, h3⟩ := hF.1 k q h
    exact ⟨h1, by omega, by unfold gm_nK; rw [if_neg (by omega)]; exact h3⟩
  · obtain ⟨h1, h2⟩ := hF.2.1 k j r h
    exact ⟨by omega, by unfold gm_nR; rw [if_neg (by omega)]; exact h2⟩
  · obtain ⟨h1, h2, h3⟩ := hF.2.2 k j v h
    exact ⟨by omega, by unfold gm_nK; rw [if_neg (by omega)]; exact h2, by unfold gm_nM; rw [if_neg (by omega)]; exact h3⟩
end
section
/-! ONE INSTRUCTION as a formula. -/
def gm_mask : List Bool → gm_L → gm_L
  | _, [] => []
  | [], _ :: vs => none :: gm_mask [] vs
  | b :: bs, v :: vs => (if b = true then v else none) :: gm_mask bs vs
def gm_and (x y : Int) : Int := (Int32.ofInt x &&& Int32.ofInt y).toInt
def gm_or (x y : Int) : Int := (Int32.ofInt x ||| Int32.ofInt y).toInt
def gm_xor (x y : Int) : Int := (Int32.ofInt x ^^^ Int32.ofInt y).toInt
def gm_shl (x y : Int) : Int := (Int32.ofInt x <<< (Int32.ofInt y &&& 31)).toInt
def gm_shr (x y : Int) : Int := (Int32.ofInt x >>> (Int32.ofInt y &&& 31)).toInt
def gm_ushr (x y : Int) : Int := ((Int32.ofInt x).toUInt32 >>> ((Int32.ofInt y).toUInt32 &&& Int32.toUInt32 31)).toInt32.toInt
def gm_land (x y : Int) : Int := (Int64.ofInt x &&& Int64.ofInt y).toInt
def gm_lor (x y : Int) : Int := (Int64.ofInt x ||| Int64.ofInt y).toInt
def gm_lxor (x y : Int) : Int := (Int64.ofInt x ^^^ Int64.ofInt y).toInt
def gm_lshl (x y : Int) : Int := (Int64.ofInt x <<< ((Int32.ofInt y).toInt64 &&& 63)).toInt
def gm_lushr (x y : Int) : Int := ((Int64.ofInt x).toUInt64 >>> ((Int32.ofInt y).toInt64.toUInt64 &&& Int64.toUInt64 63)).toInt64.toInt
def gm_swx (x : Int) (f : Nat → Prop) (pc : Nat) : List Int → Int → Prop
  | [], _ => True
  | o :: os, v => (x = v → f (gm_tgt pc o)) ∧ gm_swx x f pc os (v + 1)
theorem gm_swx_t {x : Int} {f g : Nat → Prop} {pc : Nat} (hx : gm_w x = x) (hf : ∀ q, f q → g q) : ∀ (os : List Int) (v : Int), gm_swx x f pc os v → gm_swt x g pc os v := by
  intro os
  induction os with
  | nil => intro v _; trivial
  | cons o os ih => intro v h; exact ⟨fun e => hf _ (h.1 (by rw [← e, hx])), ih _ h.2⟩
/-- the class and the number of a field, as the code names it -/
def gm_fd1 (o ix : Nat) : Option (Nat × Nat) := (((gm_fo[o]?).getD []).find? (fun q => decide (q.1.1 = ix))).map (fun q => (q.1.2, q.2))
/-- the field of the cell k0: its class and number, in the fixed part or owed -/
def gm_fat (O : gm_Or) (mi ix k0 n : Nat) (K : gm_K) (g : Nat → Nat → Prop) : Prop := match O.1 k0 with
  | some q => match gm_fld (gm_ow mi) ix (q.1 - 4) with
    | some j => if 4 ≤ q.1 then g (q.1 - 4) j else False
    | none => False
  | none => match gm_fd1 (gm_ow mi) ix with
    | some q => (1 ≤ k0 ∧ k0 ≤ n ∧ (K k0).1 = q.1 + 4) ∧ (if gm_fld (gm_ow mi) ix q.1 = some q.2 then g q.1 q.2 else False)
    | none => False
theorem gm_fat_of {O : gm_Or} {mi ix k0 n : Nat} {K : gm_K} {R : gm_R} {M : gm_M} {g : Nat → Nat → Prop} (hF : gm_Fx O n K R M) (h : gm_fat O mi ix k0 n K g) : ∃ ci j, (1 ≤ k0 ∧ k0 ≤ n) ∧ (K k0).1 = ci + 4 ∧ gm_fld (gm_ow mi) ix ci = some j ∧ g ci j := by
  unfold gm_fat at h
  cases hq : O.1 k0 with
  | some q =>
    rw [hq] at h
    obtain ⟨h1, h2, h3⟩ := hF.1 k0 q hq
    dsimp only at h
    cases hf : gm_fld (gm_ow mi) ix (q.1 - 4) with
    | none => rw [hf] at h; exact h.elim
    | some j =>
      rw [hf] at h
      dsimp only at h
      split at h
      · rename_i h4
        exact ⟨q.1 - 4, j, ⟨h1, h2⟩, by rw [h3]; omega, hf, h⟩
      · exact h.elim
  | none =>
    rw [hq] at h
    dsimp only at h
    cases hf : gm_fd1 (gm_ow mi) ix with
    | none => rw [hf] at h; exact h.elim
    | some q =>
      rw [hf] at h
      obtain ⟨⟨h1, h2, h3⟩, h4⟩ := h
      split at h4
      · rename_i h5
        exact ⟨q.1, q.2, ⟨h1, h2⟩, h3, h5, h4⟩
      · exact h4.elim
/-- is here a throw: the class, and nothing else -/
def gm_isx (mi pc ix : Nat) : Option Nat := match gm_xlk (gm_ow mi) ix, gm_at mi (pc + 3), gm_at mi (pc + 4) with
  | some q, some .dup, some (.ldc is) => if (gm_sld (gm_ow mi) is).isSome = true ∧ gm_at mi (pc + 6) = some (.invokespecial q.2) ∧ gm_at mi (pc + 9) = some .athrow then some q.1 else none
  | some q, some .dup, some (.ldc_w is) => if (gm_sld (gm_ow mi) is).isSome = true ∧ gm_at mi (pc + 7) = some (.invokespecial q.2) ∧ gm_at mi (pc + 10) = some .athrow then some q.1 else none
  | _, _, _ => none
/-- a call: what is owed, and the way on -/
def gm_wc (P : List (Nat × gm_Pu)) (E : List (Nat × gm_Sc)) (Q : gm_Q) (d bc bs mj : Nat) (vs rest : List gm_V) (n : Nat) (K : gm_K) (R : gm_R) (M : gm_M) (k : Nat → Nat → List gm_V → Nat → gm_K → gm_R → gm_M → Prop) : Prop := match P.lookup mj with
  | some pu => if pu.1 + 1 ≤ d then pu.2.1 vs n K R M ∧ k bc bs ((pu.2.2 vs n K R M).toList ++ rest) n K R M else False
  | none => match E.lookup mj with
    | some sc => if sc.1 + 1 ≤ d then (sc.2.1 ≤ bc ∧ sc.2.2.1 ≤ bs ∧ sc.2.2.2.1 vs n K R M) ∧ ∀ o n' K' R' M', sc.2.2.2.2 vs n K R M o n' K' R' M' → match o with
        | .inl u => k (bc - sc.2.1) (bs - sc.2.2.1) (u.toList ++ rest) n' K' R' M'
        | .inr x => Q (.inr x) n' K' R' M' else False
    | none => False
def gm_alls (vs : List gm_V) : Bool := vs.all fun v => decide (¬ gm_sort v = 1)
/-- one instruction; k is the way on: cells, slots, place, locals, stack, cells of the heap -/
def gm_wi (O : gm_Or) (X : Int → Int) (LX : Nat) (P : List (Nat × gm_Pu)) (E : List (Nat × gm_Sc)) (mi : Nat) (Q : gm_Q) (d bc bs pc : Nat) (L : gm_L) (st : List gm_V) (n : Nat) (K : gm_K) (R : gm_R) (M : gm_M) (k : Nat → Nat → Nat → gm_L → List gm_V → Nat → gm_K → gm_R → gm_M → Prop) : Instr → Prop
  | .iconst z => k bc bs (pc + 1) L (gm_vi z :: st) n K R M
  | .bipush z => k bc bs (pc + 2) L (gm_vi (gm_wb z) :: st) n K R M
  | .sipush z => k bc bs (pc + 3) L (gm_vi (gm_ws z) :: st) n K R M
  | .lconst z => k bc bs (pc + 1) L (gm_vl (z : Nat) :: st) n K R M
  | .aconst_null => k bc bs (pc + 1) L (gm_vr 0 :: st) n K R M
  | .iload j => gm_ld L 0 j fun v => k bc bs (pc + 2) L (v :: st) n K R M
  | .iload_n j => gm_ld L 0 j fun v => k bc bs (pc + 1) L (v :: st) n K R M
  | .lload j => gm_ld L 1 j fun v => k bc bs (pc + 2) L (v :: st) n K R M
  | .lload_n j => gm_ld L 1 j fun v => k bc bs (pc + 1) L (v :: st) n K R M
  | .aload j => gm_ld L 2 j fun v => k bc bs (pc + 2) L (v :: st) n K R M
  | .aload_n j => gm_ld L 2 j fun v => k bc bs (pc + 1) L (v :: st) n K R M
  | .istore j => gm_sto L 0 j st fun L' st' => k bc bs (pc + 2) L' st' n K R M
  | .istore_n j => gm_sto L 0 j st fun L' st' => k bc bs (pc + 1) L' st' n K R M
  | .lstore j => gm_sto L 1 j st fun L' st' => k bc bs (pc + 2) L' st' n K R M
  | .lstore_n j => gm_sto L 1 j st fun L' st' => k bc bs (pc + 1) L' st' n K R M
  | .astore j => gm_sto L 2 j st fun L' st' => k bc bs (pc + 2) L' st' n K R M
  | .astore_n j => gm_sto L 2 j st fun L' st' => k bc bs (pc + 1) L' st' n K R M
  | .iadd => gm_two2 st fun x y st => k bc bs (pc + 1) L (gm_vi (x + y) :: st) n K R M
  | .isub => gm_two2 st fun x y st => k bc bs (pc + 1) L (gm_vi (x - y) :: st) n K R M
  | .imul => gm_two2 st fun x y st => k bc bs (pc + 1) L (gm_vi (x * y) :: st) n K R M
  | .iand => gm_two2 st fun x y st => k bc bs (pc + 1) L (gm_vi (gm_and x y) :: st) n K R M
  | .ior => gm_two2 st fun x y st => k bc bs (pc + 1) L (gm_vi (gm_or x y) :: st) n K R M
  | .ixor => gm_two2 st fun x y st => k bc bs (pc + 1) L (gm_vi (gm_xor x y) :: st) n K R M
  | .ishl => gm_two2 st fun x y st => k bc bs (pc + 1) L (gm_vi (gm_shl x y) :: st) n K R M
  | .ishr => gm_two2 st fun x y st => k bc bs (pc + 1) L (gm_vi (gm_shr x y) :: st) n K R M
  | .iushr => gm_two2 st fun x y st => k bc bs (pc + 1) L (gm_vi (gm_ushr x y) :: st) n K R M
  | .idiv => gm_two2 st fun x y st => (gm_ir x ∧ gm_ir y ∧ ¬ y = 0) ∧ k bc bs (pc + 1) L (gm_vi (Int.tdiv x y) :: st) n K R M
  | .irem => gm_two2 st fun x y st => (gm_ir x ∧ gm_ir y ∧ ¬ y = 0) ∧ k bc bs (pc + 1) L (gm_vi (Int.tmod x y) :: st) n K R M
  | .ineg => gm_one st fun x st => k bc bs (pc + 1) L (gm_vi (- x) :: st) n K R M
  | .i2b => gm_one st fun x st => k bc bs (pc + 1) L (gm_vi (gm_wb x) :: st) n K R M
  | .i2l => gm_one st fun x st => gm_ir x ∧ k bc bs (pc + 1) L (gm_vl x :: st) n K R M
  | .l2i => match st with
    | .inr (.inl x) :: st => k bc bs (pc + 1) L (gm_vi x :: st) n K R M
    | _ => False
  | .land => gm_twl st fun x y st => k bc bs (pc + 1) L (gm_vl (gm_land x y) :: st) n K R M
  | .lor => gm_twl st fun x y st => k bc bs (pc + 1) L (gm_vl (gm_lor x y) :: st) n K R M
  | .lxor => gm_twl st fun x y st => k bc bs (pc + 1) L (gm_vl (gm_lxor x y) :: st) n K R M
  | .lshl => gm_lin st fun x y st => k bc bs (pc + 1) L (gm_vl (gm_lshl x y) :: st) n K R M
  | .lushr => gm_lin st fun x y st => k bc bs (pc + 1) L (gm_vl (gm_lushr x y) :: st) n K R M
  | .lcmp => gm_twl st fun x y st => k bc bs (pc + 1) L (gm_vi (gm_lcm x y) :: st) n K R M
  | .dup => match st with
    | v :: st => if gm_sort v = 1 then False else k bc bs (pc + 1) L (v :: v :: st) n K R M
    | [] => False
  | .pop => match st with
    | v :: st => if gm_sort v = 1 then False else k bc bs (pc + 1) L st n K R M
    | [] => False
  | .dup2 => match st with
    | v :: u :: st => if gm_sort v = 1 ∨ gm_sort u = 1 then False else k bc bs (pc + 1) L (v :: u :: v :: u :: st) n K R M
    | _ => False
  | .iinc j z => match L[j]? with
    | some (some (.inl x)) => k bc bs (pc + 3) (gm_lst L j (gm_vi (x + z))) st n K R M
    | _ => False
  | .goto off => if 0 ≤ (pc : Int) + off then k bc bs (gm_tgt pc off) L st n K R M else False
  | .ifCond c off => gm_one st fun x st => if 0 ≤ (pc : Int) + off then gm_ir x ∧ (gm_cm c x 0 → k bc bs (gm_tgt pc off) L st n K R M) ∧ (¬ gm_cm c x 0 → k bc bs (pc + 3) L st n K R M) else False
  | .if_icmp c off => gm_two2 st fun x y st => if 0 ≤ (pc : Int) + off then (gm_ir x ∧ gm_ir y) ∧ (gm_cm c x y → k bc bs (gm_tgt pc off) L st n K R M) ∧ (¬ gm_cm c x y → k bc bs (pc + 3) L st n K R M) else False
  | .ifnull off => match st with
    | .inr (.inr (.inl k0)) :: st => if 0 ≤ (pc : Int) + off then (k0 = 0 → k bc bs (gm_tgt pc off) L st n K R M) ∧ (¬ k0 = 0 → k bc bs (pc + 3) L st n K R M) else False
    | _ => False
  | .ifnonnull off => match st with
    | .inr (.inr (.inl k0)) :: st => if 0 ≤ (pc : Int) + off then (¬ k0 = 0 → k bc bs (gm_tgt pc off) L st n K R M) ∧ (k0 = 0 → k bc bs (pc + 3) L st n K R M) else False
    | _ => False
  | .tableswitch df lo hi offs => gm_one st fun x st => if ((offs.size : Nat) : Int) = hi - lo + 1 ∧ 0 ≤ (pc : Int) + df ∧ (offs.toList.all fun o => decide (0 ≤ (pc : Int) + o)) = true then gm_ir x ∧ (x < lo ∨ hi < x → k bc bs (gm_tgt pc df) L st n K R M) ∧ gm_swx x (fun q => k bc bs q L st n K R M) pc offs.toList lo else False
  | .getfield ix => match st with
    | .inr (.inr (.inl k0)) :: st => gm_fat O mi ix k0 n K fun ci j => k bc bs (pc + 3) L ((if gm_isr ci j = true then gm_vr (gm_gR O R k0 j) else gm_vi (gm_gM O M k0 j)) :: st) n K R M
    | _ => False
  | .putfield ix => match st with
    | .inl x :: .inr (.inr (.inl k0)) :: st => gm_fat O mi ix k0 n K fun ci j => if gm_may mi ci j = true ∧ (O.2.2 k0 j).isNone = true then (if gm_fk ci j = 0 then k bc bs (pc + 3) L st n K R (gm_uM M k0 j x) else if gm_fk ci j = 1 then (x = 0 ∨ x = 1) ∧ k bc bs (pc + 3) L st n K R (gm_uM M k0 j x) else False) else False
    | .inr (.inr (.inl r)) :: .inr (.inr (.inl k0)) :: st => gm_fat O mi ix k0 n K fun ci j => if gm_may mi ci j = true ∧ (O.2.1 k0 j).isNone = true ∧ gm_fk ci j = 2 then k bc bs (pc + 3) L st n K (gm_uR R k0 j r) M else False
    | _ => False
  | .iaload => match st with
    | .inl e :: .inr (.inr (.inl k0)) :: st => gm_isK O n K k0 0 ((0 ≤ e ∧ e < gm_len_ O K k0 ∧ gm_ir e) ∧ k bc bs (pc + 1) L (gm_vi (M k0 e) :: st) n K R M)
    | .inl e :: .inr (.inr (.inr c)) :: st => if c = 2000 then (0 ≤ e ∧ e < LX ∧ gm_ir e) ∧ k bc bs (pc + 1) L (gm_vi (X e) :: st) n K R M else False
    | _ => False
  | .baload => match st with
    | .inl e :: .inr (.inr (.inl k0)) :: st => gm_isK O n K k0 1 ((0 ≤ e ∧ e < gm_len_ O K k0 ∧ gm_ir e) ∧ k bc bs (pc + 1) L (gm_vi (M k0 e) :: st) n K R M)
    | _ => False
  | .laload => match st with
    | .inl e :: .inr (.inr (.inl k0)) :: st => gm_isK O n K k0 2 ((0 ≤ e ∧ e < gm_len_ O K k0 ∧ gm_ir e) ∧ k bc bs (pc + 1) L (gm_vl (M k0 e) :: st) n K R M)
    | _ => False
  | .aaload => match st with
    | .inl e :: .inr (.inr (.inl k0)) :: st => gm_isK O n K k0 3 ((0 ≤ e ∧ e < gm_len_ O K k0 ∧ gm_ir e) ∧ k bc bs (pc + 1) L (gm_vr (gm_gR O R k0 e) :: st) n K R M)
    | _ => False
  | .iastore => match st with
    | .inl x :: .inl e :: .inr (.inr (.inl k0)) :: st => gm_isK O n K k0 0 ((0 ≤ e ∧ e < gm_len_ O K k0 ∧ gm_ir e) ∧ k bc bs (pc + 1) L st n K R (gm_uM M k0 e x))
    | _ => False
  | .bastore => match st with
    | .inl x :: .inl e :: .inr (.inr (.inl k0)) :: st => gm_isK O n K k0 1 ((0 ≤ e ∧ e < gm_len_ O K k0 ∧ gm_ir e) ∧ k bc bs (pc + 1) L st n K R (gm_uM M k0 e (gm_wb x)))
    | _ => False
  | .lastore => match st with
    | .inr (.inl x) :: .inl e :: .inr (.inr (.inl k0)) :: st => gm_isK O n K k0 2 ((0 ≤ e ∧ e < gm_len_ O K k0 ∧ gm_ir e) ∧ k bc bs (pc + 1) L st n K R (gm_uM M k0 e x))
    | _ => False
  | .arraylength => match st with
    | .inr (.inr (.inl k0)) :: st => match O.1 k0 with
      | some q => if q.1 ≤ 3 then k bc bs (pc + 1) L (gm_vi (q.2 : Int) :: st) n K R M else False
      | none => (1 ≤ k0 ∧ k0 ≤ n ∧ (K k0).1 ≤ 3) ∧ k bc bs (pc + 1) L (gm_vi ((K k0).2 : Int) :: st) n K R M
    | .inr (.inr (.inr c)) :: st => if c = 2000 then k bc bs (pc + 1) L (gm_vi LX :: st) n K R M else False
    | _ => False
  | .new ix => match gm_new (gm_ow mi) ix with
    | some ci => (1 ≤ bc ∧ gm_nf ci ≤ bs) ∧ k (bc - 1) (bs - gm_nf ci) (pc + 3) L (gm_vr (n + 1) :: st) (n + 1) (gm_nK K n (ci + 4) 0) (gm_nR R n) (gm_nM M n)
    | none => match gm_isx mi pc ix with
      | some x => if 6 ≤ d ∧ (st.map gm_cat).sum ≤ 8 then (1 ≤ bc ∧ 6 ≤ bs) ∧ Q (.inr x) n K R M else False
      | none => False
  | .newarray at0 => gm_one st fun e st => match (match at0 with | .int => some 0 | .byte => some 1 | .long => some 2 | _ => none : Option Nat) with
    | some kd => (0 ≤ e ∧ e < 60000000 ∧ 1 ≤ bc ∧ e.toNat ≤ bs) ∧ k (bc - 1) (bs - e.toNat) (pc + 2) L (gm_vr (n + 1) :: st) (n + 1) (gm_nK K n kd e.toNat) (gm_nR R n) (gm_nM M n)
    | none => False
  | .anewarray ix => gm_one st fun e st => if gm_new (gm_ow mi) ix = some 1 then (0 ≤ e ∧ e < 60000000 ∧ 1 ≤ bc ∧ e.toNat ≤ bs) ∧ k (bc - 1) (bs - e.toNat) (pc + 3) L (gm_vr (n + 1) :: st) (n + 1) (gm_nK K n 3 e.toNat) (gm_nR R n) (gm_nM M n) else False
  | .aastore => match st with
    | .inr (.inr (.inl r)) :: .inl e :: .inr (.inr (.inl k0)) :: st => gm_isK O n K k0 3 (gm_isK O n K r 5 ((O.2.1 k0 e = none ∧ 0 ≤ e ∧ e < gm_len_ O K k0 ∧ gm_ir e) ∧ k bc bs (pc + 1) L st n K (gm_uR R k0 e r) M))
    | _ => False
  | .ldc ix => match gm_ild (gm_ow mi) ix with
    | some q => if q.2 = 0 then k bc bs (pc + 2) L (gm_vi q.1 :: st) n K R M else False
    | none => match gm_sld (gm_ow mi) ix with
      | some id => k bc bs (pc + 2) L (gm_vo id :: st) n K R M
      | none => False
  | .ldc_w ix => match gm_ild (gm_ow mi) ix with
    | some q => if q.2 = 0 then k bc bs (pc + 3) L (gm_vi q.1 :: st) n K R M else False
    | none => match gm_sld (gm_ow mi) ix with
      | some id => k bc bs (pc + 3) L (gm_vo id :: st) n K R M
      | none => False
  | .ldc2_w ix => match gm_ild (gm_ow mi) ix with
    | some q => if q.2 = 1 then k bc bs (pc + 3) L (gm_vl q.1 :: st) n K R M else False
    | none => False
  | .invokestatic ix => match gm_cal (gm_ow mi) ix with
    | some q => if q.1 = 2 ∧ 1 ≤ d then
        (if q.2 = gm_jmax then gm_two2 st fun x y st => if (st.map gm_cat).sum ≤ 8 then (gm_ir x ∧ gm_ir y) ∧ k bc bs (pc + 3) L (gm_vi (max x y) :: st) n K R M else False
         else if q.2 = gm_jmin then gm_two2 st fun x y st => if (st.map gm_cat).sum ≤ 8 then (gm_ir x ∧ gm_ir y) ∧ k bc bs (pc + 3) L (gm_vi (min x y) :: st) n K R M else False
         else if gm_ow q.2 ≠ gm_mxi ∧ (st.take (gm_na q.2)).length = gm_na q.2 ∧ gm_alls (st.take (gm_na q.2)) = true ∧ gm_na q.2 ≤ gm_ml q.2 ∧ ((st.drop (gm_na q.2)).map gm_cat).sum ≤ 8 then gm_wc P E Q d bc bs q.2 (st.take (gm_na q.2)).reverse (st.drop (gm_na q.2)) n K R M (fun bc bs st n K R M => k bc bs (pc + 3) L st n K R M) else False)
      else False
    | none => False
  | .invokevirtual ix => match gm_cal (gm_ow mi) ix with
    | some q => if q.1 = 0 ∧ gm_ow q.2 ≠ gm_mxi ∧ gm_cio q.2 < 12 ∧ (st.take (gm_na q.2)).length = gm_na q.2 ∧ gm_alls (st.take (gm_na q.2)) = true ∧ gm_na q.2 + 1 ≤ gm_ml q.2 then (match st.drop (gm_na q.2) with
        | .inr (.inr (.inl k0)) :: st' => if (st'.map gm_cat).sum ≤ 8 then gm_isK O n K k0 (gm_cio q.2 + 4) (gm_wc P E Q d bc bs q.2 (gm_vr k0 :: (st.take (gm_na q.2)).reverse) st' n K R M (fun bc bs st n K R M => k bc bs (pc + 3) L st n K R M)) else False
        | _ => False) else False
    | none => False
  | .invokespecial ix => if gm_oi (gm_ow mi) ix = true then (match st with
      | .inr (.inr (.inl k0)) :: st' => if (st'.map gm_cat).sum ≤ 8 ∧ 1 ≤ d then 1 ≤ k0 ∧ k bc bs (pc + 3) L st' n K R M else False
      | _ => False) else match gm_cal (gm_ow mi) ix with
    | some q => if (q.1 = 1 ∨ q.1 = 3) ∧ gm_ow q.2 ≠ gm_mxi ∧ (st.take (gm_na q.2)).length = gm_na q.2 ∧ gm_alls (st.take (gm_na q.2)) = true ∧ gm_na q.2 + 1 ≤ gm_ml q.2 then (match st.drop (gm_na q.2) with
        | .inr (.inr (.inl k0)) :: st' => if (st'.map gm_cat).sum ≤ 8 then (1 ≤ k0 ∧ k0 ≤ n) ∧ gm_wc P E Q d bc bs q.2 (gm_vr k0 :: (st.take (gm_na q.2)).reverse) st' n K R M (fun bc bs st n K R M => k bc bs (pc + 3) L st n K R M) else False
        | _ => False) else False
    | none => False
  | .ireturn => match st with
    | .inl x :: [] => match gm_rt mi with
      | some .int => Q (.inl (some (gm_vi x))) n K R M
      | some .boolean => (x = 0 ∨ x = 1) ∧ Q (.inl (some (gm_vi x))) n K R M
      | _ => False
    | _ => False
  | .return_ => match st, gm_rt mi with
    | [], none => Q (.inl none) n K R M
    | _, _ => False
  | .areturn => match st, gm_rt mi with
    | .inr (.inr (.inl k0)) :: [], some (.object _) => Q (.inl (some (gm_vr k0))) n K R M
    | .inr (.inr (.inl k0)) :: [], some (.array _) => Q (.inl (some (gm_vr k0))) n K R M
    | _, _ => False
  | _ => False
/-- a stretch of code, from pc on -/
def gm_wx (O : gm_Or) (X : Int → Int) (LX : Nat) (P : List (Nat × gm_Pu)) (E : List (Nat × gm_Sc)) (mi : Nat) (cuts : List (Nat × List Bool)) (Q : gm_Q) (d : Nat) : Nat → Bool → Nat → Nat → Nat → gm_L → List gm_V → Nat → gm_K → gm_R → gm_M → Prop
  | 0, _, _, _, _, _, _, _, _, _, _ => False
  | f + 1, fst, bc, bs, pc, L, st, n, K, R, M => match (if fst = true then none else cuts.lookup pc) with
    | some mask => match st with
      | [] => gm_Wo O X LX d bc bs mi pc (gm_mask mask L) [] n K R M Q
      | _ => False
    | none => match gm_at mi pc with
      | some i => gm_wi O X LX P E mi Q d bc bs pc L st n K R M (fun bc bs pc L st n K R M => gm_wx O X LX P E mi cuts Q d f false bc bs pc L st n K R M) i
      | none => False
end
section
/-! SOUNDNESS of the evaluation. -/
section GS
variable {O : gm_Or} {X : Int → Int} {LX d bc bs mi pc : Nat} {L : gm_L} {st : List gm_V} {n : Nat} {K : gm_K} {R : gm_R} {M : gm_M} {Q Q' : gm_Q} {P : List (Nat × gm_Pu)} {E : List (Nat × gm_Sc)}
theorem gm_Wp_mono (hQ : ∀ o n K R M, Q o n K R M → Q' o n K R M) (h : gm_Wp X LX d bc bs mi pc L st n K R M Q) : gm_Wp X LX d bc bs mi pc L st n K R M Q' := by
  intro p l e Rm s m args below meth c D ti adK adV A α0 n0 mc ms hcx hev hd hd2 hmc hms hA α H locs cells slots ls sv hxt hc1 hc2 hR hL hS T hT Xs
  obtain ⟨t, a1, o, b1, b2, b3⟩ := h p l e Rm s m args below meth c D ti adK adV A α0 n0 mc ms hcx hev hd hd2 hmc hms hA α H locs cells slots ls sv hxt hc1 hc2 hR hL hS T hT Xs
  refine ⟨t, a1, o, b1, b2, ?_⟩
  rcases b3 with ⟨⟨⟨v, u, α', n', K', R', M', e1, e2, e3, e4⟩, e5⟩, e6⟩ | ⟨q, rfl, E1, ce, L1, ⟨⟨x, α', n', K', R', M', e1, e2, e3, e4⟩, e5⟩, e6⟩
  · exact Or.inl ⟨⟨⟨v, u, α', n', K', R', M', e1, e2, hQ _ _ _ _ _ e3, e4⟩, e5⟩, e6⟩
  · exact Or.inr ⟨q, rfl, E1, ce, L1, ⟨⟨x, α', n', K', R', M', e1, e2, hQ _ _ _ _ _ e3, e4⟩, e5⟩, e6⟩
theorem gm_Wp_wk {d' bc' bs' : Nat} (hd : d' ≤ d) (h1 : bc' ≤ bc) (h2 : bs' ≤ bs) (h : gm_Wp X LX d' bc' bs' mi pc L st n K R M Q) : gm_Wp X LX d bc bs mi pc L st n K R M Q := by
  intro p l e Rm s m args below meth c D ti adK adV A α0 n0 mc ms hcx hev hd1 hd2 hmc hms hA α H locs cells slots ls sv hxt hc1 hc2 hR hL hS
  exact h p l e Rm s m args below meth c D ti adK adV A α0 n0 mc ms hcx hev (Nat.le_trans hd hd1) (Nat.le_trans (Nat.mul_le_mul_right 300 hd) hd2) hmc hms hA α H locs cells slots ls sv hxt (Nat.le_trans (Nat.add_le_add_left h1 _) hc1) (Nat.le_trans (Nat.add_le_add_left h2 _) hc2) hR hL hS
theorem gm_mask_len : ∀ (b : List Bool) (L : gm_L), (gm_mask b L).length = L.length
  | _, [] => by cases ‹List Bool› <;> rfl
  | [], v :: L => by show (gm_mask [] L).length + 1 = _; rw [gm_mask_len [] L]; rfl
  | c :: b, v :: L => by show (gm_mask b L).length + 1 = _; rw [gm_mask_len b L]; rfl
theorem gm_mask_at : ∀ (b : List Bool) (L : gm_L) (i : Nat) (v : gm_V), (gm_mask b L)[i]? = some (some v) → L[i]? = some (some v)
  | b, [], i, v, h => by cases b <;> simp [gm_mask] at h
  | [], u :: L, 0, v, h => by simp [gm_mask] at h
  | [], u :: L, i + 1, v, h => by
    rw [List.getElem?_cons_succ]
    exact gm_mask_at [] L i v (by simpa [gm_mask] using h)
  | c :: b, u :: L, 0, v, h => by
    cases c <;> simp [gm_mask] at h ⊢
    exact h
  | c :: b, u :: L, i + 1, v, h => by
    rw [List.getElem?_cons_succ]
    exact gm_mask_at b L i v (by simpa [gm_mask] using h)
theorem gm_Wp_mask {b : List Bool} (h : gm_Wp X LX d bc bs mi pc (gm_mask b L) st n K R M Q) : gm_Wp X LX d bc bs mi pc L st n K R M Q := by
  intro p l e Rm s m args below meth c D ti adK adV A α0 n0 mc ms hcx hev hd1 hd2 hmc hms hA α H locs cells slots ls sv hxt hc1 hc2 hR hL hS
  obtain ⟨h1, l1, h2, h3⟩ := hL
  exact h p l e Rm s m args below meth c D ti adK adV A α0 n0 mc ms hcx hev hd1 hd2 hmc hms hA α H locs cells slots ls sv hxt hc1 hc2 hR ⟨by rw [gm_mask_len]; exact h1, l1, h2, fun i v hi => h3 i v (gm_mask_at _ _ _ _ hi)⟩ hS
/-- behind it: the fixed part stands -/
abbrev gm_Q2 (O : gm_Or) (Q : gm_Q) : gm_Q := fun o n K R M => gm_Fx O n K R M ∧ Q o n K R M
theorem gm_ld_of {sr j : Nat} {k : gm_V → Prop} (h : gm_ld L sr j k) : ∃ v, L[j]? = some (some v) ∧ gm_sort v = sr ∧ k v := by
  unfold gm_ld at h
  split at h
  · rename_i v e
    split at h
    · rename_i e2; exact ⟨v, e, e2, h⟩
    · exact h.elim
  · exact h.elim
theorem gm_sto_of {sr j : Nat} {k : gm_L → List gm_V → Prop} (h : gm_sto L sr j st k) : ∃ v st', st = v :: st' ∧ gm_sort v = sr ∧ j + (if sr = 1 then 1 else 0) < L.length ∧ k (gm_lst L j v) st' := by
  cases st with
  | nil => exact h.elim
  | cons v st =>
    unfold gm_sto at h
    dsimp only at h
    by_cases e : gm_sort v = sr ∧ j + (if sr = 1 then 1 else 0) < L.length
    · rw [if_pos e] at h; exact ⟨v, st, rfl, e.1, e.2, h⟩
    · rw [if_neg e] at h; exact h.elim
theorem gm_two2_of {k : Int → Int → List gm_V → Prop} (h : gm_two2 st k) : ∃ x y st', st = gm_vi y :: gm_vi x :: st' ∧ k x y st' := by
  unfold gm_two2 at h
  split at h
  · exact ⟨_, _, _, rfl, h⟩
  · exact h.elim
theorem gm_twl_of {k : Int → Int → List gm_V → Prop} (h : gm_twl st k) : ∃ x y st', st = gm_vl y :: gm_vl x :: st' ∧ k x y st' := by
  unfold gm_twl at h
  split at h
  · exact ⟨_, _, _, rfl, h⟩
  · exact h.elim
theorem gm_lin_of {k : Int → Int → List gm_V → Prop} (h : gm_lin st k) : ∃ x y st', st = gm_vi y :: gm_vl x :: st' ∧ k x y st' := by
  unfold gm_lin at h
  split at h
  · exact ⟨_, _, _, rfl, h⟩
  · exact h.elim
theorem gm_one_of {k : Int → List gm_V → Prop} (h : gm_one st k) : ∃ x st', st = gm_vi x :: st' ∧ k x st' := by
  unfold gm_one at h
  split at h
  · exact ⟨_, _, rfl, h⟩
  · exact h.elim
theorem gm_alls_of {vs : List gm_V} (h : gm_alls vs = true) : ∀ v ∈ vs.reverse, ¬ gm_sort v = 1 := fun v hv => of_decide_eq_true (List.all_eq_true.mp h v (List.mem_reverse.mp hv))
theorem gm_cio_spec {i : Nat} (hi : i < 370) (h : gm_cio i < 12) : gm_cn (gm_cio i) = (gm_mn i).cls := by
  have := List.all_eq_true.mp gm_cio_ok i (List.mem_range.mpr hi)
  simp only [Bool.or_eq_true, Bool.and_eq_true, decide_eq_true_eq] at this
  rcases this with h1 | h1
  · omega
  · exact h1.2
/-- a call -/
theorem gm_wc_s {mj pc' : Nat} {vs rest : List gm_V} {k : Nat → Nat → List gm_V → Nat → gm_K → gm_R → gm_M → Prop} (hE : gm_OkE O X LX E) (hP : gm_OkP O X LX P) (hF : gm_Fx O n K R M)
    (hcall : ∀ d' bc' bs', d' + 1 ≤ d → bc' ≤ bc → bs' ≤ bs → gm_Wp X LX d' bc' bs' mj 0 (gm_ent mj vs) [] n K R M (gm_cont X LX d (bc - bc') (bs - bs') mi pc' L rest (gm_Q2 O Q)) → gm_Wp X LX d bc bs mi pc L st n K R M (gm_Q2 O Q))
    (hk : ∀ bc bs st n K R M, gm_Fx O n K R M → k bc bs st n K R M → gm_Wp X LX d bc bs mi pc' L st n K R M (gm_Q2 O Q)) (h : gm_wc P E Q d bc bs mj vs rest n K R M k) : gm_Wp X LX d bc bs mi pc L st n K R M (gm_Q2 O Q) := by
  unfold gm_wc at h
  cases hp : P.lookup mj with
  | some pu =>
    rw [hp] at h
    obtain ⟨f, pre, val⟩ := pu
    dsimp only at h
    split at h
    · rename_i hd
      obtain ⟨h1, h2⟩ := h
      refine hcall f 0 0 hd (Nat.zero_le _) (Nat.zero_le _) ?_
      refine gm_Wp_mono (fun o n' K' R' M' hq => ?_) (hP mj f pre val hp f vs n K R M (Nat.le_refl _) h1 hF)
      obtain ⟨hf, rfl, rfl, rfl, rfl, rfl⟩ := hq
      exact hk _ _ _ _ _ _ _ hf h2
    · exact h.elim
  | none =>
    rw [hp] at h
    dsimp only at h
    cases he : E.lookup mj with
    | none => rw [he] at h; exact h.elim
    | some sc =>
      rw [he] at h
      obtain ⟨f, mc, ms, pre, post⟩ := sc
      dsimp only at h
      split at h
      · rename_i hd
        obtain ⟨⟨h1, h2, h3⟩, h4⟩ := h
        refine hcall f mc ms hd h1 h2 ?_
        refine gm_Wp_mono (fun o n' K' R' M' hq => ?_) (hE mj f mc ms pre post he f vs n K R M (Nat.le_refl _) h3 hF)
        obtain ⟨hf, hq⟩ := hq
        have h5 := h4 o n' K' R' M' hq
        cases o with
        | inl u => exact hk _ _ _ _ _ _ _ hf h5
        | inr x => exact ⟨hf, h5⟩
      · exact h.elim
end GS
end
section
/-! EACH INSTRUCTION's formula is enough. -/
section GI
variable {O : gm_Or} {X : Int → Int} {LX d bc bs mi pc : Nat} {L : gm_L} {st : List gm_V} {n : Nat} {K : gm_K} {R : gm_R} {M : gm_M} {Q Q' : gm_Q} {P : List (Nat × gm_Pu)} {E : List (Nat × gm_Sc)}
theorem gm_sz {pc' : Nat} {L' : gm_L} {st' : List gm_V} {n' : Nat} {K' : gm_K} {R' : gm_R} {M' : gm_M} (h : gm_Sp X LX d mi pc L st n K R M pc' L' st' n' K' R' M' 0 0) (k : gm_Wp X LX d bc bs mi pc' L' st' n' K' R' M' Q) : gm_Wp X LX d bc bs mi pc L st n K R M Q := gm_sp h (Nat.zero_le _) (Nat.zero_le _) k
abbrev gm_On (O : gm_Or) (X : Int → Int) (LX d mi : Nat) (Q : gm_Q) (k : Nat → Nat → Nat → gm_L → List gm_V → Nat → gm_K → gm_R → gm_M → Prop) : Prop := ∀ bc bs pc L st n K R M, gm_Fx O n K R M → k bc bs pc L st n K R M → gm_Wp X LX d bc bs mi pc L st n K R M (gm_Q2 O Q)
variable {k : Nat → Nat → Nat → gm_L → List gm_V → Nat → gm_K → gm_R → gm_M → Prop}
theorem gm_ix {O : gm_Or} {n : Nat} {K : gm_K} {R : gm_R} {M : gm_M} {k0 : Nat} {e : Int} (hF : gm_Fx O n K R M) (h : 0 ≤ e ∧ e < gm_len_ O K k0 ∧ gm_ir e) : gm_w e = e ∧ (0 ≤ gm_w e ∧ gm_w e < (K k0).2) := by
  rw [gm_len_of hF] at h
  have h1 := gm_ir_w h.2.2
  exact ⟨h1, by rw [h1]; exact ⟨h.1, h.2.1⟩⟩
/-- numbers and locals -/
theorem gm_wi_a {i : Instr} (hi : (gm_const i).isSome = true ∨ (gm_load i).isSome = true ∨ (gm_stor i).isSome = true ∨ (gm_bin i).isSome = true ∨ (gm_un i).isSome = true ∨ (gm_lbin i).isSome = true ∨ (gm_lsh i).isSome = true) (hat : gm_at mi pc = some i) (hF : gm_Fx O n K R M) (hk : gm_On O X LX d mi Q k) (h : gm_wi O X LX P E mi Q d bc bs pc L st n K R M k i) : gm_Wp X LX d bc bs mi pc L st n K R M (gm_Q2 O Q) := by
  cases i
  case iconst z => exact gm_sz (gm_p_const hat rfl) (hk _ _ _ _ _ _ _ _ _ hF h)
  case bipush z => exact gm_sz (gm_p_const hat rfl) (hk _ _ _ _ _ _ _ _ _ hF h)
  case sipush z => exact gm_sz (gm_p_const hat rfl) (hk _ _ _ _ _ _ _ _ _ hF h)
  case lconst z => exact gm_sz (gm_p_const hat rfl) (hk _ _ _ _ _ _ _ _ _ hF h)
  case aconst_null => exact gm_sz (gm_p_const hat rfl) (hk _ _ _ _ _ _ _ _ _ hF h)
  case iload j =>
    obtain ⟨v, h1, h2, h3⟩ := gm_ld_of h
    exact gm_sz (gm_p_load hat rfl h1 h2) (hk _ _ _ _ _ _ _ _ _ hF h3)
  case iload_n j =>
    obtain ⟨v, h1, h2, h3⟩ := gm_ld_of h
    exact gm_sz (gm_p_load hat rfl h1 h2) (hk _ _ _ _ _ _ _ _ _ hF h3)
  case lload j =>
    obtain ⟨v, h1, h2, h3⟩ := gm_ld_of h
    exact gm_sz (gm_p_load hat rfl h1 h2) (hk _ _ _ _ _ _ _ _ _ hF h3)
  case lload_n j =>
    obtain ⟨v, h1, h2, h3⟩ := gm_ld_of h
    exact gm_sz (gm_p_load hat rfl h1 h2) (hk _ _ _ _ _ _ _ _ _ hF h3)
  case aload j =>
    obtain ⟨v, h1, h2, h3⟩ := gm_ld_of h
    exact gm_sz (gm_p_load hat rfl h1 h2) (hk _ _ _ _ _ _ _ _ _ hF h3)
  case aload_n j =>
    obtain ⟨v, h1, h2, h3⟩ := gm_ld_of h
    exact gm_sz (gm_p_load hat rfl h1 h2) (hk _ _ _ _ _ _ _ _ _ hF h3)
  case istore j =>
    obtain ⟨v, st, rfl, h1, h2, h3⟩ := gm_sto_of h
    exact gm_sz (gm_p_stor hat rfl h2 h1) (hk _ _ _ _ _ _ _ _ _ hF h3)
  case istore_n j =>
    obtain ⟨v, st, rfl, h1, h2, h3⟩ := gm_sto_of h
    exact gm_sz (gm_p_stor hat rfl h2 h1) (hk _ _ _ _ _ _ _ _ _ hF h3)
  case lstore j =>
    obtain ⟨v, st, rfl, h1, h2, h3⟩ := gm_sto_of h
    exact gm_sz (gm_p_stor hat rfl h2 h1) (hk _ _ _ _ _ _ _ _ _ hF h3)
  case lstore_n j =>
    obtain ⟨v, st, rfl, h1, h2, h3⟩ := gm_sto_of h
    exact gm_sz (gm_p_stor hat rfl h2 h1) (hk _ _ _ _ _ _ _ _ _ hF h3)
  case astore j =>
    obtain ⟨v, st, rfl, h1, h2, h3⟩ := gm_sto_of h
    exact gm_sz (gm_p_stor hat rfl h2 h1) (hk _ _ _ _ _ _ _ _ _ hF h3)
  case astore_n j =>
    obtain ⟨v, st, rfl, h1, h2, h3⟩ := gm_sto_of h
    exact gm_sz (gm_p_stor hat rfl h2 h1) (hk _ _ _ _ _ _ _ _ _ hF h3)
  case iadd =>
    obtain ⟨x, y, st, rfl, h1⟩ := gm_two2_of h
    exact gm_sz (gm_p_bin hat rfl) (hk _ _ _ _ _ _ _ _ _ hF h1)
  case isub =>
    obtain ⟨x, y, st, rfl, h1⟩ := gm_two2_of h
    exact gm_sz (gm_p_bin hat rfl) (hk _ _ _ _ _ _ _ _ _ hF h1)
  case imul =>
    obtain ⟨x, y, st, rfl, h1⟩ := gm_two2_of h
    exact gm_sz (gm_p_bin hat rfl) (hk _ _ _ _ _ _ _ _ _ hF h1)
  case iand =>
    obtain ⟨x, y, st, rfl, h1⟩ := gm_two2_of h
    exact gm_sz (gm_p_bin hat rfl) (hk _ _ _ _ _ _ _ _ _ hF h1)
  case ior =>
    obtain ⟨x, y, st, rfl, h1⟩ := gm_two2_of h
    exact gm_sz (gm_p_bin hat rfl) (hk _ _ _ _ _ _ _ _ _ hF h1)
  case ixor =>
    obtain ⟨x, y, st, rfl, h1⟩ := gm_two2_of h
    exact gm_sz (gm_p_bin hat rfl) (hk _ _ _ _ _ _ _ _ _ hF h1)
  case ishl =>
    obtain ⟨x, y, st, rfl, h1⟩ := gm_two2_of h
    exact gm_sz (gm_p_bin hat rfl) (hk _ _ _ _ _ _ _ _ _ hF h1)
  case ishr =>
    obtain ⟨x, y, st, rfl, h1⟩ := gm_two2_of h
    exact gm_sz (gm_p_bin hat rfl) (hk _ _ _ _ _ _ _ _ _ hF h1)
  case iushr =>
    obtain ⟨x, y, st, rfl, h1⟩ := gm_two2_of h
    exact gm_sz (gm_p_bin hat rfl) (hk _ _ _ _ _ _ _ _ _ hF h1)
  case ineg =>
    obtain ⟨x, st, rfl, h1⟩ := gm_one_of h
    exact gm_sz (gm_p_un hat rfl) (hk _ _ _ _ _ _ _ _ _ hF h1)
  case i2b =>
    obtain ⟨x, st, rfl, h1⟩ := gm_one_of h
    exact gm_sz (gm_p_un hat rfl) (hk _ _ _ _ _ _ _ _ _ hF h1)
  case land =>
    obtain ⟨x, y, st, rfl, h1⟩ := gm_twl_of h
    exact gm_sz (gm_p_lbin hat rfl) (hk _ _ _ _ _ _ _ _ _ hF h1)
  case lor =>
    obtain ⟨x, y, st, rfl, h1⟩ := gm_twl_of h
    exact gm_sz (gm_p_lbin hat rfl) (hk _ _ _ _ _ _ _ _ _ hF h1)
  case lxor =>
    obtain ⟨x, y, st, rfl, h1⟩ := gm_twl_of h
    exact gm_sz (gm_p_lbin hat rfl) (hk _ _ _ _ _ _ _ _ _ hF h1)
  case lshl =>
    obtain ⟨x, y, st, rfl, h1⟩ := gm_lin_of h
    exact gm_sz (gm_p_lsh hat rfl) (hk _ _ _ _ _ _ _ _ _ hF h1)
  case lushr =>
    obtain ⟨x, y, st, rfl, h1⟩ := gm_lin_of h
    exact gm_sz (gm_p_lsh hat rfl) (hk _ _ _ _ _ _ _ _ _ hF h1)
  all_goals exact absurd hi (by intro h9; rcases h9 with h9 | h9 | h9 | h9 | h9 | h9 | h9 <;> cases h9)
theorem gm_wi_div (hat : gm_at mi pc = some .idiv) (hF : gm_Fx O n K R M) (hk : gm_On O X LX d mi Q k) (h : gm_wi O X LX P E mi Q d bc bs pc L st n K R M k .idiv) : gm_Wp X LX d bc bs mi pc L st n K R M (gm_Q2 O Q) := by
  obtain ⟨x, y, st, rfl, ⟨h1, h2, h3⟩, h4⟩ := gm_two2_of h
  have e : gm_div x y = Int.tdiv x y := by unfold gm_div; rw [gm_ir_w h1, gm_ir_w h2]
  exact gm_sz (gm_p_div hat (by rw [gm_ir_w h2]; exact h3)) (hk _ _ _ _ _ _ _ _ _ hF (by rw [e]; exact h4))
theorem gm_wi_rem (hat : gm_at mi pc = some .irem) (hF : gm_Fx O n K R M) (hk : gm_On O X LX d mi Q k) (h : gm_wi O X LX P E mi Q d bc bs pc L st n K R M k .irem) : gm_Wp X LX d bc bs mi pc L st n K R M (gm_Q2 O Q) := by
  obtain ⟨x, y, st, rfl, ⟨h1, h2, h3⟩, h4⟩ := gm_two2_of h
  have e : gm_rem x y = Int.tmod x y := by unfold gm_rem; rw [gm_ir_w h1, gm_ir_w h2]
  exact gm_sz (gm_p_rem hat (by rw [gm_ir_w h2]; exact h3)) (hk _ _ _ _ _ _ _ _ _ hF (by rw [e]; exact h4))
theorem gm_wi_i2l (hat : gm_at mi pc = some .i2l) (hF : gm_Fx O n K R M) (hk : gm_On O X LX d mi Q k) (h : gm_wi O X LX P E mi Q d bc bs pc L st n K R M k .i2l) : gm_Wp X LX d bc bs mi pc L st n K R M (gm_Q2 O Q) := by
  obtain ⟨x, st, rfl, h1, h2⟩ := gm_one_of h
  exact gm_sz (gm_p_i2l hat) (hk _ _ _ _ _ _ _ _ _ hF (by rw [gm_ir_w h1]; exact h2))
theorem gm_wi_l2i (hat : gm_at mi pc = some .l2i) (hF : gm_Fx O n K R M) (hk : gm_On O X LX d mi Q k) (h : gm_wi O X LX P E mi Q d bc bs pc L st n K R M k .l2i) : gm_Wp X LX d bc bs mi pc L st n K R M (gm_Q2 O Q) := by
  rcases st with _ | ⟨x | x | x | x, st⟩
  case cons.inr.inl => exact gm_sz (gm_p_l2i hat) (hk _ _ _ _ _ _ _ _ _ hF h)
  all_goals exact h.elim
theorem gm_wi_lcmp (hat : gm_at mi pc = some .lcmp) (hF : gm_Fx O n K R M) (hk : gm_On O X LX d mi Q k) (h : gm_wi O X LX P E mi Q d bc bs pc L st n K R M k .lcmp) : gm_Wp X LX d bc bs mi pc L st n K R M (gm_Q2 O Q) := by
  obtain ⟨x, y, st, rfl, h1⟩ := gm_twl_of h
  exact gm_sz (gm_p_lcmp hat) (hk _ _ _ _ _ _ _ _ _ hF h1)
theorem gm_wi_dup (hat : gm_at mi pc = some .dup) (hF : gm_Fx O n K R M) (hk : gm_On O X LX d mi Q k) (h : gm_wi O X LX P E mi Q d bc bs pc L st n K R M k .dup) : gm_Wp X LX d bc bs mi pc L st n K R M (gm_Q2 O Q) := by
  rcases st with _ | ⟨v, st⟩
  · exact h.elim
  · unfold gm_wi at h
    dsimp only at h
    by_cases e : gm_sort v = 1
    · rw [if_pos e] at h; exact h.elim
    · rw [if_neg e] at h; exact gm_sz (gm_p_dup hat e) (hk _ _ _ _ _ _ _ _ _ hF h)
theorem gm_wi_pop (hat : gm_at mi pc = some .pop) (hF : gm_Fx O n K R M) (hk : gm_On O X LX d mi Q k) (h : gm_wi O X LX P E mi Q d bc bs pc L st n K R M k .pop) : gm_Wp X LX d bc bs mi pc L st n K R M (gm_Q2 O Q) := by
  rcases st with _ | ⟨v, st⟩
  · exact h.elim
  · unfold gm_wi at h
    dsimp only at h
    by_cases e : gm_sort v = 1
    · rw [if_pos e] at h; exact h.elim
    · rw [if_neg e] at h; exact gm_sz (gm_p_pop hat e) (hk _ _ _ _ _ _ _ _ _ hF h)
theorem gm_wi_dup2 (hat : gm_at mi pc = some .dup2) (hF : gm_Fx O n K R M) (hk : gm_On O X LX d mi Q k) (h : gm_wi O X LX P E mi Q d bc bs pc L st n K R M k .dup2) : gm_Wp X LX d bc bs mi pc L st n K R M (gm_Q2 O Q) := by
  rcases st with _ | ⟨v, _ | ⟨u, st⟩⟩
  · exact h.elim
  · exact h.elim
  · unfold gm_wi at h
    dsimp only at h
    by_cases e : gm_sort v = 1 ∨ gm_sort u = 1
    · rw [if_pos e] at h; exact h.elim
    · rw [if_neg e] at h; exact gm_sz (gm_p_dup2 hat (fun h9 => e (Or.inl h9)) (fun h9 => e (Or.inr h9))) (hk _ _ _ _ _ _ _ _ _ hF h)
theorem gm_wi_iinc {j : Nat} {z : Int} (hat : gm_at mi pc = some (.iinc j z)) (hF : gm_Fx O n K R M) (hk : gm_On O X LX d mi Q k) (h : gm_wi O X LX P E mi Q d bc bs pc L st n K R M k (.iinc j z)) : gm_Wp X LX d bc bs mi pc L st n K R M (gm_Q2 O Q) := by
  unfold gm_wi at h
  dsimp only at h
  split at h
  · rename_i x e
    exact gm_sz (gm_p_iinc hat e) (hk _ _ _ _ _ _ _ _ _ hF h)
  · exact h.elim
theorem gm_wi_goto {off : Int} (hat : gm_at mi pc = some (.goto off)) (hF : gm_Fx O n K R M) (hk : gm_On O X LX d mi Q k) (h : gm_wi O X LX P E mi Q d bc bs pc L st n K R M k (.goto off)) : gm_Wp X LX d bc bs mi pc L st n K R M (gm_Q2 O Q) := by
  unfold gm_wi at h
  dsimp only at h
  split at h
  · rename_i e
    exact gm_sz (gm_p_goto hat e) (hk _ _ _ _ _ _ _ _ _ hF h)
  · exact h.elim
theorem gm_wi_if {cc : ClassFile.Cond} {off : Int} (hat : gm_at mi pc = some (.ifCond cc off)) (hF : gm_Fx O n K R M) (hk : gm_On O X LX d mi Q k) (h : gm_wi O X LX P E mi Q d bc bs pc L st n K R M k (.ifCond cc off)) : gm_Wp X LX d bc bs mi pc L st n K R M (gm_Q2 O Q) := by
  obtain ⟨x, st, rfl, g⟩ := gm_one_of h
  split at g
  · rename_i e
    obtain ⟨h1, h2, h3⟩ := g
    have e1 : gm_cmp cc x 0 = gm_cm cc x 0 := gm_cm_w h1 ⟨by omega, by omega⟩
    exact gm_b_if hat e (fun q => hk _ _ _ _ _ _ _ _ _ hF (h2 (by rw [← e1]; exact q))) (fun q => hk _ _ _ _ _ _ _ _ _ hF (h3 (by rw [← e1]; exact q)))
  · exact g.elim
theorem gm_wi_ic {cc : ClassFile.Cond} {off : Int} (hat : gm_at mi pc = some (.if_icmp cc off)) (hF : gm_Fx O n K R M) (hk : gm_On O X LX d mi Q k) (h : gm_wi O X LX P E mi Q d bc bs pc L st n K R M k (.if_icmp cc off)) : gm_Wp X LX d bc bs mi pc L st n K R M (gm_Q2 O Q) := by
  obtain ⟨x, y, st, rfl, g⟩ := gm_two2_of h
  split at g
  · rename_i e
    obtain ⟨⟨h1, h9⟩, h2, h3⟩ := g
    have e1 : gm_cmp cc x y = gm_cm cc x y := gm_cm_w h1 h9
    exact gm_b_ic hat e (fun q => hk _ _ _ _ _ _ _ _ _ hF (h2 (by rw [← e1]; exact q))) (fun q => hk _ _ _ _ _ _ _ _ _ hF (h3 (by rw [← e1]; exact q)))
  · exact g.elim
theorem gm_wi_nul {off : Int} (hat : gm_at mi pc = some (.ifnull off)) (hF : gm_Fx O n K R M) (hk : gm_On O X LX d mi Q k) (h : gm_wi O X LX P E mi Q d bc bs pc L st n K R M k (.ifnull off)) : gm_Wp X LX d bc bs mi pc L st n K R M (gm_Q2 O Q) := by
  rcases st with _ | ⟨x | x | x | x, st⟩
  case cons.inr.inr.inl =>
    unfold gm_wi at h
    dsimp only at h
    split at h
    · rename_i e
      exact gm_b_nul hat e (fun q => hk _ _ _ _ _ _ _ _ _ hF (h.1 q)) (fun q => hk _ _ _ _ _ _ _ _ _ hF (h.2 q))
    · exact h.elim
  all_goals exact h.elim
theorem gm_wi_nnul {off : Int} (hat : gm_at mi pc = some (.ifnonnull off)) (hF : gm_Fx O n K R M) (hk : gm_On O X LX d mi Q k) (h : gm_wi O X LX P E mi Q d bc bs pc L st n K R M k (.ifnonnull off)) : gm_Wp X LX d bc bs mi pc L st n K R M (gm_Q2 O Q) := by
  rcases st with _ | ⟨x | x | x | x, st⟩
  case cons.inr.inr.inl =>
    unfold gm_wi at h
    dsimp only at h
    split at h
    · rename_i e
      exact gm_b_nnul hat e (fun q => hk _ _ _ _ _ _ _ _ _ hF (h.1 q)) (fun q => hk _ _ _ _ _ _ _ _ _ hF (h.2 q))
    · exact h.elim
  all_goals exact h.elim
theorem gm_wi_sw {df lo hi : Int} {offs : Array Int} (hat : gm_at mi pc = some (.tableswitch df lo hi offs)) (hF : gm_Fx O n K R M) (hk : gm_On O X LX d mi Q k) (h : gm_wi O X LX P E mi Q d bc bs pc L st n K R M k (.tableswitch df lo hi offs)) : gm_Wp X LX d bc bs mi pc L st n K R M (gm_Q2 O Q) := by
  obtain ⟨x, st, rfl, g⟩ := gm_one_of h
  split at g
  · rename_i e
    obtain ⟨h1, h2, h3⟩ := g
    have e1 := gm_ir_w h1
    refine gm_b_sw hat e.1 ⟨e.2.1, fun o ho => of_decide_eq_true (List.all_eq_true.mp e.2.2 o ho)⟩ (fun q => hk _ _ _ _ _ _ _ _ _ hF (h2 (by rw [e1] at q; exact q))) (gm_swx_t e1 (fun q hq => hk _ _ _ _ _ _ _ _ _ hF hq) _ _ h3)
  · exact g.elim
end GI
end
section
/-! EACH INSTRUCTION, the heap's. -/
section GJ
variable {O : gm_Or} {X : Int → Int} {LX d bc bs mi pc : Nat} {L : gm_L} {st : List gm_V} {n : Nat} {K : gm_K} {R : gm_R} {M : gm_M} {Q Q' : gm_Q} {P : List (Nat × gm_Pu)} {E : List (Nat × gm_Sc)}
variable {k : Nat → Nat → Nat → gm_L → List gm_V → Nat → gm_K → gm_R → gm_M → Prop}
theorem gm_wi_get {ix : Nat} (hat : gm_at mi pc = some (.getfield ix)) (hF : gm_Fx O n K R M) (hk : gm_On O X LX d mi Q k) (h : gm_wi O X LX P E mi Q d bc bs pc L st n K R M k (.getfield ix)) : gm_Wp X LX d bc bs mi pc L st n K R M (gm_Q2 O Q) := by
  rcases st with _ | ⟨x | x | x | x, st⟩
  case cons.inr.inr.inl =>
    unfold gm_wi at h
    dsimp only at h
    obtain ⟨ci, j, h1, h2, h3, h4⟩ := gm_fat_of hF h
    rw [gm_gR_of hF, gm_gM_of hF] at h4
    exact gm_sz (gm_p_get hat h1 h2 h3) (hk _ _ _ _ _ _ _ _ _ hF h4)
  all_goals exact h.elim
theorem gm_wi_put {ix : Nat} (hat : gm_at mi pc = some (.putfield ix)) (hF : gm_Fx O n K R M) (hk : gm_On O X LX d mi Q k) (h : gm_wi O X LX P E mi Q d bc bs pc L st n K R M k (.putfield ix)) : gm_Wp X LX d bc bs mi pc L st n K R M (gm_Q2 O Q) := by
  rcases st with _ | ⟨x | x | x | x, _ | ⟨y | y | y | y, st⟩⟩
  case cons.inl.cons.inr.inr.inl =>
    unfold gm_wi at h
    dsimp only at h
    obtain ⟨ci, j, h1, h2, h3, h4⟩ := gm_fat_of hF h
    split at h4
    · rename_i e
      have hn : O.2.2 y j = none := by
        have := e.2
        cases hq : O.2.2 y j with
        | none => rfl
        | some v => rw [hq] at this; cases this
      split at h4
      · rename_i e0
        exact gm_sz (gm_p_puti hat h1 h2 h3 e.1 (Or.inl e0)) (hk _ _ _ _ _ _ _ _ _ (gm_Fx_M hF (Or.inl hn)) h4)
      · split at h4
        · rename_i e1
          exact gm_sz (gm_p_puti hat h1 h2 h3 e.1 (Or.inr ⟨e1, h4.1⟩)) (hk _ _ _ _ _ _ _ _ _ (gm_Fx_M hF (Or.inl hn)) h4.2)
        · exact h4.elim
    · exact h4.elim
  case cons.inr.inr.inl.cons.inr.inr.inl =>
    unfold gm_wi at h
    dsimp only at h
    obtain ⟨ci, j, h1, h2, h3, h4⟩ := gm_fat_of hF h
    split at h4
    · rename_i e
      have hn : O.2.1 y j = none := by
        have := e.2.1
        cases hq : O.2.1 y j with
        | none => rfl
        | some v => rw [hq] at this; cases this
      exact gm_sz (gm_p_putr hat h1 h2 h3 e.1 e.2.2) (hk _ _ _ _ _ _ _ _ _ (gm_Fx_R hF hn) h4)
    · exact h4.elim
  all_goals exact h.elim
theorem gm_wi_iald (hat : gm_at mi pc = some .iaload) (hF : gm_Fx O n K R M) (hk : gm_On O X LX d mi Q k) (h : gm_wi O X LX P E mi Q d bc bs pc L st n K R M k .iaload) : gm_Wp X LX d bc bs mi pc L st n K R M (gm_Q2 O Q) := by
  rcases st with _ | ⟨x | x | x | x, _ | ⟨y | y | y | y, st⟩⟩
  case cons.inl.cons.inr.inr.inl =>
    obtain ⟨h1, h2, h3, h4⟩ := gm_isK_of hF h
    obtain ⟨e1, e2⟩ := gm_ix hF h3
    exact gm_sz (gm_p_iald hat h1 h2 e2) (hk _ _ _ _ _ _ _ _ _ hF (by rw [e1]; exact h4))
  case cons.inl.cons.inr.inr.inr =>
    unfold gm_wi at h
    dsimp only at h
    split at h
    · rename_i e
      subst e
      obtain ⟨⟨h1, h2, h3⟩, h4⟩ := h
      exact gm_sz (gm_p_sald hat (by rw [gm_ir_w h3]; exact ⟨h1, h2⟩)) (hk _ _ _ _ _ _ _ _ _ hF (by rw [gm_ir_w h3]; exact h4))
    · exact h.elim
  all_goals exact h.elim
theorem gm_wi_bald (hat : gm_at mi pc = some .baload) (hF : gm_Fx O n K R M) (hk : gm_On O X LX d mi Q k) (h : gm_wi O X LX P E mi Q d bc bs pc L st n K R M k .baload) : gm_Wp X LX d bc bs mi pc L st n K R M (gm_Q2 O Q) := by
  rcases st with _ | ⟨x | x | x | x, _ | ⟨y | y | y | y, st⟩⟩
  case cons.inl.cons.inr.inr.inl =>
    obtain ⟨h1, h2, h3, h4⟩ := gm_isK_of hF h
    obtain ⟨e1, e2⟩ := gm_ix hF h3
    exact gm_sz (gm_p_bald hat h1 h2 e2) (hk _ _ _ _ _ _ _ _ _ hF (by rw [e1]; exact h4))
  all_goals exact h.elim
theorem gm_wi_lald (hat : gm_at mi pc = some .laload) (hF : gm_Fx O n K R M) (hk : gm_On O X LX d mi Q k) (h : gm_wi O X LX P E mi Q d bc bs pc L st n K R M k .laload) : gm_Wp X LX d bc bs mi pc L st n K R M (gm_Q2 O Q) := by
  rcases st with _ | ⟨x | x | x | x, _ | ⟨y | y | y | y, st⟩⟩
  case cons.inl.cons.inr.inr.inl =>
    obtain ⟨h1, h2, h3, h4⟩ := gm_isK_of hF h
    obtain ⟨e1, e2⟩ := gm_ix hF h3
    exact gm_sz (gm_p_lald hat h1 h2 e2) (hk _ _ _ _ _ _ _ _ _ hF (by rw [e1]; exact h4))
  all_goals exact h.elim
theorem gm_wi_aald (hat : gm_at mi pc = some .aaload) (hF : gm_Fx O n K R M) (hk : gm_On O X LX d mi Q k) (h : gm_wi O X LX P E mi Q d bc bs pc L st n K R M k .aaload) : gm_Wp X LX d bc bs mi pc L st n K R M (gm_Q2 O Q) := by
  rcases st with _ | ⟨x | x | x | x, _ | ⟨y | y | y | y, st⟩⟩
  case cons.inl.cons.inr.inr.inl =>
    obtain ⟨h1, h2, h3, h4⟩ := gm_isK_of hF h
    obtain ⟨e1, e2⟩ := gm_ix hF h3
    rw [gm_gR_of hF] at h4
    exact gm_sz (gm_p_aald hat h1 h2 e2) (hk _ _ _ _ _ _ _ _ _ hF (by rw [e1]; exact h4))
  all_goals exact h.elim
theorem gm_wi_iast (hat : gm_at mi pc = some .iastore) (hF : gm_Fx O n K R M) (hk : gm_On O X LX d mi Q k) (h : gm_wi O X LX P E mi Q d bc bs pc L st n K R M k .iastore) : gm_Wp X LX d bc bs mi pc L st n K R M (gm_Q2 O Q) := by
  rcases st with _ | ⟨x | x | x | x, _ | ⟨y | y | y | y, _ | ⟨z | z | z | z, st⟩⟩⟩
  case cons.inl.cons.inl.cons.inr.inr.inl =>
    obtain ⟨h1, h2, h3, h4⟩ := gm_isK_of hF h
    obtain ⟨e1, e2⟩ := gm_ix hF h3
    exact gm_sz (gm_p_iast hat h1 h2 e2) (hk _ _ _ _ _ _ _ _ _ (gm_Fx_M hF (Or.inr (by rw [h2]; omega))) (by rw [e1]; exact h4))
  all_goals exact h.elim
theorem gm_wi_bast (hat : gm_at mi pc = some .bastore) (hF : gm_Fx O n K R M) (hk : gm_On O X LX d mi Q k) (h : gm_wi O X LX P E mi Q d bc bs pc L st n K R M k .bastore) : gm_Wp X LX d bc bs mi pc L st n K R M (gm_Q2 O Q) := by
  rcases st with _ | ⟨x | x | x | x, _ | ⟨y | y | y | y, _ | ⟨z | z | z | z, st⟩⟩⟩
  case cons.inl.cons.inl.cons.inr.inr.inl =>
    obtain ⟨h1, h2, h3, h4⟩ := gm_isK_of hF h
    obtain ⟨e1, e2⟩ := gm_ix hF h3
    exact gm_sz (gm_p_bast hat h1 h2 e2) (hk _ _ _ _ _ _ _ _ _ (gm_Fx_M hF (Or.inr (by rw [h2]; omega))) (by rw [e1]; exact h4))
  all_goals exact h.elim
theorem gm_wi_last (hat : gm_at mi pc = some .lastore) (hF : gm_Fx O n K R M) (hk : gm_On O X LX d mi Q k) (h : gm_wi O X LX P E mi Q d bc bs pc L st n K R M k .lastore) : gm_Wp X LX d bc bs mi pc L st n K R M (gm_Q2 O Q) := by
  rcases st with _ | ⟨x | x | x | x, _ | ⟨y | y | y | y, _ | ⟨z | z | z | z, st⟩⟩⟩
  case cons.inr.inl.cons.inl.cons.inr.inr.inl =>
    obtain ⟨h1, h2, h3, h4⟩ := gm_isK_of hF h
    obtain ⟨e1, e2⟩ := gm_ix hF h3
    exact gm_sz (gm_p_last hat h1 h2 e2) (hk _ _ _ _ _ _ _ _ _ (gm_Fx_M hF (Or.inr (by rw [h2]; omega))) (by rw [e1]; exact h4))
  all_goals exact h.elim
theorem gm_wi_alen (hat : gm_at mi pc = some .arraylength) (hF : gm_Fx O n K R M) (hk : gm_On O X LX d mi Q k) (h : gm_wi O X LX P E mi Q d bc bs pc L st n K R M k .arraylength) : gm_Wp X LX d bc bs mi pc L st n K R M (gm_Q2 O Q) := by
  rcases st with _ | ⟨x | x | x | x, st⟩
  case cons.inr.inr.inl =>
    unfold gm_wi at h
    dsimp only at h
    cases hq : O.1 x with
    | none =>
      rw [hq] at h
      obtain ⟨⟨h1, h2, h3⟩, h4⟩ := h
      exact gm_sz (gm_p_alen hat ⟨h1, h2⟩ h3) (hk _ _ _ _ _ _ _ _ _ hF h4)
    | some q =>
      rw [hq] at h
      obtain ⟨h1, h2, h3⟩ := hF.1 x q hq
      dsimp only at h
      split at h
      · rename_i e
        exact gm_sz (gm_p_alen hat ⟨h1, h2⟩ (by rw [h3]; exact e)) (hk _ _ _ _ _ _ _ _ _ hF (by rw [h3]; exact h))
      · exact h.elim
  case cons.inr.inr.inr =>
    unfold gm_wi at h
    dsimp only at h
    split at h
    · rename_i e
      subst e
      exact gm_sz (gm_p_slen hat) (hk _ _ _ _ _ _ _ _ _ hF h)
    · exact h.elim
  all_goals exact h.elim
theorem gm_isx_of {ix x : Nat} (h : gm_isx mi pc ix = some x) : ∃ (ic is id : Nat) (lw : Bool), gm_xlk (gm_ow mi) ix = some (x, ic) ∧ gm_at mi (pc + 3) = some .dup ∧ gm_at mi (pc + 4) = some (if lw = true then .ldc_w is else .ldc is) ∧ gm_at mi (pc + (if lw = true then 7 else 6)) = some (.invokespecial ic) ∧ gm_at mi (pc + (if lw = true then 10 else 9)) = some .athrow ∧ gm_sld (gm_ow mi) is = some id := by
  unfold gm_isx at h
  split at h
  · rename_i q is e1 e2 e3
    obtain ⟨q1, q2⟩ := q
    split at h
    · rename_i e4
      cases h
      obtain ⟨id, hid⟩ := Option.isSome_iff_exists.mp e4.1
      exact ⟨q2, is, id, false, e1, e2, e3, e4.2.1, e4.2.2, hid⟩
    · cases h
  · rename_i q is e1 e2 e3
    obtain ⟨q1, q2⟩ := q
    split at h
    · rename_i e4
      cases h
      obtain ⟨id, hid⟩ := Option.isSome_iff_exists.mp e4.1
      exact ⟨q2, is, id, true, e1, e2, e3, e4.2.1, e4.2.2, hid⟩
    · cases h
  · cases h
theorem gm_wi_new {ix : Nat} (hh : gm_hh mi = []) (hat : gm_at mi pc = some (.new ix)) (hF : gm_Fx O n K R M) (hk : gm_On O X LX d mi Q k) (h : gm_wi O X LX P E mi Q d bc bs pc L st n K R M k (.new ix)) : gm_Wp X LX d bc bs mi pc L st n K R M (gm_Q2 O Q) := by
  unfold gm_wi at h
  dsimp only at h
  cases hn : gm_new (gm_ow mi) ix with
  | some ci =>
    rw [hn] at h
    obtain ⟨⟨h1, h2⟩, h3⟩ := h
    exact gm_sp (gm_p_new hat hn) h1 h2 (hk _ _ _ _ _ _ _ _ _ (gm_Fx_n hF) h3)
  | none =>
    rw [hn] at h
    dsimp only at h
    cases hx : gm_isx mi pc ix with
    | none => rw [hx] at h; exact h.elim
    | some x =>
      rw [hx] at h
      dsimp only at h
      split at h
      · rename_i e
        obtain ⟨⟨h1, h2⟩, h3⟩ := h
        obtain ⟨ic, is, id, lw, a1, a2, a3, a4, a5, a6⟩ := gm_isx_of hx
        exact gm_throw hh hat a1 a2 a3 a4 a5 a6 e.2 e.1 h1 h2 ⟨hF, h3⟩
      · exact h.elim
theorem gm_wi_newa {at0 : ArrayType} (hat : gm_at mi pc = some (.newarray at0)) (hF : gm_Fx O n K R M) (hk : gm_On O X LX d mi Q k) (h : gm_wi O X LX P E mi Q d bc bs pc L st n K R M k (.newarray at0)) : gm_Wp X LX d bc bs mi pc L st n K R M (gm_Q2 O Q) := by
  obtain ⟨x, st, rfl, g⟩ := gm_one_of h
  have go : ∀ kd : Nat, ((at0 = .int ∧ kd = 0) ∨ (at0 = .byte ∧ kd = 1) ∨ (at0 = .long ∧ kd = 2)) → ((0 ≤ x ∧ x < 60000000 ∧ 1 ≤ bc ∧ x.toNat ≤ bs) ∧ k (bc - 1) (bs - x.toNat) (pc + 2) L (gm_vr (n + 1) :: st) (n + 1) (gm_nK K n kd x.toNat) (gm_nR R n) (gm_nM M n)) → gm_Wp X LX d bc bs mi pc L (gm_vi x :: st) n K R M (gm_Q2 O Q) := by
    intro kd hkd g
    obtain ⟨⟨h1, h2, h3, h4⟩, h5⟩ := g
    have e : gm_w x = x := gm_w_id (by omega) (by omega)
    have := gm_p_newa (X := X) (LX := LX) (d := d) (L := L) (st := st) (n := n) (K := K) (R := R) (M := M) (e0 := x) hat hkd (by rw [e]; exact ⟨h1, h2⟩)
    rw [e] at this
    exact gm_sp this h3 h4 (hk _ _ _ _ _ _ _ _ _ (gm_Fx_n hF) h5)
  cases at0
  case int => exact go 0 (Or.inl ⟨rfl, rfl⟩) g
  case byte => exact go 1 (Or.inr (Or.inl ⟨rfl, rfl⟩)) g
  case long => exact go 2 (Or.inr (Or.inr ⟨rfl, rfl⟩)) g
  all_goals exact g.elim
theorem gm_cn1 : gm_cn 1 = "GlacierMail$State" := by decide +kernel
theorem gm_wi_anew {ix : Nat} (hat : gm_at mi pc = some (.anewarray ix)) (hF : gm_Fx O n K R M) (hk : gm_On O X LX d mi Q k) (h : gm_wi O X LX P E mi Q d bc bs pc L st n K R M k (.anewarray ix)) : gm_Wp X LX d bc bs mi pc L st n K R M (gm_Q2 O Q) := by
  obtain ⟨x, st, rfl, g⟩ := gm_one_of h
  split at g
  · rename_i hn
    obtain ⟨⟨h1, h2, h3, h4⟩, h5⟩ := g
    have e : gm_w x = x := gm_w_id (by omega) (by omega)
    have := gm_p_anew (X := X) (LX := LX) (d := d) (L := L) (st := st) (n := n) (K := K) (R := R) (M := M) (e0 := x) hat hn gm_cn1 (by rw [e]; exact ⟨h1, h2⟩)
    rw [e] at this
    exact gm_sp this h3 h4 (hk _ _ _ _ _ _ _ _ _ (gm_Fx_n hF) h5)
  · exact g.elim
theorem gm_wi_aast (hat : gm_at mi pc = some .aastore) (hF : gm_Fx O n K R M) (hk : gm_On O X LX d mi Q k) (h : gm_wi O X LX P E mi Q d bc bs pc L st n K R M k .aastore) : gm_Wp X LX d bc bs mi pc L st n K R M (gm_Q2 O Q) := by
  rcases st with _ | ⟨x | x | x | x, _ | ⟨y | y | y | y, _ | ⟨z | z | z | z, st⟩⟩⟩
  case cons.inr.inr.inl.cons.inl.cons.inr.inr.inl =>
    obtain ⟨h1, h2, g⟩ := gm_isK_of hF h
    obtain ⟨h5, h6, ⟨h7, h3⟩, h4⟩ := gm_isK_of hF g
    obtain ⟨e1, e2⟩ := gm_ix hF h3
    exact gm_sz (gm_p_aast hat h1 h2 e2 h5 h6 (by omega) gm_cn1) (hk _ _ _ _ _ _ _ _ _ (gm_Fx_R hF (by rw [e1]; exact h7)) (by rw [e1]; exact h4))
  all_goals exact h.elim
theorem gm_wi_ldc {i : Instr} {ix : Nat} (hi : i = .ldc ix ∨ i = .ldc_w ix) (hat : gm_at mi pc = some i) (hF : gm_Fx O n K R M) (hk : gm_On O X LX d mi Q k) (h : gm_wi O X LX P E mi Q d bc bs pc L st n K R M k i) : gm_Wp X LX d bc bs mi pc L st n K R M (gm_Q2 O Q) := by
  have go : (match gm_ild (gm_ow mi) ix with
    | some q => if q.2 = 0 then k bc bs (pc + gm_len i) L (gm_vi q.1 :: st) n K R M else False
    | none => match gm_sld (gm_ow mi) ix with
      | some id => k bc bs (pc + gm_len i) L (gm_vo id :: st) n K R M
      | none => False) → gm_Wp X LX d bc bs mi pc L st n K R M (gm_Q2 O Q) := by
    intro h
    cases h1 : gm_ild (gm_ow mi) ix with
    | some q =>
      rw [h1] at h
      obtain ⟨q1, q2⟩ := q
      dsimp only at h
      split at h
      · rename_i e
        subst e
        exact gm_sz (gm_p_ldci hat hi h1) (hk _ _ _ _ _ _ _ _ _ hF h)
      · exact h.elim
    | none =>
      rw [h1] at h
      dsimp only at h
      cases h2 : gm_sld (gm_ow mi) ix with
      | none => rw [h2] at h; exact h.elim
      | some id =>
        rw [h2] at h
        exact gm_sz (gm_p_ldcs hat hi h2) (hk _ _ _ _ _ _ _ _ _ hF h)
  rcases hi with rfl | rfl
  · exact go h
  · exact go h
theorem gm_wi_ldcl {ix : Nat} (hat : gm_at mi pc = some (.ldc2_w ix)) (hF : gm_Fx O n K R M) (hk : gm_On O X LX d mi Q k) (h : gm_wi O X LX P E mi Q d bc bs pc L st n K R M k (.ldc2_w ix)) : gm_Wp X LX d bc bs mi pc L st n K R M (gm_Q2 O Q) := by
  unfold gm_wi at h
  dsimp only at h
  cases h1 : gm_ild (gm_ow mi) ix with
  | none => rw [h1] at h; exact h.elim
  | some q =>
    rw [h1] at h
    obtain ⟨q1, q2⟩ := q
    dsimp only at h
    split at h
    · rename_i e
      subst e
      exact gm_sz (gm_p_ldcl hat h1) (hk _ _ _ _ _ _ _ _ _ hF h)
    · exact h.elim
theorem gm_wi_iret (hat : gm_at mi pc = some .ireturn) (hF : gm_Fx O n K R M) (h : gm_wi O X LX P E mi Q d bc bs pc L st n K R M k .ireturn) : gm_Wp X LX d bc bs mi pc L st n K R M (gm_Q2 O Q) := by
  rcases st with _ | ⟨x | x | x | x, _ | ⟨y, st⟩⟩
  case cons.inl.nil =>
    unfold gm_wi at h
    dsimp only at h
    split at h
    · rename_i e; exact gm_r_int hat (Or.inl e) ⟨hF, h⟩
    · rename_i e; exact gm_r_int hat (Or.inr ⟨e, h.1⟩) ⟨hF, h.2⟩
    · exact h.elim
  all_goals exact h.elim
theorem gm_wi_vret (hat : gm_at mi pc = some .return_) (hF : gm_Fx O n K R M) (h : gm_wi O X LX P E mi Q d bc bs pc L st n K R M k .return_) : gm_Wp X LX d bc bs mi pc L st n K R M (gm_Q2 O Q) := by
  unfold gm_wi at h
  dsimp only at h
  split at h
  · rename_i e; exact gm_r_void hat e ⟨hF, h⟩
  · exact h.elim
theorem gm_wi_aret (hat : gm_at mi pc = some .areturn) (hF : gm_Fx O n K R M) (h : gm_wi O X LX P E mi Q d bc bs pc L st n K R M k .areturn) : gm_Wp X LX d bc bs mi pc L st n K R M (gm_Q2 O Q) := by
  unfold gm_wi at h
  dsimp only at h
  split at h
  · rename_i e; exact gm_r_ref hat (Or.inl ⟨_, e⟩) ⟨hF, h⟩
  · rename_i e; exact gm_r_ref hat (Or.inr ⟨_, e⟩) ⟨hF, h⟩
  · exact h.elim
end GJ
end
section
/-! CALLS; any instruction; a stretch of code. -/
section GX
variable {O : gm_Or} {X : Int → Int} {LX d bc bs mi pc : Nat} {L : gm_L} {st : List gm_V} {n : Nat} {K : gm_K} {R : gm_R} {M : gm_M} {Q Q' : gm_Q} {P : List (Nat × gm_Pu)} {E : List (Nat × gm_Sc)}
variable {k : Nat → Nat → Nat → gm_L → List gm_V → Nat → gm_K → gm_R → gm_M → Prop}
theorem gm_wi_stat {ix : Nat} (hh : gm_hh mi = []) (hE : gm_OkE O X LX E) (hP : gm_OkP O X LX P) (hat : gm_at mi pc = some (.invokestatic ix)) (hF : gm_Fx O n K R M) (hk : gm_On O X LX d mi Q k) (h : gm_wi O X LX P E mi Q d bc bs pc L st n K R M k (.invokestatic ix)) : gm_Wp X LX d bc bs mi pc L st n K R M (gm_Q2 O Q) := by
  unfold gm_wi at h
  dsimp only at h
  cases hc : gm_cal (gm_ow mi) ix with
  | none => rw [hc] at h; exact h.elim
  | some q =>
    rw [hc] at h
    obtain ⟨kd, mj⟩ := q
    dsimp only at h
    split at h
    · rename_i e
      obtain ⟨rfl, hd⟩ := e
      split at h
      · rename_i e1
        subst e1
        obtain ⟨x, y, st, rfl, g⟩ := gm_two2_of h
        split at g
        · rename_i e2
          exact gm_sz (gm_p_max hat hc (gm_ir_w g.1.1) (gm_ir_w g.1.2) e2 hd) (hk _ _ _ _ _ _ _ _ _ hF g.2)
        · exact g.elim
      · split at h
        · rename_i e1
          subst e1
          obtain ⟨x, y, st, rfl, g⟩ := gm_two2_of h
          split at g
          · rename_i e2
            exact gm_sz (gm_p_min hat hc (gm_ir_w g.1.1) (gm_ir_w g.1.2) e2 hd) (hk _ _ _ _ _ _ _ _ _ hF g.2)
          · exact g.elim
        · split at h
          · rename_i e
            obtain ⟨e1, e2, e3, e4, e5⟩ := e
            refine gm_wc_s (pc' := pc + 3) hE hP hF (fun d' bc' bs' h1 h2 h3 h4 => ?_) (fun bc bs st n K R M hf hq => hk _ _ _ _ _ _ _ _ _ hf hq) h
            have := gm_c_stat (bc := bc) (bs := bs) hat hc e1 hh (as := (st.take (gm_na mj)).reverse) (st := st.drop (gm_na mj)) (by rw [List.length_reverse]; exact e2) (gm_alls_of e3) (by rw [List.length_reverse, e2]; exact e4) e5 h1 h2 h3 h4
            rw [List.reverse_reverse, List.take_append_drop] at this
            exact this
          · exact h.elim
    · exact h.elim
theorem gm_wi_virt {ix : Nat} (hh : gm_hh mi = []) (hE : gm_OkE O X LX E) (hP : gm_OkP O X LX P) (hat : gm_at mi pc = some (.invokevirtual ix)) (hF : gm_Fx O n K R M) (hk : gm_On O X LX d mi Q k) (h : gm_wi O X LX P E mi Q d bc bs pc L st n K R M k (.invokevirtual ix)) : gm_Wp X LX d bc bs mi pc L st n K R M (gm_Q2 O Q) := by
  unfold gm_wi at h
  dsimp only at h
  cases hc : gm_cal (gm_ow mi) ix with
  | none => rw [hc] at h; exact h.elim
  | some q =>
    rw [hc] at h
    obtain ⟨kd, mj⟩ := q
    dsimp only at h
    split at h
    · rename_i e
      obtain ⟨rfl, e1, e2, e3, e4, e5⟩ := e
      cases hs : st.drop (gm_na mj) with
      | nil => rw [hs] at h; exact h.elim
      | cons v st' =>
        rw [hs] at h
        rcases v with x | x | x | x
        case inr.inr.inl =>
          dsimp only at h
          split at h
          · rename_i e6
            obtain ⟨h1, h2, h3⟩ := gm_isK_of hF h
            refine gm_wc_s (pc' := pc + 3) hE hP hF (fun d' bc' bs' a1 a2 a3 a4 => ?_) (fun bc bs st n K R M hf hq => hk _ _ _ _ _ _ _ _ _ hf hq) h3
            have hmj := (gm_cal_spec hc).1
            have := gm_c_virt (bc := bc) (bs := bs) hat hc e1 hh (as := (st.take (gm_na mj)).reverse) (st := st') h1 h2 e2 (gm_cio_spec hmj e2) (by rw [List.length_reverse]; exact e3) (gm_alls_of e4) (by rw [List.length_reverse, e3]; exact e5) e6 a1 a2 a3 a4
            rw [List.reverse_reverse, ← hs, List.take_append_drop] at this
            exact this
          · exact h.elim
        all_goals exact h.elim
    · exact h.elim
theorem gm_wi_spec {ix : Nat} (hh : gm_hh mi = []) (hE : gm_OkE O X LX E) (hP : gm_OkP O X LX P) (hat : gm_at mi pc = some (.invokespecial ix)) (hF : gm_Fx O n K R M) (hk : gm_On O X LX d mi Q k) (h : gm_wi O X LX P E mi Q d bc bs pc L st n K R M k (.invokespecial ix)) : gm_Wp X LX d bc bs mi pc L st n K R M (gm_Q2 O Q) := by
  unfold gm_wi at h
  dsimp only at h
  split at h
  · rename_i ho
    rcases st with _ | ⟨x | x | x | x, st⟩
    case cons.inr.inr.inl =>
      dsimp only at h
      split at h
      · rename_i e
        exact gm_sz (gm_p_oinit hat ho h.1 e.1 e.2) (hk _ _ _ _ _ _ _ _ _ hF h.2)
      · exact h.elim
    all_goals exact h.elim
  · cases hc : gm_cal (gm_ow mi) ix with
    | none => rw [hc] at h; exact h.elim
    | some q =>
      rw [hc] at h
      obtain ⟨kd, mj⟩ := q
      dsimp only at h
      split at h
      · rename_i e
        obtain ⟨e0, e1, e3, e4, e5⟩ := e
        cases hs : st.drop (gm_na mj) with
        | nil => rw [hs] at h; exact h.elim
        | cons v st' =>
          rw [hs] at h
          rcases v with x | x | x | x
          case inr.inr.inl =>
            dsimp only at h
            split at h
            · rename_i e6
              obtain ⟨h1, h3⟩ := h
              refine gm_wc_s (pc' := pc + 3) hE hP hF (fun d' bc' bs' a1 a2 a3 a4 => ?_) (fun bc bs st n K R M hf hq => hk _ _ _ _ _ _ _ _ _ hf hq) h3
              have := gm_c_init (bc := bc) (bs := bs) hat hc e0 e1 hh (as := (st.take (gm_na mj)).reverse) (st := st') h1 (by rw [List.length_reverse]; exact e3) (gm_alls_of e4) (by rw [List.length_reverse, e3]; exact e5) e6 a1 a2 a3 a4
              rw [List.reverse_reverse, ← hs, List.take_append_drop] at this
              exact this
            · exact h.elim
          all_goals exact h.elim
      · exact h.elim
/-- ANY INSTRUCTION -/
theorem gm_wi_s {i : Instr} (hh : gm_hh mi = []) (hE : gm_OkE O X LX E) (hP : gm_OkP O X LX P) (hat : gm_at mi pc = some i) (hF : gm_Fx O n K R M) (hk : gm_On O X LX d mi Q k) (h : gm_wi O X LX P E mi Q d bc bs pc L st n K R M k i) : gm_Wp X LX d bc bs mi pc L st n K R M (gm_Q2 O Q) := by
  by_cases hi : ((gm_const i).isSome = true ∨ (gm_load i).isSome = true ∨ (gm_stor i).isSome = true ∨ (gm_bin i).isSome = true ∨ (gm_un i).isSome = true ∨ (gm_lbin i).isSome = true ∨ (gm_lsh i).isSome = true)
  · exact gm_wi_a hi hat hF hk h
  · cases i
    case idiv => exact gm_wi_div hat hF hk h
    case irem => exact gm_wi_rem hat hF hk h
    case i2l => exact gm_wi_i2l hat hF hk h
    case l2i => exact gm_wi_l2i hat hF hk h
    case lcmp => exact gm_wi_lcmp hat hF hk h
    case dup => exact gm_wi_dup hat hF hk h
    case pop => exact gm_wi_pop hat hF hk h
    case dup2 => exact gm_wi_dup2 hat hF hk h
    case iinc => exact gm_wi_iinc hat hF hk h
    case goto => exact gm_wi_goto hat hF hk h
    case ifCond => exact gm_wi_if hat hF hk h
    case if_icmp => exact gm_wi_ic hat hF hk h
    case ifnull => exact gm_wi_nul hat hF hk h
    case ifnonnull => exact gm_wi_nnul hat hF hk h
    case tableswitch => exact gm_wi_sw hat hF hk h
    case getfield => exact gm_wi_get hat hF hk h
    case putfield => exact gm_wi_put hat hF hk h
    case iaload => exact gm_wi_iald hat hF hk h
    case baload => exact gm_wi_bald hat hF hk h
    case laload => exact gm_wi_lald hat hF hk h
    case aaload => exact gm_wi_aald hat hF hk h
    case iastore => exact gm_wi_iast hat hF hk h
    case bastore => exact gm_wi_bast hat hF hk h
    case lastore => exact gm_wi_last hat hF hk h
    case arraylength => exact gm_wi_alen hat hF hk h
    case new => exact gm_wi_new hh hat hF hk h
    case newarray => exact gm_wi_newa hat hF hk h
    case anewarray => exact gm_wi_anew hat hF hk h
    case aastore => exact gm_wi_aast hat hF hk h
    case ldc => exact gm_wi_ldc (Or.inl rfl) hat hF hk h
    case ldc_w => exact gm_wi_ldc (Or.inr rfl) hat hF hk h
    case ldc2_w => exact gm_wi_ldcl hat hF hk h
    case invokestatic => exact gm_wi_stat hh hE hP hat hF hk h
    case invokevirtual => exact gm_wi_virt hh hE hP hat hF hk h
    case invokespecial => exact gm_wi_spec hh hE hP hat hF hk h
    case ireturn => exact gm_wi_iret hat hF h
    case return_ => exact gm_wi_vret hat hF h
    case areturn => exact gm_wi_aret hat hF h
    all_goals first | exact False.elim h | exact absurd (Or.inl rfl) hi | exact absurd (Or.inr (Or.inl rfl)) hi | exact absurd (Or.inr (Or.inr (Or.inl rfl))) hi | exact absurd (Or.inr (Or.inr (Or.inr (Or.inl rfl)))) hi | exact absurd (Or.inr (Or.inr (Or.inr (Or.inr (Or.inl rfl))))) hi | exact absurd (Or.inr (Or.inr (Or.inr (Or.inr (Or.inr (Or.inl rfl)))))) hi | exact absurd (Or.inr (Or.inr (Or.inr (Or.inr (Or.inr (Or.inr rfl)))))) hi
/-- A STRETCH -/
theorem gm_wx_s {cuts : List (Nat × List Bool)} (hh : gm_hh mi = []) (hE : gm_OkE O X LX E) (hP : gm_OkP O X LX P) : ∀ (f : Nat) (fst : Bool) (bc bs pc : Nat) (L : gm_L) (st : List gm_V) (n : Nat) (K : gm_K) (R : gm_R) (M : gm_M), gm_Fx O n K R M → gm_wx O X LX P E mi cuts Q d f fst bc bs pc L st n K R M → gm_Wp X LX d bc bs mi pc L st n K R M (gm_Q2 O Q) := by
  intro f
  induction f with
  | zero => intro fst bc bs pc L st n K R M _ h; exact h.elim
  | succ f ih =>
    intro fst bc bs pc L st n K R M hF h
    unfold gm_wx at h
    split at h
    · rename_i mask e
      split at h
      · exact gm_Wp_mask (h hF)
      · exact h.elim
    · split at h
      · rename_i i hat
        exact gm_wi_s hh hE hP hat hF (fun bc bs pc L st n K R M hf hq => ih false bc bs pc L st n K R M hf hq) h
      · exact h.elim
end GX
end
section
/-! A TRY of the evaluation. -/
section GT2
variable {X : Int → Int} {LX d bc bs : Nat} {n : Nat} {K : gm_K} {R : gm_R} {M : gm_M} {Q Q' : gm_Q}
def gm_O0 : gm_Or := (fun _ => none, fun _ _ => none, fun _ _ => none)
theorem gm_E0 {O : gm_Or} : gm_OkE O X LX [] := fun _ _ _ _ _ _ h => nomatch h
theorem gm_P0 {O : gm_Or} : gm_OkP O X LX [] := fun _ _ _ _ h => nomatch h
theorem gm_t2 {k : Nat} {a b : Int} (hd : 1 ≤ d) (hk : 1 ≤ k ∧ k ≤ n ∧ (K k).1 = 6) (hF : gm_Fx gm_O0 n K R M) (ha : 0 ≤ a * b ∧ a * b < 60000000) (hbc : 1 ≤ bc) (hbs : (a * b).toNat ≤ bs) (hq : Q (.inl none) (n + 1) (gm_nK K n 0 (a * b).toNat) (gm_uR (gm_nR R n) k 2 (n + 1)) (gm_nM (gm_uM (gm_uM (gm_uM M k 3 0) k 0 a) k 1 b) n)) : gm_Wp X LX (d + 1) bc bs 2 0 (gm_ent 2 [gm_vr k, gm_vi a, gm_vi b]) [] n K R M (gm_Q2 gm_O0 Q) := by
  refine gm_wx_s (cuts := []) rfl gm_E0 gm_P0 20 true bc bs 0 _ _ n K R M hF ?_
  refine And.intro hk.1 ?_
  refine And.intro hk ?_
  refine And.intro hk ?_
  refine And.intro hk ?_
  refine And.intro ⟨ha.1, ha.2, hbc, hbs⟩ ?_
  refine And.intro ⟨hk.1, Nat.le_succ_of_le hk.2.1, ?_⟩ ?_
  · show (gm_nK K n 0 (a * b).toNat k).1 = 6
    unfold gm_nK
    rw [if_neg (by omega)]
    exact hk.2.2
  exact hq
end GT2
end
section
/-! ARRAYS' fill: a loop. -/
section GF
variable {X : Int → Int} {LX d bc bs : Nat} {n : Nat} {K : gm_K} {R : gm_R} {M : gm_M} {Q Q' : gm_Q}
theorem gm_F0 : gm_Fx gm_O0 n K R M := ⟨fun _ _ h => (nomatch h), fun _ _ _ h => (nomatch h), fun _ _ _ h => (nomatch h)⟩
/-- what was shown with nothing fixed holds with O fixed, where its end keeps O -/
theorem gm_up {O : gm_Or} {mi pc : Nat} {L : gm_L} {st : List gm_V} (hQ : ∀ o n K R M, Q o n K R M → gm_Fx O n K R M) (h : gm_Wp X LX d bc bs mi pc L st n K R M (gm_Q2 gm_O0 Q)) : gm_Wp X LX d bc bs mi pc L st n K R M (gm_Q2 O Q) := gm_Wp_mono (fun o n K R M hq => ⟨hQ o n K R M hq.2, hq.2⟩) h
/-- the row k filled with x up to i -/
def gm_fM (M : gm_M) (k : Nat) (i x : Int) : gm_M := fun a b => if a = k ∧ 0 ≤ b ∧ b < i then x else M a b
theorem gm_fM_0 {k : Nat} {x : Int} : gm_fM M k 0 x = M := by
  funext a b
  unfold gm_fM
  rw [if_neg (by omega)]
theorem gm_fM_s {k : Nat} {i x : Int} (h : 0 ≤ i) : gm_uM (gm_fM M k i x) k i x = gm_fM M k (i + 1) x := by
  funext a b
  unfold gm_uM gm_fM
  by_cases e : a = k ∧ b = i
  · rw [if_pos e, if_pos ⟨e.1, by omega, by omega⟩]
  · rw [if_neg e]
    by_cases e2 : a = k ∧ 0 ≤ b ∧ b < i
    · rw [if_pos e2, if_pos ⟨e2.1, by omega, by omega⟩]
    · rw [if_neg e2, if_neg (by intro h9; apply e2; refine ⟨h9.1, h9.2.1, ?_⟩; have : ¬ b = i := fun h => e ⟨h9.1, h⟩; omega)]
theorem gm_m8l {k : Nat} {x : Int} (h1 : 1 ≤ k ∧ k ≤ n ∧ (K k).1 = 0) (hl : ((K k).2 : Int) < 2147483648) (hq : Q (.inl none) n K R (gm_fM M k (K k).2 x)) : ∀ (j : Nat) (i : Int), 0 ≤ i → i + j = (K k).2 → gm_Wp X LX d bc bs 8 5 [some (gm_vr k), some (gm_vi x), some (gm_vi i), some (gm_vi (K k).2)] [] n K R (gm_fM M k i x) (gm_Q2 gm_O0 Q) := by
  intro j
  induction j with
  | zero =>
    intro i h0 hi
    refine gm_wx_s (cuts := [(5, [true, true, true, true])]) rfl gm_E0 gm_P0 20 true bc bs 5 _ _ _ _ _ _ gm_F0 ?_
    refine And.intro ⟨⟨by omega, by omega⟩, ⟨by omega, by omega⟩⟩ (And.intro (fun _ => ?_) (fun h => absurd (show ((K k).2 : Int) ≤ i by omega) h))
    show Q (.inl none) n K R (gm_fM M k i x)
    have e : i = (K k).2 := by omega
    rw [e]
    exact hq
  | succ j ih =>
    intro i h0 hi
    refine gm_wx_s (cuts := [(5, [true, true, true, true])]) rfl gm_E0 gm_P0 20 true bc bs 5 _ _ _ _ _ _ gm_F0 ?_
    refine And.intro ⟨⟨by omega, by omega⟩, ⟨by omega, by omega⟩⟩ (And.intro (fun h => absurd h (show ¬ ((K k).2 : Int) ≤ i by omega)) (fun _ => ?_))
    refine And.intro h1 (And.intro ⟨h0, show i < (K k).2 by omega, by omega, by omega⟩ ?_)
    refine fun _ => ?_
    have h9 := ih (i + 1) (by omega) (by omega)
    rw [← gm_fM_s h0] at h9
    exact h9
theorem gm_m8 {k : Nat} {x : Int} (h1 : 1 ≤ k ∧ k ≤ n ∧ (K k).1 = 0) (hl : ((K k).2 : Int) < 2147483648) (hq : Q (.inl none) n K R (gm_fM M k (K k).2 x)) : gm_Wp X LX d bc bs 8 0 (gm_ent 8 [gm_vr k, gm_vi x]) [] n K R M (gm_Q2 gm_O0 Q) := by
  refine gm_wx_s (cuts := [(5, [true, true, true, true])]) rfl gm_E0 gm_P0 20 true bc bs 0 _ _ _ _ _ _ gm_F0 ?_
  refine And.intro ⟨h1.1, h1.2.1, by rw [h1.2.2]; omega⟩ ?_
  refine fun _ => ?_
  have h9 := gm_m8l (X := X) (LX := LX) (d := d) (bc := bc) (bs := bs) (Q := Q) h1 hl hq (K k).2 0 (by omega) (by omega)
  rw [gm_fM_0] at h9
  exact h9
end GF
end
