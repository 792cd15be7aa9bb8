section
-- ===== PART A: goes FIRST, ahead of the names: the tables' words, and 'selects' of the private methods out of them =====
/-- a private method of a class that the tables say can be made, by its rows of tables_1 -/
def lw_okq (q : MethodName × Nat) : Prop := (q.1.cls ≠ "java/lang/invoke/MethodHandle" ∧ q.1.cls ≠ "java/lang/invoke/VarHandle") ∧ Cond.instantiable q.1.cls q.2 ∈ tables_1 ∧ Cond.privateMethod q.1 ∈ tables_1 ∧ Cond.instanceMethod q.1 ∈ tables_1
theorem lw_p0 : lw_okq (⟨"GlacierMail$Ice", "reckonHeats", "()V"⟩, 7) := ⟨⟨by decide +kernel, by decide +kernel⟩, List.mem_of_getElem? (i := 174) (by decide +kernel), List.mem_of_getElem? (i := 184) (by decide +kernel), List.mem_of_getElem? (i := 185) (by decide +kernel)⟩
theorem lw_p1 : lw_okq (⟨"GlacierMail$Ice", "reckonSpeeds", "()V"⟩, 7) := ⟨⟨by decide +kernel, by decide +kernel⟩, List.mem_of_getElem? (i := 174) (by decide +kernel), List.mem_of_getElem? (i := 189) (by decide +kernel), List.mem_of_getElem? (i := 190) (by decide +kernel)⟩
theorem lw_p2 : lw_okq (⟨"GlacierMail$Ice", "reckonFloods", "()V"⟩, 7) := ⟨⟨by decide +kernel, by decide +kernel⟩, List.mem_of_getElem? (i := 174) (by decide +kernel), List.mem_of_getElem? (i := 207) (by decide +kernel), List.mem_of_getElem? (i := 208) (by decide +kernel)⟩
theorem lw_p3 : lw_okq (⟨"GlacierMail", "putNumber", "(I)V"⟩, 18) := ⟨⟨by decide +kernel, by decide +kernel⟩, List.mem_of_getElem? (i := 31) (by decide +kernel), List.mem_of_getElem? (i := 431) (by decide +kernel), List.mem_of_getElem? (i := 432) (by decide +kernel)⟩
theorem lw_p4 : lw_okq (⟨"GlacierMail", "reckonEnds", "()V"⟩, 18) := ⟨⟨by decide +kernel, by decide +kernel⟩, List.mem_of_getElem? (i := 31) (by decide +kernel), List.mem_of_getElem? (i := 447) (by decide +kernel), List.mem_of_getElem? (i := 448) (by decide +kernel)⟩
theorem lw_p5 : lw_okq (⟨"GlacierMail$Way", "deepAfter", "()I"⟩, 9) := ⟨⟨by decide +kernel, by decide +kernel⟩, List.mem_of_getElem? (i := 234) (by decide +kernel), List.mem_of_getElem? (i := 487) (by decide +kernel), List.mem_of_getElem? (i := 488) (by decide +kernel)⟩
theorem lw_p6 : lw_okq (⟨"GlacierMail$Ice", "recalledFlow", "(I)I"⟩, 7) := ⟨⟨by decide +kernel, by decide +kernel⟩, List.mem_of_getElem? (i := 174) (by decide +kernel), List.mem_of_getElem? (i := 505) (by decide +kernel), List.mem_of_getElem? (i := 506) (by decide +kernel)⟩
theorem lw_p7 : lw_okq (⟨"GlacierMail$Ice", "setFacts", "(IIII)V"⟩, 7) := ⟨⟨by decide +kernel, by decide +kernel⟩, List.mem_of_getElem? (i := 174) (by decide +kernel), List.mem_of_getElem? (i := 513) (by decide +kernel), List.mem_of_getElem? (i := 514) (by decide +kernel)⟩
theorem lw_p8 : lw_okq (⟨"GlacierMail$Law", "holds", "(II[I)Z"⟩, 2) := ⟨⟨by decide +kernel, by decide +kernel⟩, List.mem_of_getElem? (i := 526) (by decide +kernel), List.mem_of_getElem? (i := 524) (by decide +kernel), List.mem_of_getElem? (i := 525) (by decide +kernel)⟩
theorem lw_p9 : lw_okq (⟨"GlacierMail$Ice", "keepFlow", "(II)V"⟩, 7) := ⟨⟨by decide +kernel, by decide +kernel⟩, List.mem_of_getElem? (i := 174) (by decide +kernel), List.mem_of_getElem? (i := 532) (by decide +kernel), List.mem_of_getElem? (i := 533) (by decide +kernel)⟩
theorem lw_p10 : lw_okq (⟨"GlacierMail$Way", "takeFloods", "()V"⟩, 9) := ⟨⟨by decide +kernel, by decide +kernel⟩, List.mem_of_getElem? (i := 234) (by decide +kernel), List.mem_of_getElem? (i := 537) (by decide +kernel), List.mem_of_getElem? (i := 538) (by decide +kernel)⟩
theorem lw_p11 : lw_okq (⟨"GlacierMail", "outIn", "(IZ)I"⟩, 18) := ⟨⟨by decide +kernel, by decide +kernel⟩, List.mem_of_getElem? (i := 31) (by decide +kernel), List.mem_of_getElem? (i := 555) (by decide +kernel), List.mem_of_getElem? (i := 556) (by decide +kernel)⟩
theorem lw_p12 : lw_okq (⟨"GlacierMail", "allToldApart", "(I)Z"⟩, 18) := ⟨⟨by decide +kernel, by decide +kernel⟩, List.mem_of_getElem? (i := 31) (by decide +kernel), List.mem_of_getElem? (i := 570) (by decide +kernel), List.mem_of_getElem? (i := 571) (by decide +kernel)⟩
theorem lw_p13 : lw_okq (⟨"GlacierMail", "toldApart", "(III)Z"⟩, 18) := ⟨⟨by decide +kernel, by decide +kernel⟩, List.mem_of_getElem? (i := 31) (by decide +kernel), List.mem_of_getElem? (i := 574) (by decide +kernel), List.mem_of_getElem? (i := 575) (by decide +kernel)⟩
theorem lw_p14 : lw_okq (⟨"GlacierMail", "outAheadOf", "(I)I"⟩, 18) := ⟨⟨by decide +kernel, by decide +kernel⟩, List.mem_of_getElem? (i := 31) (by decide +kernel), List.mem_of_getElem? (i := 582) (by decide +kernel), List.mem_of_getElem? (i := 583) (by decide +kernel)⟩
theorem lw_p15 : lw_okq (⟨"GlacierMail", "forgetWays", "()V"⟩, 18) := ⟨⟨by decide +kernel, by decide +kernel⟩, List.mem_of_getElem? (i := 31) (by decide +kernel), List.mem_of_getElem? (i := 614) (by decide +kernel), List.mem_of_getElem? (i := 615) (by decide +kernel)⟩
def lw_privs_1 : List (MethodName × Nat) := [(⟨"GlacierMail$Ice", "reckonHeats", "()V"⟩, 7), (⟨"GlacierMail$Ice", "reckonSpeeds", "()V"⟩, 7), (⟨"GlacierMail$Ice", "reckonFloods", "()V"⟩, 7), (⟨"GlacierMail", "putNumber", "(I)V"⟩, 18), (⟨"GlacierMail", "reckonEnds", "()V"⟩, 18), (⟨"GlacierMail$Way", "deepAfter", "()I"⟩, 9), (⟨"GlacierMail$Ice", "recalledFlow", "(I)I"⟩, 7), (⟨"GlacierMail$Ice", "setFacts", "(IIII)V"⟩, 7), (⟨"GlacierMail$Law", "holds", "(II[I)Z"⟩, 2), (⟨"GlacierMail$Ice", "keepFlow", "(II)V"⟩, 7), (⟨"GlacierMail$Way", "takeFloods", "()V"⟩, 9), (⟨"GlacierMail", "outIn", "(IZ)I"⟩, 18), (⟨"GlacierMail", "allToldApart", "(I)Z"⟩, 18), (⟨"GlacierMail", "toldApart", "(III)Z"⟩, 18), (⟨"GlacierMail", "outAheadOf", "(I)I"⟩, 18), (⟨"GlacierMail", "forgetWays", "()V"⟩, 18)]
theorem lw_r1 : ∀ q ∈ lw_privs_1, lw_okq q := List.forall_mem_cons.mpr ⟨lw_p0, List.forall_mem_cons.mpr ⟨lw_p1, List.forall_mem_cons.mpr ⟨lw_p2, List.forall_mem_cons.mpr ⟨lw_p3, List.forall_mem_cons.mpr ⟨lw_p4, List.forall_mem_cons.mpr ⟨lw_p5, List.forall_mem_cons.mpr ⟨lw_p6, List.forall_mem_cons.mpr ⟨lw_p7, List.forall_mem_cons.mpr ⟨lw_p8, List.forall_mem_cons.mpr ⟨lw_p9, List.forall_mem_cons.mpr ⟨lw_p10, List.forall_mem_cons.mpr ⟨lw_p11, List.forall_mem_cons.mpr ⟨lw_p12, List.forall_mem_cons.mpr ⟨lw_p13, List.forall_mem_cons.mpr ⟨lw_p14, List.forall_mem_cons.mpr ⟨lw_p15, fun _ h => absurd h List.not_mem_nil⟩⟩⟩⟩⟩⟩⟩⟩⟩⟩⟩⟩⟩⟩⟩⟩
theorem lw_p16 : lw_okq (⟨"GlacierMail", "lawLines", "()I"⟩, 18) := ⟨⟨by decide +kernel, by decide +kernel⟩, List.mem_of_getElem? (i := 31) (by decide +kernel), List.mem_of_getElem? (i := 627) (by decide +kernel), List.mem_of_getElem? (i := 628) (by decide +kernel)⟩
theorem lw_p17 : lw_okq (⟨"GlacierMail", "waiting", "(I)I"⟩, 18) := ⟨⟨by decide +kernel, by decide +kernel⟩, List.mem_of_getElem? (i := 31) (by decide +kernel), List.mem_of_getElem? (i := 631) (by decide +kernel), List.mem_of_getElem? (i := 632) (by decide +kernel)⟩
theorem lw_p18 : lw_okq (⟨"GlacierMail", "waits", "(I)Z"⟩, 18) := ⟨⟨by decide +kernel, by decide +kernel⟩, List.mem_of_getElem? (i := 31) (by decide +kernel), List.mem_of_getElem? (i := 635) (by decide +kernel), List.mem_of_getElem? (i := 636) (by decide +kernel)⟩
theorem lw_p19 : lw_okq (⟨"GlacierMail", "isOutBy", "(II)Z"⟩, 18) := ⟨⟨by decide +kernel, by decide +kernel⟩, List.mem_of_getElem? (i := 31) (by decide +kernel), List.mem_of_getElem? (i := 639) (by decide +kernel), List.mem_of_getElem? (i := 640) (by decide +kernel)⟩
theorem lw_p20 : lw_okq (⟨"GlacierMail", "inIceNow", "()I"⟩, 18) := ⟨⟨by decide +kernel, by decide +kernel⟩, List.mem_of_getElem? (i := 31) (by decide +kernel), List.mem_of_getElem? (i := 643) (by decide +kernel), List.mem_of_getElem? (i := 644) (by decide +kernel)⟩
theorem lw_p21 : lw_okq (⟨"GlacierMail$LawReader", "readKind", "()I"⟩, 5) := ⟨⟨by decide +kernel, by decide +kernel⟩, List.mem_of_getElem? (i := 350) (by decide +kernel), List.mem_of_getElem? (i := 697) (by decide +kernel), List.mem_of_getElem? (i := 698) (by decide +kernel)⟩
theorem lw_p22 : lw_okq (⟨"GlacierMail$LawReader", "readCondition", "(I)Z"⟩, 5) := ⟨⟨by decide +kernel, by decide +kernel⟩, List.mem_of_getElem? (i := 350) (by decide +kernel), List.mem_of_getElem? (i := 772) (by decide +kernel), List.mem_of_getElem? (i := 773) (by decide +kernel)⟩
theorem lw_p23 : lw_okq (⟨"GlacierMail$LawReader", "readAtom", "(I)Z"⟩, 5) := ⟨⟨by decide +kernel, by decide +kernel⟩, List.mem_of_getElem? (i := 350) (by decide +kernel), List.mem_of_getElem? (i := 776) (by decide +kernel), List.mem_of_getElem? (i := 777) (by decide +kernel)⟩
theorem lw_p24 : lw_okq (⟨"GlacierMail$LawReader", "put", "(I)V"⟩, 5) := ⟨⟨by decide +kernel, by decide +kernel⟩, List.mem_of_getElem? (i := 350) (by decide +kernel), List.mem_of_getElem? (i := 785) (by decide +kernel), List.mem_of_getElem? (i := 786) (by decide +kernel)⟩
theorem lw_p25 : lw_okq (⟨"GlacierMail$LawReader", "readSum", "()Z"⟩, 5) := ⟨⟨by decide +kernel, by decide +kernel⟩, List.mem_of_getElem? (i := 350) (by decide +kernel), List.mem_of_getElem? (i := 791) (by decide +kernel), List.mem_of_getElem? (i := 792) (by decide +kernel)⟩
theorem lw_p26 : lw_okq (⟨"GlacierMail$LawReader", "factCode", "()I"⟩, 5) := ⟨⟨by decide +kernel, by decide +kernel⟩, List.mem_of_getElem? (i := 350) (by decide +kernel), List.mem_of_getElem? (i := 795) (by decide +kernel), List.mem_of_getElem? (i := 796) (by decide +kernel)⟩
theorem lw_p27 : lw_okq (⟨"GlacierMail$ValleyReader", "readLanes", "()Z"⟩, 3) := ⟨⟨by decide +kernel, by decide +kernel⟩, List.mem_of_getElem? (i := 293) (by decide +kernel), List.mem_of_getElem? (i := 819) (by decide +kernel), List.mem_of_getElem? (i := 820) (by decide +kernel)⟩
theorem lw_p28 : lw_okq (⟨"GlacierMail$ValleyReader", "readLast", "()Z"⟩, 3) := ⟨⟨by decide +kernel, by decide +kernel⟩, List.mem_of_getElem? (i := 293) (by decide +kernel), List.mem_of_getElem? (i := 832) (by decide +kernel), List.mem_of_getElem? (i := 833) (by decide +kernel)⟩
theorem lw_p29 : lw_okq (⟨"GlacierMail$ValleyReader", "readSection", "()Z"⟩, 3) := ⟨⟨by decide +kernel, by decide +kernel⟩, List.mem_of_getElem? (i := 293) (by decide +kernel), List.mem_of_getElem? (i := 837) (by decide +kernel), List.mem_of_getElem? (i := 838) (by decide +kernel)⟩
theorem lw_p30 : lw_okq (⟨"GlacierMail$ValleyReader", "readSpeeds", "(LGlacierMail$Rows;II)Z"⟩, 3) := ⟨⟨by decide +kernel, by decide +kernel⟩, List.mem_of_getElem? (i := 293) (by decide +kernel), List.mem_of_getElem? (i := 849) (by decide +kernel), List.mem_of_getElem? (i := 850) (by decide +kernel)⟩
theorem lw_p31 : lw_okq (⟨"GlacierMail$ValleyReader", "readSnow", "()Z"⟩, 3) := ⟨⟨by decide +kernel, by decide +kernel⟩, List.mem_of_getElem? (i := 293) (by decide +kernel), List.mem_of_getElem? (i := 854) (by decide +kernel), List.mem_of_getElem? (i := 855) (by decide +kernel)⟩
def lw_privs_2 : List (MethodName × Nat) := [(⟨"GlacierMail", "lawLines", "()I"⟩, 18), (⟨"GlacierMail", "waiting", "(I)I"⟩, 18), (⟨"GlacierMail", "waits", "(I)Z"⟩, 18), (⟨"GlacierMail", "isOutBy", "(II)Z"⟩, 18), (⟨"GlacierMail", "inIceNow", "()I"⟩, 18), (⟨"GlacierMail$LawReader", "readKind", "()I"⟩, 5), (⟨"GlacierMail$LawReader", "readCondition", "(I)Z"⟩, 5), (⟨"GlacierMail$LawReader", "readAtom", "(I)Z"⟩, 5), (⟨"GlacierMail$LawReader", "put", "(I)V"⟩, 5), (⟨"GlacierMail$LawReader", "readSum", "()Z"⟩, 5), (⟨"GlacierMail$LawReader", "factCode", "()I"⟩, 5), (⟨"GlacierMail$ValleyReader", "readLanes", "()Z"⟩, 3), (⟨"GlacierMail$ValleyReader", "readLast", "()Z"⟩, 3), (⟨"GlacierMail$ValleyReader", "readSection", "()Z"⟩, 3), (⟨"GlacierMail$ValleyReader", "readSpeeds", "(LGlacierMail$Rows;II)Z"⟩, 3), (⟨"GlacierMail$ValleyReader", "readSnow", "()Z"⟩, 3)]
theorem lw_r2 : ∀ q ∈ lw_privs_2, lw_okq q := List.forall_mem_cons.mpr ⟨lw_p16, List.forall_mem_cons.mpr ⟨lw_p17, List.forall_mem_cons.mpr ⟨lw_p18, List.forall_mem_cons.mpr ⟨lw_p19, List.forall_mem_cons.mpr ⟨lw_p20, List.forall_mem_cons.mpr ⟨lw_p21, List.forall_mem_cons.mpr ⟨lw_p22, List.forall_mem_cons.mpr ⟨lw_p23, List.forall_mem_cons.mpr ⟨lw_p24, List.forall_mem_cons.mpr ⟨lw_p25, List.forall_mem_cons.mpr ⟨lw_p26, List.forall_mem_cons.mpr ⟨lw_p27, List.forall_mem_cons.mpr ⟨lw_p28, List.forall_mem_cons.mpr ⟨lw_p29, List.forall_mem_cons.mpr ⟨lw_p30, List.forall_mem_cons.mpr ⟨lw_p31, fun _ h => absurd h List.not_mem_nil⟩⟩⟩⟩⟩⟩⟩⟩⟩⟩⟩⟩⟩⟩⟩⟩
theorem lw_p32 : lw_okq (⟨"GlacierMail$ValleyReader", "readRow", "()I"⟩, 3) := ⟨⟨by decide +kernel, by decide +kernel⟩, List.mem_of_getElem? (i := 293) (by decide +kernel), List.mem_of_getElem? (i := 858) (by decide +kernel), List.mem_of_getElem? (i := 859) (by decide +kernel)⟩
theorem lw_p33 : lw_okq (⟨"GlacierMail$ValleyReader", "readStripe", "()Z"⟩, 3) := ⟨⟨by decide +kernel, by decide +kernel⟩, List.mem_of_getElem? (i := 293) (by decide +kernel), List.mem_of_getElem? (i := 869) (by decide +kernel), List.mem_of_getElem? (i := 870) (by decide +kernel)⟩
theorem lw_p34 : lw_okq (⟨"GlacierMail$ValleyReader", "readSeed", "()Z"⟩, 3) := ⟨⟨by decide +kernel, by decide +kernel⟩, List.mem_of_getElem? (i := 293) (by decide +kernel), List.mem_of_getElem? (i := 874) (by decide +kernel), List.mem_of_getElem? (i := 875) (by decide +kernel)⟩
theorem lw_p35 : lw_okq (⟨"GlacierMail$ValleyReader", "readFlood", "()Z"⟩, 3) := ⟨⟨by decide +kernel, by decide +kernel⟩, List.mem_of_getElem? (i := 293) (by decide +kernel), List.mem_of_getElem? (i := 879) (by decide +kernel), List.mem_of_getElem? (i := 880) (by decide +kernel)⟩
theorem lw_p36 : lw_okq (⟨"GlacierMail$ValleyReader", "readPerson", "()Z"⟩, 3) := ⟨⟨by decide +kernel, by decide +kernel⟩, List.mem_of_getElem? (i := 293) (by decide +kernel), List.mem_of_getElem? (i := 884) (by decide +kernel), List.mem_of_getElem? (i := 885) (by decide +kernel)⟩
theorem lw_p37 : lw_okq (⟨"GlacierMail$ValleyReader", "readLane", "()I"⟩, 3) := ⟨⟨by decide +kernel, by decide +kernel⟩, List.mem_of_getElem? (i := 293) (by decide +kernel), List.mem_of_getElem? (i := 888) (by decide +kernel), List.mem_of_getElem? (i := 889) (by decide +kernel)⟩
theorem lw_p38 : lw_okq (⟨"GlacierMail$ValleyReader", "readRock", "()Z"⟩, 3) := ⟨⟨by decide +kernel, by decide +kernel⟩, List.mem_of_getElem? (i := 293) (by decide +kernel), List.mem_of_getElem? (i := 895) (by decide +kernel), List.mem_of_getElem? (i := 896) (by decide +kernel)⟩
theorem lw_p39 : lw_okq (⟨"GlacierMail$ValleyReader", "readTable", "()Z"⟩, 3) := ⟨⟨by decide +kernel, by decide +kernel⟩, List.mem_of_getElem? (i := 293) (by decide +kernel), List.mem_of_getElem? (i := 906) (by decide +kernel), List.mem_of_getElem? (i := 907) (by decide +kernel)⟩
theorem lw_p40 : lw_okq (⟨"java/lang/Throwable", "fillInStackTrace", "(I)Ljava/lang/Throwable;"⟩, 6) := ⟨⟨by decide +kernel, by decide +kernel⟩, List.mem_of_getElem? (i := 956) (by decide +kernel), List.mem_of_getElem? (i := 954) (by decide +kernel), List.mem_of_getElem? (i := 955) (by decide +kernel)⟩
theorem lw_p41 : lw_okq (⟨"GlacierMail", "needYear", "(I)V"⟩, 18) := ⟨⟨by decide +kernel, by decide +kernel⟩, List.mem_of_getElem? (i := 31) (by decide +kernel), List.mem_of_getElem? (i := 1051) (by decide +kernel), List.mem_of_getElem? (i := 1052) (by decide +kernel)⟩
theorem lw_p42 : lw_okq (⟨"GlacierMail", "needLane", "(I)V"⟩, 18) := ⟨⟨by decide +kernel, by decide +kernel⟩, List.mem_of_getElem? (i := 31) (by decide +kernel), List.mem_of_getElem? (i := 1065) (by decide +kernel), List.mem_of_getElem? (i := 1066) (by decide +kernel)⟩
theorem lw_p43 : lw_okq (⟨"GlacierMail", "need", "(II)V"⟩, 18) := ⟨⟨by decide +kernel, by decide +kernel⟩, List.mem_of_getElem? (i := 31) (by decide +kernel), List.mem_of_getElem? (i := 1069) (by decide +kernel), List.mem_of_getElem? (i := 1070) (by decide +kernel)⟩
theorem lw_p44 : lw_okq (⟨"GlacierMail", "needRow", "(I)V"⟩, 18) := ⟨⟨by decide +kernel, by decide +kernel⟩, List.mem_of_getElem? (i := 31) (by decide +kernel), List.mem_of_getElem? (i := 1089) (by decide +kernel), List.mem_of_getElem? (i := 1090) (by decide +kernel)⟩
theorem lw_p45 : lw_okq (⟨"GlacierMail", "needPerson", "(I)V"⟩, 18) := ⟨⟨by decide +kernel, by decide +kernel⟩, List.mem_of_getElem? (i := 31) (by decide +kernel), List.mem_of_getElem? (i := 1110) (by decide +kernel), List.mem_of_getElem? (i := 1111) (by decide +kernel)⟩
theorem lw_p46 : lw_okq (⟨"GlacierMail", "lettersWith", "(II)I"⟩, 18) := ⟨⟨by decide +kernel, by decide +kernel⟩, List.mem_of_getElem? (i := 31) (by decide +kernel), List.mem_of_getElem? (i := 1114) (by decide +kernel), List.mem_of_getElem? (i := 1115) (by decide +kernel)⟩
theorem lw_p47 : lw_okq (⟨"GlacierMail", "needLetter", "(I)V"⟩, 18) := ⟨⟨by decide +kernel, by decide +kernel⟩, List.mem_of_getElem? (i := 31) (by decide +kernel), List.mem_of_getElem? (i := 1141) (by decide +kernel), List.mem_of_getElem? (i := 1142) (by decide +kernel)⟩
def lw_privs_3 : List (MethodName × Nat) := [(⟨"GlacierMail$ValleyReader", "readRow", "()I"⟩, 3), (⟨"GlacierMail$ValleyReader", "readStripe", "()Z"⟩, 3), (⟨"GlacierMail$ValleyReader", "readSeed", "()Z"⟩, 3), (⟨"GlacierMail$ValleyReader", "readFlood", "()Z"⟩, 3), (⟨"GlacierMail$ValleyReader", "readPerson", "()Z"⟩, 3), (⟨"GlacierMail$ValleyReader", "readLane", "()I"⟩, 3), (⟨"GlacierMail$ValleyReader", "readRock", "()Z"⟩, 3), (⟨"GlacierMail$ValleyReader", "readTable", "()Z"⟩, 3), (⟨"java/lang/Throwable", "fillInStackTrace", "(I)Ljava/lang/Throwable;"⟩, 6), (⟨"GlacierMail", "needYear", "(I)V"⟩, 18), (⟨"GlacierMail", "needLane", "(I)V"⟩, 18), (⟨"GlacierMail", "need", "(II)V"⟩, 18), (⟨"GlacierMail", "needRow", "(I)V"⟩, 18), (⟨"GlacierMail", "needPerson", "(I)V"⟩, 18), (⟨"GlacierMail", "lettersWith", "(II)I"⟩, 18), (⟨"GlacierMail", "needLetter", "(I)V"⟩, 18)]
theorem lw_r3 : ∀ q ∈ lw_privs_3, lw_okq q := List.forall_mem_cons.mpr ⟨lw_p32, List.forall_mem_cons.mpr ⟨lw_p33, List.forall_mem_cons.mpr ⟨lw_p34, List.forall_mem_cons.mpr ⟨lw_p35, List.forall_mem_cons.mpr ⟨lw_p36, List.forall_mem_cons.mpr ⟨lw_p37, List.forall_mem_cons.mpr ⟨lw_p38, List.forall_mem_cons.mpr ⟨lw_p39, List.forall_mem_cons.mpr ⟨lw_p40, List.forall_mem_cons.mpr ⟨lw_p41, List.forall_mem_cons.mpr ⟨lw_p42, List.forall_mem_cons.mpr ⟨lw_p43, List.forall_mem_cons.mpr ⟨lw_p44, List.forall_mem_cons.mpr ⟨lw_p45, List.forall_mem_cons.mpr ⟨lw_p46, List.forall_mem_cons.mpr ⟨lw_p47, fun _ h => absurd h List.not_mem_nil⟩⟩⟩⟩⟩⟩⟩⟩⟩⟩⟩⟩⟩⟩⟩⟩
theorem lw_p48 : lw_okq (⟨"GlacierMail", "outOf", "(I)I"⟩, 18) := ⟨⟨by decide +kernel, by decide +kernel⟩, List.mem_of_getElem? (i := 31) (by decide +kernel), List.mem_of_getElem? (i := 1145) (by decide +kernel), List.mem_of_getElem? (i := 1146) (by decide +kernel)⟩
theorem lw_p49 : lw_okq (⟨"GlacierMail", "firstBare", "(I)I"⟩, 18) := ⟨⟨by decide +kernel, by decide +kernel⟩, List.mem_of_getElem? (i := 31) (by decide +kernel), List.mem_of_getElem? (i := 1149) (by decide +kernel), List.mem_of_getElem? (i := 1150) (by decide +kernel)⟩
theorem lw_p50 : lw_okq (⟨"GlacierMail", "needUnlike", "(II)V"⟩, 18) := ⟨⟨by decide +kernel, by decide +kernel⟩, List.mem_of_getElem? (i := 31) (by decide +kernel), List.mem_of_getElem? (i := 1182) (by decide +kernel), List.mem_of_getElem? (i := 1183) (by decide +kernel)⟩
theorem lw_p51 : lw_okq (⟨"GlacierMail", "oneYearMore", "()I"⟩, 18) := ⟨⟨by decide +kernel, by decide +kernel⟩, List.mem_of_getElem? (i := 31) (by decide +kernel), List.mem_of_getElem? (i := 1238) (by decide +kernel), List.mem_of_getElem? (i := 1239) (by decide +kernel)⟩
theorem lw_p52 : lw_okq (⟨"GlacierMail", "openerOf", "(I)I"⟩, 18) := ⟨⟨by decide +kernel, by decide +kernel⟩, List.mem_of_getElem? (i := 31) (by decide +kernel), List.mem_of_getElem? (i := 1242) (by decide +kernel), List.mem_of_getElem? (i := 1243) (by decide +kernel)⟩
theorem lw_p53 : lw_okq (⟨"GlacierMail", "sameLane", "(II)Z"⟩, 18) := ⟨⟨by decide +kernel, by decide +kernel⟩, List.mem_of_getElem? (i := 31) (by decide +kernel), List.mem_of_getElem? (i := 1308) (by decide +kernel), List.mem_of_getElem? (i := 1309) (by decide +kernel)⟩
theorem lw_p54 : lw_okq (⟨"GlacierMail", "passesBy", "(II)Z"⟩, 18) := ⟨⟨by decide +kernel, by decide +kernel⟩, List.mem_of_getElem? (i := 31) (by decide +kernel), List.mem_of_getElem? (i := 1312) (by decide +kernel), List.mem_of_getElem? (i := 1313) (by decide +kernel)⟩
theorem lw_p55 : lw_okq (⟨"GlacierMail", "startBoth", "(III)I"⟩, 18) := ⟨⟨by decide +kernel, by decide +kernel⟩, List.mem_of_getElem? (i := 31) (by decide +kernel), List.mem_of_getElem? (i := 1316) (by decide +kernel), List.mem_of_getElem? (i := 1317) (by decide +kernel)⟩
theorem lw_p56 : lw_okq (⟨"GlacierMail", "bothInIce", "()Z"⟩, 18) := ⟨⟨by decide +kernel, by decide +kernel⟩, List.mem_of_getElem? (i := 31) (by decide +kernel), List.mem_of_getElem? (i := 1321) (by decide +kernel), List.mem_of_getElem? (i := 1322) (by decide +kernel)⟩
theorem lw_p57 : lw_okq (⟨"GlacierMail", "stepBoth", "()V"⟩, 18) := ⟨⟨by decide +kernel, by decide +kernel⟩, List.mem_of_getElem? (i := 31) (by decide +kernel), List.mem_of_getElem? (i := 1325) (by decide +kernel), List.mem_of_getElem? (i := 1326) (by decide +kernel)⟩
theorem lw_p58 : lw_okq (⟨"GlacierMail", "needFind", "(II)V"⟩, 18) := ⟨⟨by decide +kernel, by decide +kernel⟩, List.mem_of_getElem? (i := 31) (by decide +kernel), List.mem_of_getElem? (i := 1336) (by decide +kernel), List.mem_of_getElem? (i := 1337) (by decide +kernel)⟩
theorem lw_p59 : lw_okq (⟨"GlacierMail", "latestWriting", "(IIII)I"⟩, 18) := ⟨⟨by decide +kernel, by decide +kernel⟩, List.mem_of_getElem? (i := 31) (by decide +kernel), List.mem_of_getElem? (i := 1341) (by decide +kernel), List.mem_of_getElem? (i := 1342) (by decide +kernel)⟩
theorem lw_p60 : lw_okq (⟨"GlacierMail", "needTable", "(I)V"⟩, 18) := ⟨⟨by decide +kernel, by decide +kernel⟩, List.mem_of_getElem? (i := 31) (by decide +kernel), List.mem_of_getElem? (i := 1359) (by decide +kernel), List.mem_of_getElem? (i := 1360) (by decide +kernel)⟩
theorem lw_p61 : lw_okq (⟨"GlacierMail", "areReadings", "(I)Z"⟩, 18) := ⟨⟨by decide +kernel, by decide +kernel⟩, List.mem_of_getElem? (i := 31) (by decide +kernel), List.mem_of_getElem? (i := 1377) (by decide +kernel), List.mem_of_getElem? (i := 1378) (by decide +kernel)⟩
theorem lw_p62 : lw_okq (⟨"GlacierMail", "fitsReadings", "(II)Z"⟩, 18) := ⟨⟨by decide +kernel, by decide +kernel⟩, List.mem_of_getElem? (i := 31) (by decide +kernel), List.mem_of_getElem? (i := 1382) (by decide +kernel), List.mem_of_getElem? (i := 1383) (by decide +kernel)⟩
theorem lw_p63 : lw_okq (⟨"GlacierMail$Answers", "throwAgain", "(IIII)V"⟩, 4) := ⟨⟨by decide +kernel, by decide +kernel⟩, List.mem_of_getElem? (i := 272) (by decide +kernel), List.mem_of_getElem? (i := 1399) (by decide +kernel), List.mem_of_getElem? (i := 1400) (by decide +kernel)⟩
def lw_privs_4 : List (MethodName × Nat) := [(⟨"GlacierMail", "outOf", "(I)I"⟩, 18), (⟨"GlacierMail", "firstBare", "(I)I"⟩, 18), (⟨"GlacierMail", "needUnlike", "(II)V"⟩, 18), (⟨"GlacierMail", "oneYearMore", "()I"⟩, 18), (⟨"GlacierMail", "openerOf", "(I)I"⟩, 18), (⟨"GlacierMail", "sameLane", "(II)Z"⟩, 18), (⟨"GlacierMail", "passesBy", "(II)Z"⟩, 18), (⟨"GlacierMail", "startBoth", "(III)I"⟩, 18), (⟨"GlacierMail", "bothInIce", "()Z"⟩, 18), (⟨"GlacierMail", "stepBoth", "()V"⟩, 18), (⟨"GlacierMail", "needFind", "(II)V"⟩, 18), (⟨"GlacierMail", "latestWriting", "(IIII)I"⟩, 18), (⟨"GlacierMail", "needTable", "(I)V"⟩, 18), (⟨"GlacierMail", "areReadings", "(I)Z"⟩, 18), (⟨"GlacierMail", "fitsReadings", "(II)Z"⟩, 18), (⟨"GlacierMail$Answers", "throwAgain", "(IIII)V"⟩, 4)]
theorem lw_r4 : ∀ q ∈ lw_privs_4, lw_okq q := List.forall_mem_cons.mpr ⟨lw_p48, List.forall_mem_cons.mpr ⟨lw_p49, List.forall_mem_cons.mpr ⟨lw_p50, List.forall_mem_cons.mpr ⟨lw_p51, List.forall_mem_cons.mpr ⟨lw_p52, List.forall_mem_cons.mpr ⟨lw_p53, List.forall_mem_cons.mpr ⟨lw_p54, List.forall_mem_cons.mpr ⟨lw_p55, List.forall_mem_cons.mpr ⟨lw_p56, List.forall_mem_cons.mpr ⟨lw_p57, List.forall_mem_cons.mpr ⟨lw_p58, List.forall_mem_cons.mpr ⟨lw_p59, List.forall_mem_cons.mpr ⟨lw_p60, List.forall_mem_cons.mpr ⟨lw_p61, List.forall_mem_cons.mpr ⟨lw_p62, List.forall_mem_cons.mpr ⟨lw_p63, fun _ h => absurd h List.not_mem_nil⟩⟩⟩⟩⟩⟩⟩⟩⟩⟩⟩⟩⟩⟩⟩⟩
theorem lw_p64 : lw_okq (⟨"GlacierMail$Answers", "throwAhead", "(III)I"⟩, 4) := ⟨⟨by decide +kernel, by decide +kernel⟩, List.mem_of_getElem? (i := 272) (by decide +kernel), List.mem_of_getElem? (i := 1429) (by decide +kernel), List.mem_of_getElem? (i := 1430) (by decide +kernel)⟩
theorem lw_p65 : lw_okq (⟨"GlacierMail", "needThiefYears", "(I)V"⟩, 18) := ⟨⟨by decide +kernel, by decide +kernel⟩, List.mem_of_getElem? (i := 31) (by decide +kernel), List.mem_of_getElem? (i := 1447) (by decide +kernel), List.mem_of_getElem? (i := 1448) (by decide +kernel)⟩
theorem lw_p66 : lw_okq (⟨"GlacierMail", "reckonCame", "(I)V"⟩, 18) := ⟨⟨by decide +kernel, by decide +kernel⟩, List.mem_of_getElem? (i := 31) (by decide +kernel), List.mem_of_getElem? (i := 1451) (by decide +kernel), List.mem_of_getElem? (i := 1452) (by decide +kernel)⟩
theorem lw_p67 : lw_okq (⟨"GlacierMail", "bestNext", "(II)I"⟩, 18) := ⟨⟨by decide +kernel, by decide +kernel⟩, List.mem_of_getElem? (i := 31) (by decide +kernel), List.mem_of_getElem? (i := 1455) (by decide +kernel), List.mem_of_getElem? (i := 1456) (by decide +kernel)⟩
theorem lw_p68 : lw_okq (⟨"GlacierMail", "mostBeside", "(II)I"⟩, 18) := ⟨⟨by decide +kernel, by decide +kernel⟩, List.mem_of_getElem? (i := 31) (by decide +kernel), List.mem_of_getElem? (i := 1466) (by decide +kernel), List.mem_of_getElem? (i := 1467) (by decide +kernel)⟩
theorem lw_p69 : lw_okq (⟨"GlacierMailModel", "warms", "()V"⟩, 39) := ⟨⟨by decide +kernel, by decide +kernel⟩, List.mem_of_getElem? (i := 1524) (by decide +kernel), List.mem_of_getElem? (i := 1530) (by decide +kernel), List.mem_of_getElem? (i := 1531) (by decide +kernel)⟩
theorem lw_p70 : lw_okq (⟨"GlacierMailModel", "readAll", "(Z)I"⟩, 39) := ⟨⟨by decide +kernel, by decide +kernel⟩, List.mem_of_getElem? (i := 1524) (by decide +kernel), List.mem_of_getElem? (i := 1681) (by decide +kernel), List.mem_of_getElem? (i := 1682) (by decide +kernel)⟩
theorem lw_p71 : lw_okq (⟨"GlacierMailModel", "uses", "()V"⟩, 39) := ⟨⟨by decide +kernel, by decide +kernel⟩, List.mem_of_getElem? (i := 1524) (by decide +kernel), List.mem_of_getElem? (i := 1685) (by decide +kernel), List.mem_of_getElem? (i := 1686) (by decide +kernel)⟩
theorem lw_p72 : lw_okq (⟨"GlacierMailModel", "blanks", "()V"⟩, 39) := ⟨⟨by decide +kernel, by decide +kernel⟩, List.mem_of_getElem? (i := 1524) (by decide +kernel), List.mem_of_getElem? (i := 1689) (by decide +kernel), List.mem_of_getElem? (i := 1690) (by decide +kernel)⟩
theorem lw_p73 : lw_okq (⟨"GlacierMailModel", "isAt", "(II)Z"⟩, 39) := ⟨⟨by decide +kernel, by decide +kernel⟩, List.mem_of_getElem? (i := 1524) (by decide +kernel), List.mem_of_getElem? (i := 1693) (by decide +kernel), List.mem_of_getElem? (i := 1694) (by decide +kernel)⟩
theorem lw_p74 : lw_okq (⟨"GlacierMailModel", "readLine", "(ZI)Z"⟩, 39) := ⟨⟨by decide +kernel, by decide +kernel⟩, List.mem_of_getElem? (i := 1524) (by decide +kernel), List.mem_of_getElem? (i := 1697) (by decide +kernel), List.mem_of_getElem? (i := 1698) (by decide +kernel)⟩
theorem lw_p75 : lw_okq (⟨"GlacierMailModel", "letterRow", "()V"⟩, 39) := ⟨⟨by decide +kernel, by decide +kernel⟩, List.mem_of_getElem? (i := 1524) (by decide +kernel), List.mem_of_getElem? (i := 1701) (by decide +kernel), List.mem_of_getElem? (i := 1702) (by decide +kernel)⟩
theorem lw_p76 : lw_okq (⟨"GlacierMailModel", "readValleyLine", "()Z"⟩, 39) := ⟨⟨by decide +kernel, by decide +kernel⟩, List.mem_of_getElem? (i := 1524) (by decide +kernel), List.mem_of_getElem? (i := 1705) (by decide +kernel), List.mem_of_getElem? (i := 1706) (by decide +kernel)⟩
theorem lw_p77 : lw_okq (⟨"GlacierMailModel", "isWord", "(Ljava/lang/String;)Z"⟩, 39) := ⟨⟨by decide +kernel, by decide +kernel⟩, List.mem_of_getElem? (i := 1524) (by decide +kernel), List.mem_of_getElem? (i := 1710) (by decide +kernel), List.mem_of_getElem? (i := 1711) (by decide +kernel)⟩
theorem lw_p78 : lw_okq (⟨"GlacierMailModel", "readLanes", "()Z"⟩, 39) := ⟨⟨by decide +kernel, by decide +kernel⟩, List.mem_of_getElem? (i := 1524) (by decide +kernel), List.mem_of_getElem? (i := 1716) (by decide +kernel), List.mem_of_getElem? (i := 1717) (by decide +kernel)⟩
theorem lw_p79 : lw_okq (⟨"GlacierMailModel", "isEmpty", "()Z"⟩, 39) := ⟨⟨by decide +kernel, by decide +kernel⟩, List.mem_of_getElem? (i := 1524) (by decide +kernel), List.mem_of_getElem? (i := 1720) (by decide +kernel), List.mem_of_getElem? (i := 1721) (by decide +kernel)⟩
def lw_privs_5 : List (MethodName × Nat) := [(⟨"GlacierMail$Answers", "throwAhead", "(III)I"⟩, 4), (⟨"GlacierMail", "needThiefYears", "(I)V"⟩, 18), (⟨"GlacierMail", "reckonCame", "(I)V"⟩, 18), (⟨"GlacierMail", "bestNext", "(II)I"⟩, 18), (⟨"GlacierMail", "mostBeside", "(II)I"⟩, 18), (⟨"GlacierMailModel", "warms", "()V"⟩, 39), (⟨"GlacierMailModel", "readAll", "(Z)I"⟩, 39), (⟨"GlacierMailModel", "uses", "()V"⟩, 39), (⟨"GlacierMailModel", "blanks", "()V"⟩, 39), (⟨"GlacierMailModel", "isAt", "(II)Z"⟩, 39), (⟨"GlacierMailModel", "readLine", "(ZI)Z"⟩, 39), (⟨"GlacierMailModel", "letterRow", "()V"⟩, 39), (⟨"GlacierMailModel", "readValleyLine", "()Z"⟩, 39), (⟨"GlacierMailModel", "isWord", "(Ljava/lang/String;)Z"⟩, 39), (⟨"GlacierMailModel", "readLanes", "()Z"⟩, 39), (⟨"GlacierMailModel", "isEmpty", "()Z"⟩, 39)]
theorem lw_r5 : ∀ q ∈ lw_privs_5, lw_okq q := List.forall_mem_cons.mpr ⟨lw_p64, List.forall_mem_cons.mpr ⟨lw_p65, List.forall_mem_cons.mpr ⟨lw_p66, List.forall_mem_cons.mpr ⟨lw_p67, List.forall_mem_cons.mpr ⟨lw_p68, List.forall_mem_cons.mpr ⟨lw_p69, List.forall_mem_cons.mpr ⟨lw_p70, List.forall_mem_cons.mpr ⟨lw_p71, List.forall_mem_cons.mpr ⟨lw_p72, List.forall_mem_cons.mpr ⟨lw_p73, List.forall_mem_cons.mpr ⟨lw_p74, List.forall_mem_cons.mpr ⟨lw_p75, List.forall_mem_cons.mpr ⟨lw_p76, List.forall_mem_cons.mpr ⟨lw_p77, List.forall_mem_cons.mpr ⟨lw_p78, List.forall_mem_cons.mpr ⟨lw_p79, fun _ h => absurd h List.not_mem_nil⟩⟩⟩⟩⟩⟩⟩⟩⟩⟩⟩⟩⟩⟩⟩⟩
theorem lw_p80 : lw_okq (⟨"GlacierMailModel", "people", "()I"⟩, 39) := ⟨⟨by decide +kernel, by decide +kernel⟩, List.mem_of_getElem? (i := 1524) (by decide +kernel), List.mem_of_getElem? (i := 1724) (by decide +kernel), List.mem_of_getElem? (i := 1725) (by decide +kernel)⟩
theorem lw_p81 : lw_okq (⟨"GlacierMailModel", "letters", "()I"⟩, 39) := ⟨⟨by decide +kernel, by decide +kernel⟩, List.mem_of_getElem? (i := 1524) (by decide +kernel), List.mem_of_getElem? (i := 1728) (by decide +kernel), List.mem_of_getElem? (i := 1729) (by decide +kernel)⟩
theorem lw_p82 : lw_okq (⟨"GlacierMailModel", "number", "(II)I"⟩, 39) := ⟨⟨by decide +kernel, by decide +kernel⟩, List.mem_of_getElem? (i := 1524) (by decide +kernel), List.mem_of_getElem? (i := 1732) (by decide +kernel), List.mem_of_getElem? (i := 1733) (by decide +kernel)⟩
theorem lw_p83 : lw_okq (⟨"GlacierMailModel", "figures", "(III)I"⟩, 39) := ⟨⟨by decide +kernel, by decide +kernel⟩, List.mem_of_getElem? (i := 1524) (by decide +kernel), List.mem_of_getElem? (i := 1736) (by decide +kernel), List.mem_of_getElem? (i := 1737) (by decide +kernel)⟩
theorem lw_p84 : lw_okq (⟨"GlacierMailModel", "readLast", "()Z"⟩, 39) := ⟨⟨by decide +kernel, by decide +kernel⟩, List.mem_of_getElem? (i := 1524) (by decide +kernel), List.mem_of_getElem? (i := 1741) (by decide +kernel), List.mem_of_getElem? (i := 1742) (by decide +kernel)⟩
theorem lw_p85 : lw_okq (⟨"GlacierMailModel", "readSection", "()Z"⟩, 39) := ⟨⟨by decide +kernel, by decide +kernel⟩, List.mem_of_getElem? (i := 1524) (by decide +kernel), List.mem_of_getElem? (i := 1746) (by decide +kernel), List.mem_of_getElem? (i := 1747) (by decide +kernel)⟩
theorem lw_p86 : lw_okq (⟨"GlacierMailModel", "lip", "()I"⟩, 39) := ⟨⟨by decide +kernel, by decide +kernel⟩, List.mem_of_getElem? (i := 1524) (by decide +kernel), List.mem_of_getElem? (i := 1750) (by decide +kernel), List.mem_of_getElem? (i := 1751) (by decide +kernel)⟩
theorem lw_p87 : lw_okq (⟨"GlacierMailModel", "readSpeeds", "(I)Z"⟩, 39) := ⟨⟨by decide +kernel, by decide +kernel⟩, List.mem_of_getElem? (i := 1524) (by decide +kernel), List.mem_of_getElem? (i := 1754) (by decide +kernel), List.mem_of_getElem? (i := 1755) (by decide +kernel)⟩
theorem lw_p88 : lw_okq (⟨"GlacierMailModel", "lanes", "()I"⟩, 39) := ⟨⟨by decide +kernel, by decide +kernel⟩, List.mem_of_getElem? (i := 1524) (by decide +kernel), List.mem_of_getElem? (i := 1758) (by decide +kernel), List.mem_of_getElem? (i := 1759) (by decide +kernel)⟩
theorem lw_p89 : lw_okq (⟨"GlacierMailModel", "readSnow", "()Z"⟩, 39) := ⟨⟨by decide +kernel, by decide +kernel⟩, List.mem_of_getElem? (i := 1524) (by decide +kernel), List.mem_of_getElem? (i := 1763) (by decide +kernel), List.mem_of_getElem? (i := 1764) (by decide +kernel)⟩
theorem lw_p90 : lw_okq (⟨"GlacierMailModel", "rowTold", "()I"⟩, 39) := ⟨⟨by decide +kernel, by decide +kernel⟩, List.mem_of_getElem? (i := 1524) (by decide +kernel), List.mem_of_getElem? (i := 1767) (by decide +kernel), List.mem_of_getElem? (i := 1768) (by decide +kernel)⟩
theorem lw_p91 : lw_okq (⟨"GlacierMailModel", "after", "(Ljava/lang/String;II)I"⟩, 39) := ⟨⟨by decide +kernel, by decide +kernel⟩, List.mem_of_getElem? (i := 1524) (by decide +kernel), List.mem_of_getElem? (i := 1772) (by decide +kernel), List.mem_of_getElem? (i := 1773) (by decide +kernel)⟩
theorem lw_p92 : lw_okq (⟨"GlacierMailModel", "readFlood", "()Z"⟩, 39) := ⟨⟨by decide +kernel, by decide +kernel⟩, List.mem_of_getElem? (i := 1524) (by decide +kernel), List.mem_of_getElem? (i := 1777) (by decide +kernel), List.mem_of_getElem? (i := 1778) (by decide +kernel)⟩
theorem lw_p93 : lw_okq (⟨"GlacierMailModel", "now", "()I"⟩, 39) := ⟨⟨by decide +kernel, by decide +kernel⟩, List.mem_of_getElem? (i := 1524) (by decide +kernel), List.mem_of_getElem? (i := 1781) (by decide +kernel), List.mem_of_getElem? (i := 1782) (by decide +kernel)⟩
theorem lw_p94 : lw_okq (⟨"GlacierMailModel", "readPerson", "()Z"⟩, 39) := ⟨⟨by decide +kernel, by decide +kernel⟩, List.mem_of_getElem? (i := 1524) (by decide +kernel), List.mem_of_getElem? (i := 1786) (by decide +kernel), List.mem_of_getElem? (i := 1787) (by decide +kernel)⟩
theorem lw_p95 : lw_okq (⟨"GlacierMailModel", "laneTold", "()I"⟩, 39) := ⟨⟨by decide +kernel, by decide +kernel⟩, List.mem_of_getElem? (i := 1524) (by decide +kernel), List.mem_of_getElem? (i := 1790) (by decide +kernel), List.mem_of_getElem? (i := 1791) (by decide +kernel)⟩
def lw_privs_6 : List (MethodName × Nat) := [(⟨"GlacierMailModel", "people", "()I"⟩, 39), (⟨"GlacierMailModel", "letters", "()I"⟩, 39), (⟨"GlacierMailModel", "number", "(II)I"⟩, 39), (⟨"GlacierMailModel", "figures", "(III)I"⟩, 39), (⟨"GlacierMailModel", "readLast", "()Z"⟩, 39), (⟨"GlacierMailModel", "readSection", "()Z"⟩, 39), (⟨"GlacierMailModel", "lip", "()I"⟩, 39), (⟨"GlacierMailModel", "readSpeeds", "(I)Z"⟩, 39), (⟨"GlacierMailModel", "lanes", "()I"⟩, 39), (⟨"GlacierMailModel", "readSnow", "()Z"⟩, 39), (⟨"GlacierMailModel", "rowTold", "()I"⟩, 39), (⟨"GlacierMailModel", "after", "(Ljava/lang/String;II)I"⟩, 39), (⟨"GlacierMailModel", "readFlood", "()Z"⟩, 39), (⟨"GlacierMailModel", "now", "()I"⟩, 39), (⟨"GlacierMailModel", "readPerson", "()Z"⟩, 39), (⟨"GlacierMailModel", "laneTold", "()I"⟩, 39)]
theorem lw_r6 : ∀ q ∈ lw_privs_6, lw_okq q := List.forall_mem_cons.mpr ⟨lw_p80, List.forall_mem_cons.mpr ⟨lw_p81, List.forall_mem_cons.mpr ⟨lw_p82, List.forall_mem_cons.mpr ⟨lw_p83, List.forall_mem_cons.mpr ⟨lw_p84, List.forall_mem_cons.mpr ⟨lw_p85, List.forall_mem_cons.mpr ⟨lw_p86, List.forall_mem_cons.mpr ⟨lw_p87, List.forall_mem_cons.mpr ⟨lw_p88, List.forall_mem_cons.mpr ⟨lw_p89, List.forall_mem_cons.mpr ⟨lw_p90, List.forall_mem_cons.mpr ⟨lw_p91, List.forall_mem_cons.mpr ⟨lw_p92, List.forall_mem_cons.mpr ⟨lw_p93, List.forall_mem_cons.mpr ⟨lw_p94, List.forall_mem_cons.mpr ⟨lw_p95, fun _ h => absurd h List.not_mem_nil⟩⟩⟩⟩⟩⟩⟩⟩⟩⟩⟩⟩⟩⟩⟩⟩
theorem lw_p96 : lw_okq (⟨"GlacierMailModel", "isNext", "(Ljava/lang/String;)Z"⟩, 39) := ⟨⟨by decide +kernel, by decide +kernel⟩, List.mem_of_getElem? (i := 1524) (by decide +kernel), List.mem_of_getElem? (i := 1795) (by decide +kernel), List.mem_of_getElem? (i := 1796) (by decide +kernel)⟩
theorem lw_p97 : lw_okq (⟨"GlacierMailModel", "readRock", "()Z"⟩, 39) := ⟨⟨by decide +kernel, by decide +kernel⟩, List.mem_of_getElem? (i := 1524) (by decide +kernel), List.mem_of_getElem? (i := 1800) (by decide +kernel), List.mem_of_getElem? (i := 1801) (by decide +kernel)⟩
theorem lw_p98 : lw_okq (⟨"GlacierMailModel", "throwsIn", "(IIII)V"⟩, 39) := ⟨⟨by decide +kernel, by decide +kernel⟩, List.mem_of_getElem? (i := 1524) (by decide +kernel), List.mem_of_getElem? (i := 1804) (by decide +kernel), List.mem_of_getElem? (i := 1805) (by decide +kernel)⟩
theorem lw_p99 : lw_okq (⟨"GlacierMailModel", "setsLetter", "(III)V"⟩, 39) := ⟨⟨by decide +kernel, by decide +kernel⟩, List.mem_of_getElem? (i := 1524) (by decide +kernel), List.mem_of_getElem? (i := 1808) (by decide +kernel), List.mem_of_getElem? (i := 1809) (by decide +kernel)⟩
theorem lw_p100 : lw_okq (⟨"GlacierMailModel", "readTable", "()Z"⟩, 39) := ⟨⟨by decide +kernel, by decide +kernel⟩, List.mem_of_getElem? (i := 1524) (by decide +kernel), List.mem_of_getElem? (i := 1813) (by decide +kernel), List.mem_of_getElem? (i := 1814) (by decide +kernel)⟩
theorem lw_p101 : lw_okq (⟨"GlacierMailModel", "readLawLine", "(I)Z"⟩, 39) := ⟨⟨by decide +kernel, by decide +kernel⟩, List.mem_of_getElem? (i := 1524) (by decide +kernel), List.mem_of_getElem? (i := 1819) (by decide +kernel), List.mem_of_getElem? (i := 1820) (by decide +kernel)⟩
theorem lw_p102 : lw_okq (⟨"GlacierMailModel", "readCond", "()Z"⟩, 39) := ⟨⟨by decide +kernel, by decide +kernel⟩, List.mem_of_getElem? (i := 1524) (by decide +kernel), List.mem_of_getElem? (i := 1827) (by decide +kernel), List.mem_of_getElem? (i := 1828) (by decide +kernel)⟩
theorem lw_p103 : lw_okq (⟨"GlacierMailModel", "readAllOf", "()Z"⟩, 39) := ⟨⟨by decide +kernel, by decide +kernel⟩, List.mem_of_getElem? (i := 1524) (by decide +kernel), List.mem_of_getElem? (i := 1831) (by decide +kernel), List.mem_of_getElem? (i := 1832) (by decide +kernel)⟩
theorem lw_p104 : lw_okq (⟨"GlacierMailModel", "readAtom", "()Z"⟩, 39) := ⟨⟨by decide +kernel, by decide +kernel⟩, List.mem_of_getElem? (i := 1524) (by decide +kernel), List.mem_of_getElem? (i := 1835) (by decide +kernel), List.mem_of_getElem? (i := 1836) (by decide +kernel)⟩
theorem lw_p105 : lw_okq (⟨"GlacierMailModel", "sign", "(I)Z"⟩, 39) := ⟨⟨by decide +kernel, by decide +kernel⟩, List.mem_of_getElem? (i := 1524) (by decide +kernel), List.mem_of_getElem? (i := 1839) (by decide +kernel), List.mem_of_getElem? (i := 1840) (by decide +kernel)⟩
theorem lw_p106 : lw_okq (⟨"GlacierMailModel", "emits", "(II)V"⟩, 39) := ⟨⟨by decide +kernel, by decide +kernel⟩, List.mem_of_getElem? (i := 1524) (by decide +kernel), List.mem_of_getElem? (i := 1844) (by decide +kernel), List.mem_of_getElem? (i := 1845) (by decide +kernel)⟩
theorem lw_p107 : lw_okq (⟨"GlacierMailModel", "readSum", "()Z"⟩, 39) := ⟨⟨by decide +kernel, by decide +kernel⟩, List.mem_of_getElem? (i := 1524) (by decide +kernel), List.mem_of_getElem? (i := 1850) (by decide +kernel), List.mem_of_getElem? (i := 1851) (by decide +kernel)⟩
theorem lw_p108 : lw_okq (⟨"GlacierMailModel", "readPart", "()Z"⟩, 39) := ⟨⟨by decide +kernel, by decide +kernel⟩, List.mem_of_getElem? (i := 1524) (by decide +kernel), List.mem_of_getElem? (i := 1854) (by decide +kernel), List.mem_of_getElem? (i := 1855) (by decide +kernel)⟩
theorem lw_p109 : lw_okq (⟨"GlacierMailModel", "throwsIf", "(ZI)Z"⟩, 39) := ⟨⟨by decide +kernel, by decide +kernel⟩, List.mem_of_getElem? (i := 1524) (by decide +kernel), List.mem_of_getElem? (i := 1867) (by decide +kernel), List.mem_of_getElem? (i := 1868) (by decide +kernel)⟩
theorem lw_p110 : lw_okq (⟨"GlacierMailModel", "noLane", "(I)Z"⟩, 39) := ⟨⟨by decide +kernel, by decide +kernel⟩, List.mem_of_getElem? (i := 1524) (by decide +kernel), List.mem_of_getElem? (i := 1889) (by decide +kernel), List.mem_of_getElem? (i := 1890) (by decide +kernel)⟩
theorem lw_p111 : lw_okq (⟨"GlacierMailModel", "noRow", "(I)Z"⟩, 39) := ⟨⟨by decide +kernel, by decide +kernel⟩, List.mem_of_getElem? (i := 1524) (by decide +kernel), List.mem_of_getElem? (i := 1893) (by decide +kernel), List.mem_of_getElem? (i := 1894) (by decide +kernel)⟩
def lw_privs_7 : List (MethodName × Nat) := [(⟨"GlacierMailModel", "isNext", "(Ljava/lang/String;)Z"⟩, 39), (⟨"GlacierMailModel", "readRock", "()Z"⟩, 39), (⟨"GlacierMailModel", "throwsIn", "(IIII)V"⟩, 39), (⟨"GlacierMailModel", "setsLetter", "(III)V"⟩, 39), (⟨"GlacierMailModel", "readTable", "()Z"⟩, 39), (⟨"GlacierMailModel", "readLawLine", "(I)Z"⟩, 39), (⟨"GlacierMailModel", "readCond", "()Z"⟩, 39), (⟨"GlacierMailModel", "readAllOf", "()Z"⟩, 39), (⟨"GlacierMailModel", "readAtom", "()Z"⟩, 39), (⟨"GlacierMailModel", "sign", "(I)Z"⟩, 39), (⟨"GlacierMailModel", "emits", "(II)V"⟩, 39), (⟨"GlacierMailModel", "readSum", "()Z"⟩, 39), (⟨"GlacierMailModel", "readPart", "()Z"⟩, 39), (⟨"GlacierMailModel", "throwsIf", "(ZI)Z"⟩, 39), (⟨"GlacierMailModel", "noLane", "(I)Z"⟩, 39), (⟨"GlacierMailModel", "noRow", "(I)Z"⟩, 39)]
theorem lw_r7 : ∀ q ∈ lw_privs_7, lw_okq q := List.forall_mem_cons.mpr ⟨lw_p96, List.forall_mem_cons.mpr ⟨lw_p97, List.forall_mem_cons.mpr ⟨lw_p98, List.forall_mem_cons.mpr ⟨lw_p99, List.forall_mem_cons.mpr ⟨lw_p100, List.forall_mem_cons.mpr ⟨lw_p101, List.forall_mem_cons.mpr ⟨lw_p102, List.forall_mem_cons.mpr ⟨lw_p103, List.forall_mem_cons.mpr ⟨lw_p104, List.forall_mem_cons.mpr ⟨lw_p105, List.forall_mem_cons.mpr ⟨lw_p106, List.forall_mem_cons.mpr ⟨lw_p107, List.forall_mem_cons.mpr ⟨lw_p108, List.forall_mem_cons.mpr ⟨lw_p109, List.forall_mem_cons.mpr ⟨lw_p110, List.forall_mem_cons.mpr ⟨lw_p111, fun _ h => absurd h List.not_mem_nil⟩⟩⟩⟩⟩⟩⟩⟩⟩⟩⟩⟩⟩⟩⟩⟩
theorem lw_p112 : lw_okq (⟨"GlacierMailModel", "speedAt", "(II)I"⟩, 39) := ⟨⟨by decide +kernel, by decide +kernel⟩, List.mem_of_getElem? (i := 1524) (by decide +kernel), List.mem_of_getElem? (i := 1897) (by decide +kernel), List.mem_of_getElem? (i := 1898) (by decide +kernel)⟩
theorem lw_p113 : lw_okq (⟨"GlacierMailModel", "flowAt", "(III)I"⟩, 39) := ⟨⟨by decide +kernel, by decide +kernel⟩, List.mem_of_getElem? (i := 1524) (by decide +kernel), List.mem_of_getElem? (i := 1905) (by decide +kernel), List.mem_of_getElem? (i := 1906) (by decide +kernel)⟩
theorem lw_p114 : lw_okq (⟨"GlacierMailModel", "turnsTo", "(I)V"⟩, 39) := ⟨⟨by decide +kernel, by decide +kernel⟩, List.mem_of_getElem? (i := 1524) (by decide +kernel), List.mem_of_getElem? (i := 1909) (by decide +kernel), List.mem_of_getElem? (i := 1910) (by decide +kernel)⟩
theorem lw_p115 : lw_okq (⟨"GlacierMailModel", "sumOf", "(I)I"⟩, 39) := ⟨⟨by decide +kernel, by decide +kernel⟩, List.mem_of_getElem? (i := 1524) (by decide +kernel), List.mem_of_getElem? (i := 1913) (by decide +kernel), List.mem_of_getElem? (i := 1914) (by decide +kernel)⟩
theorem lw_p116 : lw_okq (⟨"GlacierMailModel", "holdsLine", "(I)Z"⟩, 39) := ⟨⟨by decide +kernel, by decide +kernel⟩, List.mem_of_getElem? (i := 1524) (by decide +kernel), List.mem_of_getElem? (i := 1917) (by decide +kernel), List.mem_of_getElem? (i := 1918) (by decide +kernel)⟩
theorem lw_p117 : lw_okq (⟨"GlacierMailModel", "factOf", "(II)I"⟩, 39) := ⟨⟨by decide +kernel, by decide +kernel⟩, List.mem_of_getElem? (i := 1524) (by decide +kernel), List.mem_of_getElem? (i := 1921) (by decide +kernel), List.mem_of_getElem? (i := 1922) (by decide +kernel)⟩
theorem lw_p118 : lw_okq (⟨"GlacierMailModel", "noPerson", "(I)Z"⟩, 39) := ⟨⟨by decide +kernel, by decide +kernel⟩, List.mem_of_getElem? (i := 1524) (by decide +kernel), List.mem_of_getElem? (i := 1931) (by decide +kernel), List.mem_of_getElem? (i := 1932) (by decide +kernel)⟩
theorem lw_p119 : lw_okq (⟨"GlacierMailModel", "of", "(II)I"⟩, 39) := ⟨⟨by decide +kernel, by decide +kernel⟩, List.mem_of_getElem? (i := 1524) (by decide +kernel), List.mem_of_getElem? (i := 1935) (by decide +kernel), List.mem_of_getElem? (i := 1936) (by decide +kernel)⟩
theorem lw_p120 : lw_okq (⟨"GlacierMailModel", "countOf", "(II)I"⟩, 39) := ⟨⟨by decide +kernel, by decide +kernel⟩, List.mem_of_getElem? (i := 1524) (by decide +kernel), List.mem_of_getElem? (i := 1939) (by decide +kernel), List.mem_of_getElem? (i := 1940) (by decide +kernel)⟩
theorem lw_p121 : lw_okq (⟨"GlacierMailModel", "ofLetter", "(II)I"⟩, 39) := ⟨⟨by decide +kernel, by decide +kernel⟩, List.mem_of_getElem? (i := 1524) (by decide +kernel), List.mem_of_getElem? (i := 1943) (by decide +kernel), List.mem_of_getElem? (i := 1944) (by decide +kernel)⟩
theorem lw_p122 : lw_okq (⟨"GlacierMailModel", "isWaiting", "(I)Z"⟩, 39) := ⟨⟨by decide +kernel, by decide +kernel⟩, List.mem_of_getElem? (i := 1524) (by decide +kernel), List.mem_of_getElem? (i := 1947) (by decide +kernel), List.mem_of_getElem? (i := 1948) (by decide +kernel)⟩
theorem lw_p123 : lw_okq (⟨"GlacierMailModel", "isRock", "(I)Z"⟩, 39) := ⟨⟨by decide +kernel, by decide +kernel⟩, List.mem_of_getElem? (i := 1524) (by decide +kernel), List.mem_of_getElem? (i := 1951) (by decide +kernel), List.mem_of_getElem? (i := 1952) (by decide +kernel)⟩
theorem lw_p124 : lw_okq (⟨"GlacierMailModel", "outOf", "(I)I"⟩, 39) := ⟨⟨by decide +kernel, by decide +kernel⟩, List.mem_of_getElem? (i := 1524) (by decide +kernel), List.mem_of_getElem? (i := 1955) (by decide +kernel), List.mem_of_getElem? (i := 1956) (by decide +kernel)⟩
theorem lw_p125 : lw_okq (⟨"GlacierMailModel", "runsLetter", "(II)V"⟩, 39) := ⟨⟨by decide +kernel, by decide +kernel⟩, List.mem_of_getElem? (i := 1524) (by decide +kernel), List.mem_of_getElem? (i := 1959) (by decide +kernel), List.mem_of_getElem? (i := 1960) (by decide +kernel)⟩
theorem lw_p126 : lw_okq (⟨"GlacierMailModel", "runs", "(IIIZI)V"⟩, 39) := ⟨⟨by decide +kernel, by decide +kernel⟩, List.mem_of_getElem? (i := 1524) (by decide +kernel), List.mem_of_getElem? (i := 1963) (by decide +kernel), List.mem_of_getElem? (i := 1964) (by decide +kernel)⟩
theorem lw_p127 : lw_okq (⟨"GlacierMailModel", "floods", "(III)I"⟩, 39) := ⟨⟨by decide +kernel, by decide +kernel⟩, List.mem_of_getElem? (i := 1524) (by decide +kernel), List.mem_of_getElem? (i := 1967) (by decide +kernel), List.mem_of_getElem? (i := 1968) (by decide +kernel)⟩
def lw_privs_8 : List (MethodName × Nat) := [(⟨"GlacierMailModel", "speedAt", "(II)I"⟩, 39), (⟨"GlacierMailModel", "flowAt", "(III)I"⟩, 39), (⟨"GlacierMailModel", "turnsTo", "(I)V"⟩, 39), (⟨"GlacierMailModel", "sumOf", "(I)I"⟩, 39), (⟨"GlacierMailModel", "holdsLine", "(I)Z"⟩, 39), (⟨"GlacierMailModel", "factOf", "(II)I"⟩, 39), (⟨"GlacierMailModel", "noPerson", "(I)Z"⟩, 39), (⟨"GlacierMailModel", "of", "(II)I"⟩, 39), (⟨"GlacierMailModel", "countOf", "(II)I"⟩, 39), (⟨"GlacierMailModel", "ofLetter", "(II)I"⟩, 39), (⟨"GlacierMailModel", "isWaiting", "(I)Z"⟩, 39), (⟨"GlacierMailModel", "isRock", "(I)Z"⟩, 39), (⟨"GlacierMailModel", "outOf", "(I)I"⟩, 39), (⟨"GlacierMailModel", "runsLetter", "(II)V"⟩, 39), (⟨"GlacierMailModel", "runs", "(IIIZI)V"⟩, 39), (⟨"GlacierMailModel", "floods", "(III)I"⟩, 39)]
theorem lw_r8 : ∀ q ∈ lw_privs_8, lw_okq q := List.forall_mem_cons.mpr ⟨lw_p112, List.forall_mem_cons.mpr ⟨lw_p113, List.forall_mem_cons.mpr ⟨lw_p114, List.forall_mem_cons.mpr ⟨lw_p115, List.forall_mem_cons.mpr ⟨lw_p116, List.forall_mem_cons.mpr ⟨lw_p117, List.forall_mem_cons.mpr ⟨lw_p118, List.forall_mem_cons.mpr ⟨lw_p119, List.forall_mem_cons.mpr ⟨lw_p120, List.forall_mem_cons.mpr ⟨lw_p121, List.forall_mem_cons.mpr ⟨lw_p122, List.forall_mem_cons.mpr ⟨lw_p123, List.forall_mem_cons.mpr ⟨lw_p124, List.forall_mem_cons.mpr ⟨lw_p125, List.forall_mem_cons.mpr ⟨lw_p126, List.forall_mem_cons.mpr ⟨lw_p127, fun _ h => absurd h List.not_mem_nil⟩⟩⟩⟩⟩⟩⟩⟩⟩⟩⟩⟩⟩⟩⟩⟩
theorem lw_p128 : lw_okq (⟨"GlacierMailModel", "noLetter", "(I)Z"⟩, 39) := ⟨⟨by decide +kernel, by decide +kernel⟩, List.mem_of_getElem? (i := 1524) (by decide +kernel), List.mem_of_getElem? (i := 1975) (by decide +kernel), List.mem_of_getElem? (i := 1976) (by decide +kernel)⟩
theorem lw_p129 : lw_okq (⟨"GlacierMailModel", "bareFrom", "(I)I"⟩, 39) := ⟨⟨by decide +kernel, by decide +kernel⟩, List.mem_of_getElem? (i := 1524) (by decide +kernel), List.mem_of_getElem? (i := 1979) (by decide +kernel), List.mem_of_getElem? (i := 1980) (by decide +kernel)⟩
theorem lw_p130 : lw_okq (⟨"GlacierMailModel", "isBare", "(II)Z"⟩, 39) := ⟨⟨by decide +kernel, by decide +kernel⟩, List.mem_of_getElem? (i := 1524) (by decide +kernel), List.mem_of_getElem? (i := 1983) (by decide +kernel), List.mem_of_getElem? (i := 1984) (by decide +kernel)⟩
theorem lw_p131 : lw_okq (⟨"GlacierMailModel", "isInIce", "(I)Z"⟩, 39) := ⟨⟨by decide +kernel, by decide +kernel⟩, List.mem_of_getElem? (i := 1524) (by decide +kernel), List.mem_of_getElem? (i := 1987) (by decide +kernel), List.mem_of_getElem? (i := 1988) (by decide +kernel)⟩
theorem lw_p132 : lw_okq (⟨"GlacierMailModel", "remembers", "()V"⟩, 39) := ⟨⟨by decide +kernel, by decide +kernel⟩, List.mem_of_getElem? (i := 1524) (by decide +kernel), List.mem_of_getElem? (i := 2003) (by decide +kernel), List.mem_of_getElem? (i := 2004) (by decide +kernel)⟩
theorem lw_p133 : lw_okq (⟨"GlacierMailModel", "opens", "(II)V"⟩, 39) := ⟨⟨by decide +kernel, by decide +kernel⟩, List.mem_of_getElem? (i := 1524) (by decide +kernel), List.mem_of_getElem? (i := 2015) (by decide +kernel), List.mem_of_getElem? (i := 2016) (by decide +kernel)⟩
theorem lw_p134 : lw_okq (⟨"GlacierMailModel", "year", "()I"⟩, 39) := ⟨⟨by decide +kernel, by decide +kernel⟩, List.mem_of_getElem? (i := 1524) (by decide +kernel), List.mem_of_getElem? (i := 2023) (by decide +kernel), List.mem_of_getElem? (i := 2024) (by decide +kernel)⟩
theorem lw_p135 : lw_okq (⟨"GlacierMailModel", "opener", "(I)I"⟩, 39) := ⟨⟨by decide +kernel, by decide +kernel⟩, List.mem_of_getElem? (i := 1524) (by decide +kernel), List.mem_of_getElem? (i := 2027) (by decide +kernel), List.mem_of_getElem? (i := 2028) (by decide +kernel)⟩
theorem lw_p136 : lw_okq (⟨"GlacierMailModel", "mayOpen", "(II)Z"⟩, 39) := ⟨⟨by decide +kernel, by decide +kernel⟩, List.mem_of_getElem? (i := 1524) (by decide +kernel), List.mem_of_getElem? (i := 2031) (by decide +kernel), List.mem_of_getElem? (i := 2032) (by decide +kernel)⟩
theorem lw_p137 : lw_okq (⟨"GlacierMailModel", "outFrom", "(III)I"⟩, 39) := ⟨⟨by decide +kernel, by decide +kernel⟩, List.mem_of_getElem? (i := 1524) (by decide +kernel), List.mem_of_getElem? (i := 2039) (by decide +kernel), List.mem_of_getElem? (i := 2040) (by decide +kernel)⟩
theorem lw_p138 : lw_okq (⟨"GlacierMailModel", "outsAll", "()V"⟩, 39) := ⟨⟨by decide +kernel, by decide +kernel⟩, List.mem_of_getElem? (i := 1524) (by decide +kernel), List.mem_of_getElem? (i := 2067) (by decide +kernel), List.mem_of_getElem? (i := 2068) (by decide +kernel)⟩
theorem lw_p139 : lw_okq (⟨"GlacierMailModel", "outsIn", "(IIZ)I"⟩, 39) := ⟨⟨by decide +kernel, by decide +kernel⟩, List.mem_of_getElem? (i := 1524) (by decide +kernel), List.mem_of_getElem? (i := 2071) (by decide +kernel), List.mem_of_getElem? (i := 2072) (by decide +kernel)⟩
theorem lw_p140 : lw_okq (⟨"GlacierMailModel", "keepsRows", "()V"⟩, 39) := ⟨⟨by decide +kernel, by decide +kernel⟩, List.mem_of_getElem? (i := 1524) (by decide +kernel), List.mem_of_getElem? (i := 2079) (by decide +kernel), List.mem_of_getElem? (i := 2080) (by decide +kernel)⟩
theorem lw_p141 : lw_okq (⟨"GlacierMailModel", "isPassing", "(I)Z"⟩, 39) := ⟨⟨by decide +kernel, by decide +kernel⟩, List.mem_of_getElem? (i := 1524) (by decide +kernel), List.mem_of_getElem? (i := 2083) (by decide +kernel), List.mem_of_getElem? (i := 2084) (by decide +kernel)⟩
theorem lw_p142 : lw_okq (⟨"GlacierMailModel", "isOtherInIce", "(I)Z"⟩, 39) := ⟨⟨by decide +kernel, by decide +kernel⟩, List.mem_of_getElem? (i := 1524) (by decide +kernel), List.mem_of_getElem? (i := 2087) (by decide +kernel), List.mem_of_getElem? (i := 2088) (by decide +kernel)⟩
theorem lw_p143 : lw_okq (⟨"GlacierMailModel", "wroteIn", "(IIII)I"⟩, 39) := ⟨⟨by decide +kernel, by decide +kernel⟩, List.mem_of_getElem? (i := 1524) (by decide +kernel), List.mem_of_getElem? (i := 2095) (by decide +kernel), List.mem_of_getElem? (i := 2096) (by decide +kernel)⟩
def lw_privs_9 : List (MethodName × Nat) := [(⟨"GlacierMailModel", "noLetter", "(I)Z"⟩, 39), (⟨"GlacierMailModel", "bareFrom", "(I)I"⟩, 39), (⟨"GlacierMailModel", "isBare", "(II)Z"⟩, 39), (⟨"GlacierMailModel", "isInIce", "(I)Z"⟩, 39), (⟨"GlacierMailModel", "remembers", "()V"⟩, 39), (⟨"GlacierMailModel", "opens", "(II)V"⟩, 39), (⟨"GlacierMailModel", "year", "()I"⟩, 39), (⟨"GlacierMailModel", "opener", "(I)I"⟩, 39), (⟨"GlacierMailModel", "mayOpen", "(II)Z"⟩, 39), (⟨"GlacierMailModel", "outFrom", "(III)I"⟩, 39), (⟨"GlacierMailModel", "outsAll", "()V"⟩, 39), (⟨"GlacierMailModel", "outsIn", "(IIZ)I"⟩, 39), (⟨"GlacierMailModel", "keepsRows", "()V"⟩, 39), (⟨"GlacierMailModel", "isPassing", "(I)Z"⟩, 39), (⟨"GlacierMailModel", "isOtherInIce", "(I)Z"⟩, 39), (⟨"GlacierMailModel", "wroteIn", "(IIII)I"⟩, 39)]
theorem lw_r9 : ∀ q ∈ lw_privs_9, lw_okq q := List.forall_mem_cons.mpr ⟨lw_p128, List.forall_mem_cons.mpr ⟨lw_p129, List.forall_mem_cons.mpr ⟨lw_p130, List.forall_mem_cons.mpr ⟨lw_p131, List.forall_mem_cons.mpr ⟨lw_p132, List.forall_mem_cons.mpr ⟨lw_p133, List.forall_mem_cons.mpr ⟨lw_p134, List.forall_mem_cons.mpr ⟨lw_p135, List.forall_mem_cons.mpr ⟨lw_p136, List.forall_mem_cons.mpr ⟨lw_p137, List.forall_mem_cons.mpr ⟨lw_p138, List.forall_mem_cons.mpr ⟨lw_p139, List.forall_mem_cons.mpr ⟨lw_p140, List.forall_mem_cons.mpr ⟨lw_p141, List.forall_mem_cons.mpr ⟨lw_p142, List.forall_mem_cons.mpr ⟨lw_p143, fun _ h => absurd h List.not_mem_nil⟩⟩⟩⟩⟩⟩⟩⟩⟩⟩⟩⟩⟩⟩⟩⟩
theorem lw_p144 : lw_okq (⟨"GlacierMailModel", "noTable", "(I)Z"⟩, 39) := ⟨⟨by decide +kernel, by decide +kernel⟩, List.mem_of_getElem? (i := 1524) (by decide +kernel), List.mem_of_getElem? (i := 2107) (by decide +kernel), List.mem_of_getElem? (i := 2108) (by decide +kernel)⟩
theorem lw_p145 : lw_okq (⟨"GlacierMailModel", "ofTable", "(II)I"⟩, 39) := ⟨⟨by decide +kernel, by decide +kernel⟩, List.mem_of_getElem? (i := 1524) (by decide +kernel), List.mem_of_getElem? (i := 2111) (by decide +kernel), List.mem_of_getElem? (i := 2112) (by decide +kernel)⟩
theorem lw_p146 : lw_okq (⟨"GlacierMailModel", "areApart", "(III)Z"⟩, 39) := ⟨⟨by decide +kernel, by decide +kernel⟩, List.mem_of_getElem? (i := 1524) (by decide +kernel), List.mem_of_getElem? (i := 2119) (by decide +kernel), List.mem_of_getElem? (i := 2120) (by decide +kernel)⟩
theorem lw_p147 : lw_okq (⟨"GlacierMailModel", "answers", "(I)V"⟩, 39) := ⟨⟨by decide +kernel, by decide +kernel⟩, List.mem_of_getElem? (i := 1524) (by decide +kernel), List.mem_of_getElem? (i := 2139) (by decide +kernel), List.mem_of_getElem? (i := 2140) (by decide +kernel)⟩
theorem lw_p148 : lw_okq (⟨"GlacierMailModel", "isWatching", "(II)Z"⟩, 39) := ⟨⟨by decide +kernel, by decide +kernel⟩, List.mem_of_getElem? (i := 1524) (by decide +kernel), List.mem_of_getElem? (i := 2146) (by decide +kernel), List.mem_of_getElem? (i := 2147) (by decide +kernel)⟩
theorem lw_p149 : lw_okq (⟨"GlacierMailModel", "hasIn", "(I)I"⟩, 39) := ⟨⟨by decide +kernel, by decide +kernel⟩, List.mem_of_getElem? (i := 1524) (by decide +kernel), List.mem_of_getElem? (i := 2150) (by decide +kernel), List.mem_of_getElem? (i := 2151) (by decide +kernel)⟩
theorem lw_p150 : lw_okq (⟨"GlacierMailModel", "thrower", "(III)I"⟩, 39) := ⟨⟨by decide +kernel, by decide +kernel⟩, List.mem_of_getElem? (i := 1524) (by decide +kernel), List.mem_of_getElem? (i := 2158) (by decide +kernel), List.mem_of_getElem? (i := 2159) (by decide +kernel)⟩
theorem lw_p151 : lw_okq (⟨"GlacierMailModel", "steals", "(I)V"⟩, 39) := ⟨⟨by decide +kernel, by decide +kernel⟩, List.mem_of_getElem? (i := 1524) (by decide +kernel), List.mem_of_getElem? (i := 2170) (by decide +kernel), List.mem_of_getElem? (i := 2171) (by decide +kernel)⟩
def lw_privs_10 : List (MethodName × Nat) := [(⟨"GlacierMailModel", "noTable", "(I)Z"⟩, 39), (⟨"GlacierMailModel", "ofTable", "(II)I"⟩, 39), (⟨"GlacierMailModel", "areApart", "(III)Z"⟩, 39), (⟨"GlacierMailModel", "answers", "(I)V"⟩, 39), (⟨"GlacierMailModel", "isWatching", "(II)Z"⟩, 39), (⟨"GlacierMailModel", "hasIn", "(I)I"⟩, 39), (⟨"GlacierMailModel", "thrower", "(III)I"⟩, 39), (⟨"GlacierMailModel", "steals", "(I)V"⟩, 39)]
theorem lw_r10 : ∀ q ∈ lw_privs_10, lw_okq q := List.forall_mem_cons.mpr ⟨lw_p144, List.forall_mem_cons.mpr ⟨lw_p145, List.forall_mem_cons.mpr ⟨lw_p146, List.forall_mem_cons.mpr ⟨lw_p147, List.forall_mem_cons.mpr ⟨lw_p148, List.forall_mem_cons.mpr ⟨lw_p149, List.forall_mem_cons.mpr ⟨lw_p150, List.forall_mem_cons.mpr ⟨lw_p151, fun _ h => absurd h List.not_mem_nil⟩⟩⟩⟩⟩⟩⟩⟩
def lw_privs : List (MethodName × Nat) := lw_privs_1 ++ (lw_privs_2 ++ (lw_privs_3 ++ (lw_privs_4 ++ (lw_privs_5 ++ (lw_privs_6 ++ (lw_privs_7 ++ (lw_privs_8 ++ (lw_privs_9 ++ (lw_privs_10)))))))))
def lw_tbl : List Cond := k2_sels lw_privs ++ tables_1
theorem lw_privs_ok : ∀ q ∈ lw_privs, lw_okq q := by
  show ∀ q ∈ lw_privs_1 ++ (lw_privs_2 ++ (lw_privs_3 ++ (lw_privs_4 ++ (lw_privs_5 ++ (lw_privs_6 ++ (lw_privs_7 ++ (lw_privs_8 ++ (lw_privs_9 ++ (lw_privs_10))))))))), lw_okq q
  exact List.forall_mem_append.mpr ⟨lw_r1, List.forall_mem_append.mpr ⟨lw_r2, List.forall_mem_append.mpr ⟨lw_r3, List.forall_mem_append.mpr ⟨lw_r4, List.forall_mem_append.mpr ⟨lw_r5, List.forall_mem_append.mpr ⟨lw_r6, List.forall_mem_append.mpr ⟨lw_r7, List.forall_mem_append.mpr ⟨lw_r8, List.forall_mem_append.mpr ⟨lw_r9, lw_r10⟩⟩⟩⟩⟩⟩⟩⟩⟩
end
section
/-! TABLES of this claim, laid by wip/am/gen_tables.py out of the task folder: class names, classes of which objects are made, methods, fields, calls. -/
def gm_rnl : List String := ["GlacierMail", "GlacierMail$State", "GlacierMail$Rows", "GlacierMail$History", "GlacierMail$Ice", "java/util/Arrays", "java/lang/Math", "GlacierMail$Way", "GlacierMail$Answers", "GlacierMail$ValleyReader", "GlacierMail$TextReader", "GlacierMail$Words", "GlacierMail$LawReader", "GlacierMail$Law", "java/lang/Integer", "GlacierMailLaw", "java/lang/String", "java/lang/StringLatin1", "jdk/internal/util/Preconditions", "java/lang/StringUTF16", "GlacierMailModel"]
def gm_rn (i : Nat) : String := (gm_rnl[i]?).getD ""
def gm_T0 : u_T := fun k => match k with
  | 0 => ("GlacierMail", "tape", "[B", true)
  | 1 => ("GlacierMail", "tapeLength", "I", false)
  | 2 => ("GlacierMail", "wrongByte", "I", false)
  | 3 => ("GlacierMail", "told", "LGlacierMail$State;", true)
  | 4 => ("GlacierMail", "draft", "LGlacierMail$State;", true)
  | 5 => ("GlacierMail", "image", "LGlacierMail$State;", true)
  | 6 => ("GlacierMail", "imageKept", "Z", false)
  | 7 => ("GlacierMail", "history", "LGlacierMail$History;", true)
  | 8 => ("GlacierMail", "ice", "LGlacierMail$Ice;", true)
  | 9 => ("GlacierMail", "way", "LGlacierMail$Way;", true)
  | 10 => ("GlacierMail", "otherWay", "LGlacierMail$Way;", true)
  | 11 => ("GlacierMail", "answers", "LGlacierMail$Answers;", true)
  | 12 => ("GlacierMail", "valleyReader", "LGlacierMail$ValleyReader;", true)
  | 13 => ("GlacierMail", "lawReader", "LGlacierMail$LawReader;", true)
  | 14 => ("GlacierMail", "ends", "LGlacierMail$Rows;", true)
  | 15 => ("GlacierMail", "endsKnown", "Z", false)
  | 16 => ("GlacierMail", "came", "LGlacierMail$Rows;", true)
  | _ => ("GlacierMail", "taken", "LGlacierMail$Rows;", true)
def gm_ty0 : Nat → FieldType := fun k => match k with
  | 0 => (.array .byte)
  | 1 => .int
  | 2 => .int
  | 3 => (.object "GlacierMail$State")
  | 4 => (.object "GlacierMail$State")
  | 5 => (.object "GlacierMail$State")
  | 6 => .boolean
  | 7 => (.object "GlacierMail$History")
  | 8 => (.object "GlacierMail$Ice")
  | 9 => (.object "GlacierMail$Way")
  | 10 => (.object "GlacierMail$Way")
  | 11 => (.object "GlacierMail$Answers")
  | 12 => (.object "GlacierMail$ValleyReader")
  | 13 => (.object "GlacierMail$LawReader")
  | 14 => (.object "GlacierMail$Rows")
  | 15 => .boolean
  | 16 => (.object "GlacierMail$Rows")
  | _ => (.object "GlacierMail$Rows")
theorem gm_nm0 : ∀ a, a < 18 → ∀ b, b < 18 → a ≠ b → (gm_T0 a).2.1 ≠ (gm_T0 b).2.1 := by decide +kernel
theorem gm_tk0 : ∀ k, k < 18 → parseFieldDescriptor (gm_T0 k).2.2.1 = some (gm_ty0 k) := by decide +kernel
def gm_T1 : u_T := fun k => match k with
  | 0 => ("GlacierMail$State", "lanes", "I", false)
  | 1 => ("GlacierMail$State", "last", "I", false)
  | 2 => ("GlacierMail$State", "snow", "I", false)
  | 3 => ("GlacierMail$State", "fall", "I", false)
  | 4 => ("GlacierMail$State", "stripe", "I", false)
  | 5 => ("GlacierMail$State", "seed", "I", false)
  | 6 => ("GlacierMail$State", "now", "I", false)
  | 7 => ("GlacierMail$State", "texts", "I", false)
  | 8 => ("GlacierMail$State", "law", "LGlacierMail$Law;", false)
  | 9 => ("GlacierMail$State", "sections", "LGlacierMail$Rows;", true)
  | 10 => ("GlacierMail$State", "floods", "LGlacierMail$Rows;", true)
  | 11 => ("GlacierMail$State", "people", "LGlacierMail$Rows;", true)
  | 12 => ("GlacierMail$State", "letters", "LGlacierMail$Rows;", true)
  | 13 => ("GlacierMail$State", "tables", "LGlacierMail$Rows;", true)
  | _ => ("GlacierMail$State", "openings", "LGlacierMail$Rows;", true)
def gm_ty1 : Nat → FieldType := fun k => match k with
  | 0 => .int
  | 1 => .int
  | 2 => .int
  | 3 => .int
  | 4 => .int
  | 5 => .int
  | 6 => .int
  | 7 => .int
  | 8 => (.object "GlacierMail$Law")
  | 9 => (.object "GlacierMail$Rows")
  | 10 => (.object "GlacierMail$Rows")
  | 11 => (.object "GlacierMail$Rows")
  | 12 => (.object "GlacierMail$Rows")
  | 13 => (.object "GlacierMail$Rows")
  | _ => (.object "GlacierMail$Rows")
theorem gm_nm1 : ∀ a, a < 15 → ∀ b, b < 15 → a ≠ b → (gm_T1 a).2.1 ≠ (gm_T1 b).2.1 := by decide +kernel
theorem gm_tk1 : ∀ k, k < 15 → parseFieldDescriptor (gm_T1 k).2.2.1 = some (gm_ty1 k) := by decide +kernel
def gm_T2 : u_T := fun k => match k with
  | 0 => ("GlacierMail$Rows", "most", "I", true)
  | 1 => ("GlacierMail$Rows", "width", "I", true)
  | 2 => ("GlacierMail$Rows", "cells", "[I", true)
  | _ => ("GlacierMail$Rows", "size", "I", false)
def gm_ty2 : Nat → FieldType := fun k => match k with
  | 0 => .int
  | 1 => .int
  | 2 => (.array .int)
  | _ => .int
theorem gm_nm2 : ∀ a, a < 4 → ∀ b, b < 4 → a ≠ b → (gm_T2 a).2.1 ≠ (gm_T2 b).2.1 := by decide +kernel
theorem gm_tk2 : ∀ k, k < 4 → parseFieldDescriptor (gm_T2 k).2.2.1 = some (gm_ty2 k) := by decide +kernel
def gm_T3 : u_T := fun k => match k with
  | 0 => ("GlacierMail$History", "ahead", "[LGlacierMail$State;", true)
  | 1 => ("GlacierMail$History", "next", "I", false)
  | _ => ("GlacierMail$History", "size", "I", false)
def gm_ty3 : Nat → FieldType := fun k => match k with
  | 0 => (.array (.object "GlacierMail$State"))
  | 1 => .int
  | _ => .int
theorem gm_nm3 : ∀ a, a < 3 → ∀ b, b < 3 → a ≠ b → (gm_T3 a).2.1 ≠ (gm_T3 b).2.1 := by decide +kernel
theorem gm_tk3 : ∀ k, k < 3 → parseFieldDescriptor (gm_T3 k).2.2.1 = some (gm_ty3 k) := by decide +kernel
def gm_T4 : u_T := fun k => match k with
  | 0 => ("GlacierMail$Ice", "told", "LGlacierMail$State;", true)
  | 1 => ("GlacierMail$Ice", "heats", "[I", true)
  | 2 => ("GlacierMail$Ice", "speeds", "[I", true)
  | 3 => ("GlacierMail$Ice", "floods", "[I", true)
  | 4 => ("GlacierMail$Ice", "facts", "[I", true)
  | 5 => ("GlacierMail$Ice", "flows", "[J", true)
  | _ => ("GlacierMail$Ice", "flowsForgotten", "Z", false)
def gm_ty4 : Nat → FieldType := fun k => match k with
  | 0 => (.object "GlacierMail$State")
  | 1 => (.array .int)
  | 2 => (.array .int)
  | 3 => (.array .int)
  | 4 => (.array .int)
  | 5 => (.array .long)
  | _ => .boolean
theorem gm_nm4 : ∀ a, a < 7 → ∀ b, b < 7 → a ≠ b → (gm_T4 a).2.1 ≠ (gm_T4 b).2.1 := by decide +kernel
theorem gm_tk4 : ∀ k, k < 7 → parseFieldDescriptor (gm_T4 k).2.2.1 = some (gm_ty4 k) := by decide +kernel
def gm_T5 : u_T := fun k => match k with
  | 0 => ("GlacierMail$Way", "told", "LGlacierMail$State;", true)
  | 1 => ("GlacierMail$Way", "ice", "LGlacierMail$Ice;", true)
  | 2 => ("GlacierMail$Way", "lane", "I", false)
  | 3 => ("GlacierMail$Way", "rock", "Z", false)
  | 4 => ("GlacierMail$Way", "leftOut", "I", false)
  | 5 => ("GlacierMail$Way", "row", "I", false)
  | 6 => ("GlacierMail$Way", "deep", "I", false)
  | 7 => ("GlacierMail$Way", "year", "I", false)
  | _ => ("GlacierMail$Way", "moved", "I", false)
def gm_ty5 : Nat → FieldType := fun k => match k with
  | 0 => (.object "GlacierMail$State")
  | 1 => (.object "GlacierMail$Ice")
  | 2 => .int
  | 3 => .boolean
  | 4 => .int
  | 5 => .int
  | 6 => .int
  | 7 => .int
  | _ => .int
theorem gm_nm5 : ∀ a, a < 9 → ∀ b, b < 9 → a ≠ b → (gm_T5 a).2.1 ≠ (gm_T5 b).2.1 := by decide +kernel
theorem gm_tk5 : ∀ k, k < 9 → parseFieldDescriptor (gm_T5 k).2.2.1 = some (gm_ty5 k) := by decide +kernel
def gm_T6 : u_T := fun k => match k with
  | 0 => ("GlacierMail$Answers", "told", "LGlacierMail$State;", true)
  | 1 => ("GlacierMail$Answers", "way", "LGlacierMail$Way;", true)
  | 2 => ("GlacierMail$Answers", "had", "LGlacierMail$Rows;", true)
  | _ => ("GlacierMail$Answers", "outs", "LGlacierMail$Rows;", true)
def gm_ty6 : Nat → FieldType := fun k => match k with
  | 0 => (.object "GlacierMail$State")
  | 1 => (.object "GlacierMail$Way")
  | 2 => (.object "GlacierMail$Rows")
  | _ => (.object "GlacierMail$Rows")
theorem gm_nm6 : ∀ a, a < 4 → ∀ b, b < 4 → a ≠ b → (gm_T6 a).2.1 ≠ (gm_T6 b).2.1 := by decide +kernel
theorem gm_tk6 : ∀ k, k < 4 → parseFieldDescriptor (gm_T6 k).2.2.1 = some (gm_ty6 k) := by decide +kernel
def gm_T7 : u_T := fun k => match k with
  | 0 => ("GlacierMail$TextReader", "words", "LGlacierMail$Words;", true)
  | 1 => ("GlacierMail$TextReader", "mostLines", "I", true)
  | _ => ("GlacierMail$ValleyReader", "draft", "LGlacierMail$State;", true)
def gm_ty7 : Nat → FieldType := fun k => match k with
  | 0 => (.object "GlacierMail$Words")
  | 1 => .int
  | _ => (.object "GlacierMail$State")
theorem gm_nm7 : ∀ a, a < 3 → ∀ b, b < 3 → a ≠ b → (gm_T7 a).2.1 ≠ (gm_T7 b).2.1 := by decide +kernel
theorem gm_tk7 : ∀ k, k < 3 → parseFieldDescriptor (gm_T7 k).2.2.1 = some (gm_ty7 k) := by decide +kernel
def gm_T8 : u_T := fun k => match k with
  | 0 => ("GlacierMail$Words", "text", "[B", true)
  | 1 => ("GlacierMail$Words", "mostDigits", "I", true)
  | 2 => ("GlacierMail$Words", "length", "I", false)
  | 3 => ("GlacierMail$Words", "place", "I", false)
  | 4 => ("GlacierMail$Words", "begin", "I", false)
  | 5 => ("GlacierMail$Words", "wrong", "I", false)
  | 6 => ("GlacierMail$Words", "kind", "I", false)
  | _ => ("GlacierMail$Words", "value", "I", false)
def gm_ty8 : Nat → FieldType := fun k => match k with
  | 0 => (.array .byte)
  | 1 => .int
  | 2 => .int
  | 3 => .int
  | 4 => .int
  | 5 => .int
  | 6 => .int
  | _ => .int
theorem gm_nm8 : ∀ a, a < 8 → ∀ b, b < 8 → a ≠ b → (gm_T8 a).2.1 ≠ (gm_T8 b).2.1 := by decide +kernel
theorem gm_tk8 : ∀ k, k < 8 → parseFieldDescriptor (gm_T8 k).2.2.1 = some (gm_ty8 k) := by decide +kernel
def gm_T9 : u_T := fun k => match k with
  | 0 => ("GlacierMail$TextReader", "words", "LGlacierMail$Words;", true)
  | 1 => ("GlacierMail$TextReader", "mostLines", "I", true)
  | 2 => ("GlacierMail$LawReader", "lines", "LGlacierMail$Rows;", true)
  | 3 => ("GlacierMail$LawReader", "codes", "[I", true)
  | _ => ("GlacierMail$LawReader", "used", "I", false)
def gm_ty9 : Nat → FieldType := fun k => match k with
  | 0 => (.object "GlacierMail$Words")
  | 1 => .int
  | 2 => (.object "GlacierMail$Rows")
  | 3 => (.array .int)
  | _ => .int
theorem gm_nm9 : ∀ a, a < 5 → ∀ b, b < 5 → a ≠ b → (gm_T9 a).2.1 ≠ (gm_T9 b).2.1 := by decide +kernel
theorem gm_tk9 : ∀ k, k < 5 → parseFieldDescriptor (gm_T9 k).2.2.1 = some (gm_ty9 k) := by decide +kernel
def gm_T10 : u_T := fun k => match k with
  | 0 => ("GlacierMail$Law", "lines", "LGlacierMail$Rows;", true)
  | _ => ("GlacierMail$Law", "codes", "[I", true)
def gm_ty10 : Nat → FieldType := fun k => match k with
  | 0 => (.object "GlacierMail$Rows")
  | _ => (.array .int)
theorem gm_nm10 : ∀ a, a < 2 → ∀ b, b < 2 → a ≠ b → (gm_T10 a).2.1 ≠ (gm_T10 b).2.1 := by decide +kernel
theorem gm_tk10 : ∀ k, k < 2 → parseFieldDescriptor (gm_T10 k).2.2.1 = some (gm_ty10 k) := by decide +kernel
def gm_T11 : u_T := fun k => match k with
  | 0 => ("GlacierMailModel", "thrown", "I", false)
  | 1 => ("GlacierMailModel", "world", "[I", true)
  | 2 => ("GlacierMailModel", "image", "[I", true)
  | 3 => ("GlacierMailModel", "before", "[I", true)
  | 4 => ("GlacierMailModel", "acts", "[I", true)
  | 5 => ("GlacierMailModel", "hasImage", "Z", false)
  | 6 => ("GlacierMailModel", "remembered", "I", false)
  | 7 => ("GlacierMailModel", "tape", "[B", true)
  | 8 => ("GlacierMailModel", "taped", "I", false)
  | 9 => ("GlacierMailModel", "point", "I", false)
  | 10 => ("GlacierMailModel", "end", "I", false)
  | 11 => ("GlacierMailModel", "begin", "I", false)
  | 12 => ("GlacierMailModel", "deep", "I", false)
  | 13 => ("GlacierMailModel", "faultAt", "I", false)
  | 14 => ("GlacierMailModel", "five", "[I", true)
  | 15 => ("GlacierMailModel", "steps", "I", false)
  | 16 => ("GlacierMailModel", "value", "[I", true)
  | 17 => ("GlacierMailModel", "itsLane", "I", false)
  | 18 => ("GlacierMailModel", "itsRow", "I", false)
  | 19 => ("GlacierMailModel", "itsYear", "I", false)
  | 20 => ("GlacierMailModel", "itsSpeed", "I", false)
  | 21 => ("GlacierMailModel", "itsPerson", "I", false)
  | 22 => ("GlacierMailModel", "itsAge", "I", false)
  | 23 => ("GlacierMailModel", "itsDepth", "I", false)
  | 24 => ("GlacierMailModel", "heats", "[I", true)
  | 25 => ("GlacierMailModel", "flows", "[B", true)
  | 26 => ("GlacierMailModel", "flowing", "I", false)
  | 27 => ("GlacierMailModel", "rows", "[I", true)
  | 28 => ("GlacierMailModel", "depths", "[I", true)
  | 29 => ("GlacierMailModel", "out", "I", false)
  | 30 => ("GlacierMailModel", "moved", "I", false)
  | 31 => ("GlacierMailModel", "outs", "[I", true)
  | 32 => ("GlacierMailModel", "otherRows", "[I", true)
  | 33 => ("GlacierMailModel", "throwing", "[I", true)
  | 34 => ("GlacierMailModel", "having", "[I", true)
  | 35 => ("GlacierMailModel", "outYear", "[I", true)
  | 36 => ("GlacierMailModel", "backYear", "I", false)
  | 37 => ("GlacierMailModel", "loot", "[I", true)
  | _ => ("GlacierMailModel", "more", "[I", true)
def gm_ty11 : Nat → FieldType := fun k => match k with
  | 0 => .int
  | 1 => (.array .int)
  | 2 => (.array .int)
  | 3 => (.array .int)
  | 4 => (.array .int)
  | 5 => .boolean
  | 6 => .int
  | 7 => (.array .byte)
  | 8 => .int
  | 9 => .int
  | 10 => .int
  | 11 => .int
  | 12 => .int
  | 13 => .int
  | 14 => (.array .int)
  | 15 => .int
  | 16 => (.array .int)
  | 17 => .int
  | 18 => .int
  | 19 => .int
  | 20 => .int
  | 21 => .int
  | 22 => .int
  | 23 => .int
  | 24 => (.array .int)
  | 25 => (.array .byte)
  | 26 => .int
  | 27 => (.array .int)
  | 28 => (.array .int)
  | 29 => .int
  | 30 => .int
  | 31 => (.array .int)
  | 32 => (.array .int)
  | 33 => (.array .int)
  | 34 => (.array .int)
  | 35 => (.array .int)
  | 36 => .int
  | 37 => (.array .int)
  | _ => (.array .int)
theorem gm_nm11 : ∀ a, a < 39 → ∀ b, b < 39 → a ≠ b → (gm_T11 a).2.1 ≠ (gm_T11 b).2.1 := by decide +kernel
theorem gm_tk11 : ∀ k, k < 39 → parseFieldDescriptor (gm_T11 k).2.2.1 = some (gm_ty11 k) := by decide +kernel
abbrev gm_cs : List vw_C := [("GlacierMail", gm_T0, 18), ("GlacierMail$State", gm_T1, 15), ("GlacierMail$Rows", gm_T2, 4), ("GlacierMail$History", gm_T3, 3), ("GlacierMail$Ice", gm_T4, 7), ("GlacierMail$Way", gm_T5, 9), ("GlacierMail$Answers", gm_T6, 4), ("GlacierMail$ValleyReader", gm_T7, 3), ("GlacierMail$Words", gm_T8, 8), ("GlacierMail$LawReader", gm_T9, 5), ("GlacierMail$Law", gm_T10, 2), ("GlacierMailModel", gm_T11, 39)]
/-- by class number: how many fields; is the field a reference; its type; may it be written once alone -/
def gm_nf (c : Nat) : Nat := ([18, 15, 4, 3, 7, 9, 4, 3, 8, 5, 2, 39][c]?).getD 0
def gm_isr (c j : Nat) : Bool := ((([[true, false, false, true, true, true, false, true, true, true, true, true, true, true, true, false, true, true], [false, false, false, false, false, false, false, false, true, true, true, true, true, true, true], [false, false, true, false], [true, false, false], [true, true, true, true, true, true, false], [true, true, false, false, false, false, false, false, false], [true, true, true, true], [true, false, true], [true, false, false, false, false, false, false, false], [true, false, true, true, false], [true, true], [false, true, true, true, true, false, false, true, false, false, false, false, false, false, true, false, true, false, false, false, false, false, false, false, true, true, false, true, true, false, false, true, true, true, true, true, false, true, true]] : List (List Bool))[c]?).getD [])[j]?.getD false
def gm_fin (c j : Nat) : Bool := ((([[true, false, false, true, true, true, false, true, true, true, true, true, true, true, true, false, true, true], [false, false, false, false, false, false, false, false, false, true, true, true, true, true, true], [true, true, true, false], [true, false, false], [true, true, true, true, true, true, false], [true, true, false, false, false, false, false, false, false], [true, true, true, true], [true, true, true], [true, true, false, false, false, false, false, false], [true, true, true, true, false], [true, true], [false, true, true, true, true, false, false, true, false, false, false, false, false, false, true, false, true, false, false, false, false, false, false, false, true, true, false, true, true, false, false, true, true, true, true, true, false, true, true]] : List (List Bool))[c]?).getD [])[j]?.getD false
def gm_tyl : List (Nat → FieldType) := [gm_ty0, gm_ty1, gm_ty2, gm_ty3, gm_ty4, gm_ty5, gm_ty6, gm_ty7, gm_ty8, gm_ty9, gm_ty10, gm_ty11]
def gm_mnl : List MethodName := [⟨"GlacierMail", "<init>", "()V"⟩, ⟨"GlacierMail$State", "<init>", "()V"⟩, ⟨"GlacierMail$Rows", "<init>", "(II)V"⟩, ⟨"GlacierMail$History", "<init>", "()V"⟩, ⟨"GlacierMail$Ice", "<init>", "(LGlacierMail$State;)V"⟩, ⟨"GlacierMail$Ice", "renew", "()V"⟩, ⟨"GlacierMail$Ice", "reckonHeats", "()V"⟩, ⟨"GlacierMail$Ice", "reckonSpeeds", "()V"⟩, ⟨"java/util/Arrays", "fill", "([II)V"⟩, ⟨"GlacierMail$Rows", "size", "()I"⟩, ⟨"GlacierMail$Rows", "get", "(II)I"⟩, ⟨"java/lang/Math", "max", "(II)I"⟩, ⟨"GlacierMail$Ice", "reckonFloods", "()V"⟩, ⟨"GlacierMail$Way", "<init>", "(LGlacierMail$State;LGlacierMail$Ice;)V"⟩, ⟨"GlacierMail$Answers", "<init>", "(LGlacierMail$State;LGlacierMail$Way;)V"⟩, ⟨"GlacierMail$ValleyReader", "<init>", "([BLGlacierMail$State;)V"⟩, ⟨"GlacierMail$TextReader", "<init>", "([BII)V"⟩, ⟨"GlacierMail$Words", "<init>", "([BI)V"⟩, ⟨"GlacierMail$LawReader", "<init>", "([B)V"⟩, ⟨"GlacierMail", "feed", "(IIIII)I"⟩, ⟨"GlacierMail", "putNumber", "(I)V"⟩, ⟨"GlacierMail", "end", "(I)Z"⟩, ⟨"GlacierMail", "fault", "()I"⟩, ⟨"GlacierMail", "lost", "()I"⟩, ⟨"GlacierMail", "reckonEnds", "()V"⟩, ⟨"GlacierMail$Rows", "reset", "(I)V"⟩, ⟨"java/lang/Math", "min", "(II)I"⟩, ⟨"GlacierMail$Way", "startLetter", "(I)V"⟩, ⟨"GlacierMail$State", "isRock", "(I)Z"⟩, ⟨"GlacierMail$Way", "start", "(IIIZ)V"⟩, ⟨"GlacierMail$Way", "runOut", "(I)I"⟩, ⟨"GlacierMail$Way", "isOut", "()Z"⟩, ⟨"GlacierMail$Way", "step", "()V"⟩, ⟨"GlacierMail$Way", "deepAfter", "()I"⟩, ⟨"GlacierMail$Ice", "heatIn", "(I)I"⟩, ⟨"GlacierMail$Ice", "flowAt", "(III)I"⟩, ⟨"GlacierMail$Ice", "speedAt", "(II)I"⟩, ⟨"GlacierMail$Ice", "recalledFlow", "(I)I"⟩, ⟨"java/util/Arrays", "fill", "([JJ)V"⟩, ⟨"GlacierMail$Ice", "setFacts", "(IIII)V"⟩, ⟨"GlacierMail$Law", "faster", "([I)I"⟩, ⟨"GlacierMail$Law", "holds", "(II[I)Z"⟩, ⟨"GlacierMail$Ice", "keepFlow", "(II)V"⟩, ⟨"GlacierMail$Way", "takeFloods", "()V"⟩, ⟨"GlacierMail$Ice", "floodsIn", "(I)I"⟩, ⟨"GlacierMail$Rows", "put", "(III)V"⟩, ⟨"GlacierMail", "market", "(Z)I"⟩, ⟨"GlacierMail", "outIn", "(IZ)I"⟩, ⟨"GlacierMail", "poles", "()I"⟩, ⟨"java/lang/Integer", "bitCount", "(I)I"⟩, ⟨"GlacierMail", "allToldApart", "(I)Z"⟩, ⟨"GlacierMail", "toldApart", "(III)Z"⟩, ⟨"GlacierMail", "order", "(I)I"⟩, ⟨"GlacierMail", "outAheadOf", "(I)I"⟩, ⟨"GlacierMail", "undo", "()Z"⟩, ⟨"GlacierMail$History", "takeBack", "(LGlacierMail$State;)Z"⟩, ⟨"GlacierMail$State", "copyFrom", "(LGlacierMail$State;)V"⟩, ⟨"GlacierMail$Rows", "copyFrom", "(LGlacierMail$Rows;)V"⟩, ⟨"GlacierMail", "image", "()V"⟩, ⟨"GlacierMail", "back", "()Z"⟩, ⟨"GlacierMail", "forgetWays", "()V"⟩, ⟨"GlacierMail$History", "forget", "()V"⟩, ⟨"GlacierMail", "count", "(I)I"⟩, ⟨"GlacierMail", "lawLines", "()I"⟩, ⟨"GlacierMail", "waiting", "(I)I"⟩, ⟨"GlacierMail", "waits", "(I)Z"⟩, ⟨"GlacierMail", "isOutBy", "(II)Z"⟩, ⟨"GlacierMail", "inIceNow", "()I"⟩, ⟨"GlacierMail$History", "size", "()I"⟩, ⟨"GlacierMailLaw", "valley", "(LGlacierMail;[J)I"⟩, ⟨"GlacierMail", "valley", "()I"⟩, ⟨"GlacierMail$TextReader", "readText", "(I)I"⟩, ⟨"GlacierMail$LawReader", "clear", "()V"⟩, ⟨"GlacierMail$ValleyReader", "clear", "()V"⟩, ⟨"GlacierMail$Words", "start", "(I)V"⟩, ⟨"GlacierMail$Words", "next", "()V"⟩, ⟨"GlacierMail$Words", "isSmall", "(B)Z"⟩, ⟨"GlacierMail$Words", "isDigit", "(B)Z"⟩, ⟨"GlacierMail$LawReader", "readLine", "()Z"⟩, ⟨"GlacierMail$LawReader", "readKind", "()I"⟩, ⟨"GlacierMail$Words", "isWord", "(Ljava/lang/String;)Z"⟩, ⟨"java/lang/String", "length", "()I"⟩, ⟨"java/lang/String", "coder", "()B"⟩, ⟨"java/lang/String", "charAt", "(I)C"⟩, ⟨"java/lang/String", "isLatin1", "()Z"⟩, ⟨"java/lang/StringLatin1", "charAt", "([BI)C"⟩, ⟨"java/lang/String", "checkIndex", "(II)V"⟩, ⟨"jdk/internal/util/Preconditions", "checkIndex", "(IILjava/util/function/BiFunction;)I"⟩, ⟨"java/lang/StringUTF16", "charAt", "([BI)C"⟩, ⟨"java/lang/StringUTF16", "checkIndex", "(I[B)V"⟩, ⟨"java/lang/StringUTF16", "length", "([B)I"⟩, ⟨"java/lang/StringUTF16", "getChar", "([BI)C"⟩, ⟨"GlacierMail$Words", "refuse", "()Z"⟩, ⟨"GlacierMail$Words", "needNumber", "(II)I"⟩, ⟨"GlacierMail$Words", "takeWord", "(Ljava/lang/String;)Z"⟩, ⟨"GlacierMail$LawReader", "readCondition", "(I)Z"⟩, ⟨"GlacierMail$LawReader", "readAtom", "(I)Z"⟩, ⟨"GlacierMail$Words", "needSign", "(C)Z"⟩, ⟨"GlacierMail$LawReader", "put", "(I)V"⟩, ⟨"GlacierMail$LawReader", "readSum", "()Z"⟩, ⟨"GlacierMail$LawReader", "factCode", "()I"⟩, ⟨"GlacierMail$Rows", "add", "()I"⟩, ⟨"GlacierMail$ValleyReader", "readLine", "()Z"⟩, ⟨"GlacierMail$ValleyReader", "readLanes", "()Z"⟩, ⟨"GlacierMail$State", "isEmpty", "()Z"⟩, ⟨"GlacierMail$ValleyReader", "readLast", "()Z"⟩, ⟨"GlacierMail$ValleyReader", "readSection", "()Z"⟩, ⟨"GlacierMail$Rows", "isFull", "()Z"⟩, ⟨"GlacierMail$ValleyReader", "readSpeeds", "(LGlacierMail$Rows;II)Z"⟩, ⟨"GlacierMail$ValleyReader", "readSnow", "()Z"⟩, ⟨"GlacierMail$ValleyReader", "readRow", "()I"⟩, ⟨"GlacierMail$Words", "needWord", "(Ljava/lang/String;)Z"⟩, ⟨"GlacierMail$ValleyReader", "readStripe", "()Z"⟩, ⟨"GlacierMail$ValleyReader", "readSeed", "()Z"⟩, ⟨"GlacierMail$ValleyReader", "readFlood", "()Z"⟩, ⟨"GlacierMail$ValleyReader", "readPerson", "()Z"⟩, ⟨"GlacierMail$ValleyReader", "readLane", "()I"⟩, ⟨"GlacierMail$ValleyReader", "readRock", "()Z"⟩, ⟨"GlacierMail$State", "throwIn", "(IIII)I"⟩, ⟨"GlacierMail$ValleyReader", "readTable", "()Z"⟩, ⟨"GlacierMail$Words", "wrong", "()I"⟩, ⟨"GlacierMailLaw", "law", "(LGlacierMail;[J)I"⟩, ⟨"GlacierMail", "law", "()I"⟩, ⟨"GlacierMail$LawReader", "makeLaw", "()LGlacierMail$Law;"⟩, ⟨"java/util/Arrays", "copyOf", "([II)[I"⟩, ⟨"GlacierMail$Law", "<init>", "(LGlacierMail$Rows;[I)V"⟩, ⟨"GlacierMailLaw", "heat", "(LGlacierMail;I[J)I"⟩, ⟨"GlacierMail", "heat", "(I)I"⟩, ⟨"GlacierMail", "needYear", "(I)V"⟩, ⟨"GlacierMailLaw", "speed", "(LGlacierMail;II[J)I"⟩, ⟨"GlacierMail", "speed", "(II)I"⟩, ⟨"GlacierMail", "needLane", "(I)V"⟩, ⟨"GlacierMail", "need", "(II)V"⟩, ⟨"GlacierMail", "needRow", "(I)V"⟩, ⟨"GlacierMailLaw", "flow", "(LGlacierMail;III[J)I"⟩, ⟨"GlacierMail", "flow", "(III)I"⟩, ⟨"GlacierMailLaw", "person", "(LGlacierMail;II[J)I"⟩, ⟨"GlacierMail", "person", "(II)I"⟩, ⟨"GlacierMail", "needPerson", "(I)V"⟩, ⟨"GlacierMail", "lettersWith", "(II)I"⟩, ⟨"GlacierMailLaw", "letter", "(LGlacierMail;II[J)I"⟩, ⟨"GlacierMail", "letter", "(II)I"⟩, ⟨"GlacierMail", "needLetter", "(I)V"⟩, ⟨"GlacierMail", "outOf", "(I)I"⟩, ⟨"GlacierMail", "firstBare", "(I)I"⟩, ⟨"GlacierMailLaw", "where", "(LGlacierMail;II[J)I"⟩, ⟨"GlacierMail", "where", "(II)I"⟩, ⟨"GlacierMail$Way", "goOnTo", "(I)V"⟩, ⟨"GlacierMailLaw", "deep", "(LGlacierMail;II[J)I"⟩, ⟨"GlacierMail", "deep", "(II)I"⟩, ⟨"GlacierMailLaw", "post", "(LGlacierMail;II[J)I"⟩, ⟨"GlacierMail", "post", "(II)I"⟩, ⟨"GlacierMail", "needUnlike", "(II)V"⟩, ⟨"GlacierMail$History", "remember", "(LGlacierMail$State;)V"⟩, ⟨"GlacierMailLaw", "watch", "(LGlacierMail;II[J)I"⟩, ⟨"GlacierMail", "watch", "(II)I"⟩, ⟨"GlacierMailLaw", "open", "(LGlacierMail;I[J)I"⟩, ⟨"GlacierMail", "open", "(I)I"⟩, ⟨"GlacierMail$State", "openLetter", "(II)V"⟩, ⟨"GlacierMailLaw", "years", "(LGlacierMail;I[J)I"⟩, ⟨"GlacierMail", "years", "(I)I"⟩, ⟨"GlacierMail", "oneYearMore", "()I"⟩, ⟨"GlacierMail", "openerOf", "(I)I"⟩, ⟨"GlacierMail$Ice", "mayOpen", "(IIII)Z"⟩, ⟨"GlacierMail$Law", "letsOpen", "([I)Z"⟩, ⟨"GlacierMailLaw", "throwsFor", "(LGlacierMail;IIII[J)I"⟩, ⟨"GlacierMail", "throwsFor", "(IIII)I"⟩, ⟨"GlacierMailLaw", "latest", "(LGlacierMail;II[J)I"⟩, ⟨"GlacierMail", "latest", "(II)I"⟩, ⟨"GlacierMail$Way", "startHut", "(II)V"⟩, ⟨"GlacierMailLaw", "hut", "(LGlacierMail;II[J)I"⟩, ⟨"GlacierMail", "hut", "(II)I"⟩, ⟨"GlacierMailLaw", "without", "(LGlacierMail;II[J)I"⟩, ⟨"GlacierMail", "without", "(II)I"⟩, ⟨"GlacierMail$Way", "leaveOut", "(I)V"⟩, ⟨"GlacierMailLaw", "moved", "(LGlacierMail;I[J)I"⟩, ⟨"GlacierMail", "moved", "(I)I"⟩, ⟨"GlacierMailLaw", "passes", "(LGlacierMail;I[J)I"⟩, ⟨"GlacierMail", "passes", "(I)I"⟩, ⟨"GlacierMail", "sameLane", "(II)Z"⟩, ⟨"GlacierMail", "passesBy", "(II)Z"⟩, ⟨"GlacierMail", "startBoth", "(III)I"⟩, ⟨"GlacierMail", "bothInIce", "()Z"⟩, ⟨"GlacierMail", "stepBoth", "()V"⟩, ⟨"GlacierMailLaw", "writers", "(LGlacierMail;III[J)I"⟩, ⟨"GlacierMail", "writers", "(III)I"⟩, ⟨"GlacierMail", "needFind", "(II)V"⟩, ⟨"GlacierMail", "latestWriting", "(IIII)I"⟩, ⟨"GlacierMailLaw", "wrote", "(LGlacierMail;IIII[J)I"⟩, ⟨"GlacierMail", "wrote", "(IIII)I"⟩, ⟨"GlacierMailLaw", "table", "(LGlacierMail;II[J)I"⟩, ⟨"GlacierMail", "table", "(II)I"⟩, ⟨"GlacierMail", "needTable", "(I)V"⟩, ⟨"GlacierMailLaw", "apart", "(LGlacierMail;III[J)I"⟩, ⟨"GlacierMail", "apart", "(III)Z"⟩, ⟨"GlacierMailLaw", "fit", "(LGlacierMail;[J)I"⟩, ⟨"GlacierMail", "fit", "()I"⟩, ⟨"GlacierMail", "areReadings", "(I)Z"⟩, ⟨"GlacierMail", "fitsReadings", "(II)Z"⟩, ⟨"GlacierMailLaw", "soonest", "(LGlacierMail;IIZ[J)I"⟩, ⟨"GlacierMail", "soonest", "(IIZ)I"⟩, ⟨"GlacierMail$Answers", "spread", "(III)V"⟩, ⟨"GlacierMail$Answers", "throwAgain", "(IIII)V"⟩, ⟨"GlacierMail$Answers", "firstYear", "(I)I"⟩, ⟨"GlacierMail$Answers", "fewestThrows", "(II)I"⟩, ⟨"GlacierMailLaw", "chain", "(LGlacierMail;III[J)I"⟩, ⟨"GlacierMail", "chain", "(III)I"⟩, ⟨"GlacierMail$Answers", "holder", "(III)I"⟩, ⟨"GlacierMail$Answers", "throwAhead", "(III)I"⟩, ⟨"GlacierMailLaw", "reached", "(LGlacierMail;II[J)I"⟩, ⟨"GlacierMail", "reached", "(II)I"⟩, ⟨"GlacierMailLaw", "thieves", "(LGlacierMail;IZ[J)I"⟩, ⟨"GlacierMail", "thieves", "(IZ)I"⟩, ⟨"GlacierMail", "needThiefYears", "(I)V"⟩, ⟨"GlacierMail", "reckonCame", "(I)V"⟩, ⟨"GlacierMail", "bestNext", "(II)I"⟩, ⟨"GlacierMailLaw", "watchman", "(LGlacierMail;IZ[J)I"⟩, ⟨"GlacierMail", "watchman", "(IZ)I"⟩, ⟨"GlacierMail", "mostBeside", "(II)I"⟩, ⟨"GlacierMailLaw", "meeting", "(LGlacierMail;II[J)I"⟩, ⟨"GlacierMail", "meeting", "(II)I"⟩, ⟨"GlacierMailLaw", "outs", "(LGlacierMail;I[J)I"⟩, ⟨"GlacierMail", "outs", "(I)I"⟩, ⟨"GlacierMailLaw", "streams", "(LGlacierMail;IZ[J)I"⟩, ⟨"GlacierMail", "streams", "(IZ)I"⟩, ⟨"GlacierMailLaw", "range", "(LGlacierMail;II[J)I"⟩, ⟨"GlacierMail", "range", "(II)I"⟩, ⟨"GlacierMailLaw", "swiftest", "(LGlacierMail;II[J)I"⟩, ⟨"GlacierMail", "swiftest", "(II)I"⟩, ⟨"GlacierMailLaw", "bare", "(LGlacierMail;I[J)I"⟩, ⟨"GlacierMail", "bare", "(I)I"⟩, ⟨"GlacierMailLaw", "log", "(LGlacierMail;II[J)I"⟩, ⟨"GlacierMail", "log", "(II)I"⟩, ⟨"GlacierMailModel", "thrown", "()I"⟩, ⟨"GlacierMailModel", "<init>", "()V"⟩, ⟨"GlacierMailModel", "warms", "()V"⟩, ⟨"GlacierMailModel", "image", "()V"⟩, ⟨"GlacierMailModel", "back", "()Z"⟩, ⟨"GlacierMailModel", "undo", "()Z"⟩, ⟨"GlacierMailModel", "feed", "(IIIII)I"⟩, ⟨"GlacierMailModel", "end", "(I)Z"⟩, ⟨"GlacierMailModel", "fault", "()I"⟩, ⟨"GlacierMailModel", "valley", "()I"⟩, ⟨"GlacierMailModel", "readAll", "(Z)I"⟩, ⟨"GlacierMailModel", "uses", "()V"⟩, ⟨"GlacierMailModel", "blanks", "()V"⟩, ⟨"GlacierMailModel", "isAt", "(II)Z"⟩, ⟨"GlacierMailModel", "readLine", "(ZI)Z"⟩, ⟨"GlacierMailModel", "letterRow", "()V"⟩, ⟨"GlacierMailModel", "readValleyLine", "()Z"⟩, ⟨"GlacierMailModel", "isWord", "(Ljava/lang/String;)Z"⟩, ⟨"GlacierMailModel", "readLanes", "()Z"⟩, ⟨"GlacierMailModel", "isEmpty", "()Z"⟩, ⟨"GlacierMailModel", "people", "()I"⟩, ⟨"GlacierMailModel", "letters", "()I"⟩, ⟨"GlacierMailModel", "number", "(II)I"⟩, ⟨"GlacierMailModel", "figures", "(III)I"⟩, ⟨"GlacierMailModel", "readLast", "()Z"⟩, ⟨"GlacierMailModel", "readSection", "()Z"⟩, ⟨"GlacierMailModel", "lip", "()I"⟩, ⟨"GlacierMailModel", "readSpeeds", "(I)Z"⟩, ⟨"GlacierMailModel", "lanes", "()I"⟩, ⟨"GlacierMailModel", "readSnow", "()Z"⟩, ⟨"GlacierMailModel", "rowTold", "()I"⟩, ⟨"GlacierMailModel", "after", "(Ljava/lang/String;II)I"⟩, ⟨"GlacierMailModel", "readFlood", "()Z"⟩, ⟨"GlacierMailModel", "now", "()I"⟩, ⟨"GlacierMailModel", "readPerson", "()Z"⟩, ⟨"GlacierMailModel", "laneTold", "()I"⟩, ⟨"GlacierMailModel", "isNext", "(Ljava/lang/String;)Z"⟩, ⟨"GlacierMailModel", "readRock", "()Z"⟩, ⟨"GlacierMailModel", "throwsIn", "(IIII)V"⟩, ⟨"GlacierMailModel", "setsLetter", "(III)V"⟩, ⟨"GlacierMailModel", "readTable", "()Z"⟩, ⟨"GlacierMailModel", "readLawLine", "(I)Z"⟩, ⟨"GlacierMailModel", "readCond", "()Z"⟩, ⟨"GlacierMailModel", "readAllOf", "()Z"⟩, ⟨"GlacierMailModel", "readAtom", "()Z"⟩, ⟨"GlacierMailModel", "sign", "(I)Z"⟩, ⟨"GlacierMailModel", "emits", "(II)V"⟩, ⟨"GlacierMailModel", "readSum", "()Z"⟩, ⟨"GlacierMailModel", "readPart", "()Z"⟩, ⟨"GlacierMailModel", "throwsIf", "(ZI)Z"⟩, ⟨"GlacierMailModel", "law", "()I"⟩, ⟨"GlacierMailModel", "heat", "(I)I"⟩, ⟨"GlacierMailModel", "noYear", "(I)Z"⟩, ⟨"GlacierMailModel", "in", "(III)Z"⟩, ⟨"GlacierMailModel", "speed", "(II)I"⟩, ⟨"GlacierMailModel", "noLane", "(I)Z"⟩, ⟨"GlacierMailModel", "noRow", "(I)Z"⟩, ⟨"GlacierMailModel", "speedAt", "(II)I"⟩, ⟨"GlacierMailModel", "flow", "(III)I"⟩, ⟨"GlacierMailModel", "flowAt", "(III)I"⟩, ⟨"GlacierMailModel", "turnsTo", "(I)V"⟩, ⟨"GlacierMailModel", "sumOf", "(I)I"⟩, ⟨"GlacierMailModel", "holdsLine", "(I)Z"⟩, ⟨"GlacierMailModel", "factOf", "(II)I"⟩, ⟨"GlacierMailModel", "person", "(II)I"⟩, ⟨"GlacierMailModel", "noPerson", "(I)Z"⟩, ⟨"GlacierMailModel", "of", "(II)I"⟩, ⟨"GlacierMailModel", "countOf", "(II)I"⟩, ⟨"GlacierMailModel", "ofLetter", "(II)I"⟩, ⟨"GlacierMailModel", "isWaiting", "(I)Z"⟩, ⟨"GlacierMailModel", "isRock", "(I)Z"⟩, ⟨"GlacierMailModel", "outOf", "(I)I"⟩, ⟨"GlacierMailModel", "runsLetter", "(II)V"⟩, ⟨"GlacierMailModel", "runs", "(IIIZI)V"⟩, ⟨"GlacierMailModel", "floods", "(III)I"⟩, ⟨"GlacierMailModel", "letter", "(II)I"⟩, ⟨"GlacierMailModel", "noLetter", "(I)Z"⟩, ⟨"GlacierMailModel", "bareFrom", "(I)I"⟩, ⟨"GlacierMailModel", "isBare", "(II)Z"⟩, ⟨"GlacierMailModel", "isInIce", "(I)Z"⟩, ⟨"GlacierMailModel", "where", "(II)I"⟩, ⟨"GlacierMailModel", "deep", "(II)I"⟩, ⟨"GlacierMailModel", "post", "(II)I"⟩, ⟨"GlacierMailModel", "remembers", "()V"⟩, ⟨"GlacierMailModel", "watch", "(II)I"⟩, ⟨"GlacierMailModel", "open", "(I)I"⟩, ⟨"GlacierMailModel", "opens", "(II)V"⟩, ⟨"GlacierMailModel", "years", "(I)I"⟩, ⟨"GlacierMailModel", "year", "()I"⟩, ⟨"GlacierMailModel", "opener", "(I)I"⟩, ⟨"GlacierMailModel", "mayOpen", "(II)Z"⟩, ⟨"GlacierMailModel", "throwsFor", "(IIII)I"⟩, ⟨"GlacierMailModel", "outFrom", "(III)I"⟩, ⟨"GlacierMailModel", "latest", "(II)I"⟩, ⟨"GlacierMailModel", "hut", "(II)I"⟩, ⟨"GlacierMailModel", "without", "(II)I"⟩, ⟨"GlacierMailModel", "moved", "(I)I"⟩, ⟨"GlacierMailModel", "lost", "()I"⟩, ⟨"GlacierMailModel", "market", "(Z)I"⟩, ⟨"GlacierMailModel", "outsAll", "()V"⟩, ⟨"GlacierMailModel", "outsIn", "(IIZ)I"⟩, ⟨"GlacierMailModel", "passes", "(I)I"⟩, ⟨"GlacierMailModel", "keepsRows", "()V"⟩, ⟨"GlacierMailModel", "isPassing", "(I)Z"⟩, ⟨"GlacierMailModel", "isOtherInIce", "(I)Z"⟩, ⟨"GlacierMailModel", "writers", "(III)I"⟩, ⟨"GlacierMailModel", "wroteIn", "(IIII)I"⟩, ⟨"GlacierMailModel", "wrote", "(IIII)I"⟩, ⟨"GlacierMailModel", "table", "(II)I"⟩, ⟨"GlacierMailModel", "noTable", "(I)Z"⟩, ⟨"GlacierMailModel", "ofTable", "(II)I"⟩, ⟨"GlacierMailModel", "apart", "(III)Z"⟩, ⟨"GlacierMailModel", "areApart", "(III)Z"⟩, ⟨"GlacierMailModel", "has", "(II)Z"⟩, ⟨"GlacierMailModel", "poles", "()I"⟩, ⟨"GlacierMailModel", "fit", "()I"⟩, ⟨"GlacierMailModel", "soonest", "(IIZ)I"⟩, ⟨"GlacierMailModel", "answers", "(I)V"⟩, ⟨"GlacierMailModel", "at", "(II)I"⟩, ⟨"GlacierMailModel", "isWatching", "(II)Z"⟩, ⟨"GlacierMailModel", "hasIn", "(I)I"⟩, ⟨"GlacierMailModel", "chain", "(III)I"⟩, ⟨"GlacierMailModel", "thrower", "(III)I"⟩, ⟨"GlacierMailModel", "reached", "(II)I"⟩, ⟨"GlacierMailModel", "thieves", "(IZ)I"⟩, ⟨"GlacierMailModel", "steals", "(I)V"⟩, ⟨"GlacierMailModel", "watchman", "(IZ)I"⟩, ⟨"GlacierMailModel", "meeting", "(II)I"⟩, ⟨"GlacierMailModel", "outs", "(I)I"⟩, ⟨"GlacierMailModel", "order", "(I)I"⟩, ⟨"GlacierMailModel", "streams", "(IZ)I"⟩, ⟨"GlacierMailModel", "range", "(II)I"⟩, ⟨"GlacierMailModel", "swiftest", "(II)I"⟩, ⟨"GlacierMailModel", "bare", "(I)I"⟩, ⟨"GlacierMailModel", "log", "(II)I"⟩, ⟨"GlacierMailModel", "count", "(I)I"⟩]
def gm_mn (i : Nat) : MethodName := (gm_mnl[i]?).getD ⟨"", "", ""⟩
def gm_bcl : List ByteArray := [prog_1_method_1_code, prog_8_method_1_code, prog_7_method_1_code, prog_3_method_1_code, prog_4_method_1_code, prog_4_method_2_code, prog_4_method_3_code, prog_4_method_4_code, prog_34_method_103_code, prog_7_method_2_code, prog_7_method_6_code, prog_24_method_65_code, prog_4_method_5_code, prog_11_method_1_code, prog_2_method_1_code, prog_10_method_1_code, prog_9_method_1_code, prog_12_method_1_code, prog_6_method_1_code, prog_1_method_2_code, prog_1_method_3_code, prog_1_method_4_code, prog_1_method_8_code, prog_1_method_27_code, prog_1_method_65_code, prog_7_method_5_code, prog_24_method_69_code, prog_11_method_3_code, prog_8_method_4_code, prog_11_method_2_code, prog_11_method_11_code, prog_11_method_6_code, prog_11_method_7_code, prog_11_method_8_code, prog_4_method_6_code, prog_4_method_9_code, prog_4_method_8_code, prog_4_method_10_code, prog_34_method_101_code, prog_4_method_12_code, prog_5_method_2_code, prog_5_method_4_code, prog_4_method_11_code, prog_11_method_9_code, prog_4_method_7_code, prog_7_method_7_code, prog_1_method_28_code, prog_1_method_66_code, prog_1_method_37_code, prog_23_method_49_code, prog_1_method_38_code, prog_1_method_36_code, prog_1_method_51_code, prog_1_method_52_code, prog_1_method_58_code, prog_3_method_4_code, prog_8_method_2_code, prog_7_method_8_code, prog_1_method_59_code, prog_1_method_60_code, prog_1_method_7_code, prog_3_method_5_code, prog_1_method_61_code, prog_1_method_62_code, prog_1_method_70_code, prog_1_method_69_code, prog_1_method_68_code, prog_1_method_71_code, prog_3_method_2_code, method_3_code, prog_1_method_5_code, prog_9_method_4_code, prog_6_method_2_code, prog_10_method_2_code, prog_12_method_2_code, prog_12_method_4_code, prog_12_method_5_code, prog_12_method_6_code, prog_6_method_4_code, prog_6_method_5_code, prog_12_method_7_code, prog_26_method_54_code, prog_26_method_152_code, prog_26_method_56_code, prog_26_method_154_code, prog_27_method_2_code, prog_26_method_155_code, prog_36_method_11_code, prog_28_method_83_code, prog_28_method_91_code, prog_28_method_6_code, prog_28_method_5_code, prog_12_method_12_code, prog_12_method_11_code, prog_12_method_8_code, prog_6_method_7_code, prog_6_method_8_code, prog_12_method_10_code, prog_6_method_6_code, prog_6_method_9_code, prog_6_method_10_code, prog_7_method_4_code, prog_10_method_3_code, prog_10_method_4_code, prog_8_method_3_code, prog_10_method_5_code, prog_10_method_6_code, prog_7_method_3_code, prog_10_method_7_code, prog_10_method_8_code, prog_10_method_16_code, prog_12_method_9_code, prog_10_method_9_code, prog_10_method_10_code, prog_10_method_11_code, prog_10_method_12_code, prog_10_method_15_code, prog_10_method_13_code, prog_8_method_5_code, prog_10_method_14_code, prog_12_method_3_code, method_4_code, prog_1_method_6_code, prog_6_method_3_code, prog_34_method_123_code, prog_5_method_1_code, method_5_code, prog_1_method_9_code, prog_1_method_83_code, method_6_code, prog_1_method_10_code, prog_1_method_78_code, prog_1_method_77_code, prog_1_method_79_code, method_7_code, prog_1_method_11_code, method_8_code, prog_1_method_12_code, prog_1_method_80_code, prog_1_method_72_code, method_9_code, prog_1_method_13_code, prog_1_method_81_code, prog_1_method_63_code, prog_1_method_64_code, method_10_code, prog_1_method_14_code, prog_11_method_10_code, method_11_code, prog_1_method_15_code, method_12_code, prog_1_method_16_code, prog_1_method_85_code, prog_3_method_3_code, method_13_code, prog_1_method_17_code, method_14_code, prog_1_method_18_code, prog_8_method_6_code, method_15_code, prog_1_method_19_code, prog_1_method_20_code, prog_1_method_21_code, prog_4_method_13_code, prog_5_method_3_code, method_16_code, prog_1_method_22_code, method_17_code, prog_1_method_23_code, prog_11_method_4_code, method_18_code, prog_1_method_24_code, method_19_code, prog_1_method_25_code, prog_11_method_5_code, method_20_code, prog_1_method_26_code, method_21_code, prog_1_method_29_code, prog_1_method_73_code, prog_1_method_30_code, prog_1_method_74_code, prog_1_method_76_code, prog_1_method_75_code, method_22_code, prog_1_method_31_code, prog_1_method_84_code, prog_1_method_33_code, method_23_code, prog_1_method_32_code, method_24_code, prog_1_method_34_code, prog_1_method_82_code, method_25_code, prog_1_method_35_code, method_26_code, prog_1_method_39_code, prog_1_method_40_code, prog_1_method_41_code, method_27_code, prog_1_method_42_code, prog_2_method_2_code, prog_2_method_3_code, prog_2_method_4_code, prog_2_method_5_code, method_28_code, prog_1_method_43_code, prog_2_method_6_code, prog_2_method_7_code, method_29_code, prog_1_method_44_code, method_30_code, prog_1_method_45_code, prog_1_method_86_code, prog_1_method_67_code, prog_1_method_46_code, method_31_code, prog_1_method_47_code, prog_1_method_48_code, method_32_code, prog_1_method_49_code, method_33_code, prog_1_method_50_code, method_34_code, prog_1_method_53_code, method_35_code, prog_1_method_54_code, method_36_code, prog_1_method_55_code, method_37_code, prog_1_method_56_code, method_38_code, prog_1_method_57_code, prog_14_method_1_code, prog_14_method_5_code, prog_14_method_65_code, prog_14_method_6_code, prog_14_method_7_code, prog_14_method_9_code, prog_14_method_24_code, prog_14_method_25_code, prog_14_method_35_code, prog_14_method_60_code, prog_14_method_59_code, prog_14_method_36_code, prog_14_method_27_code, prog_14_method_26_code, prog_14_method_58_code, prog_14_method_28_code, prog_14_method_50_code, prog_14_method_29_code, prog_14_method_40_code, prog_14_method_39_code, prog_14_method_12_code, prog_14_method_13_code, prog_14_method_33_code, prog_14_method_32_code, prog_14_method_41_code, prog_14_method_43_code, prog_14_method_11_code, prog_14_method_42_code, prog_14_method_10_code, prog_14_method_44_code, prog_14_method_38_code, prog_14_method_34_code, prog_14_method_45_code, prog_14_method_14_code, prog_14_method_46_code, prog_14_method_37_code, prog_14_method_30_code, prog_14_method_48_code, prog_14_method_47_code, prog_14_method_17_code, prog_14_method_49_code, prog_14_method_57_code, prog_14_method_56_code, prog_14_method_55_code, prog_14_method_54_code, prog_14_method_31_code, prog_14_method_51_code, prog_14_method_53_code, prog_14_method_52_code, prog_14_method_2_code, prog_14_method_61_code, prog_14_method_69_code, prog_14_method_23_code, prog_14_method_3_code, prog_14_method_70_code, prog_14_method_19_code, prog_14_method_20_code, prog_14_method_67_code, prog_14_method_71_code, prog_14_method_68_code, prog_14_method_66_code, prog_14_method_64_code, prog_14_method_63_code, prog_14_method_62_code, prog_14_method_81_code, prog_14_method_21_code, prog_14_method_15_code, prog_14_method_80_code, prog_14_method_16_code, prog_14_method_79_code, prog_14_method_18_code, prog_14_method_75_code, prog_14_method_74_code, prog_14_method_73_code, prog_14_method_72_code, prog_14_method_83_code, prog_14_method_22_code, prog_14_method_82_code, prog_14_method_78_code, prog_14_method_77_code, prog_14_method_84_code, prog_14_method_85_code, prog_14_method_86_code, prog_14_method_8_code, prog_14_method_87_code, prog_14_method_89_code, prog_14_method_88_code, prog_14_method_93_code, prog_14_method_92_code, prog_14_method_91_code, prog_14_method_90_code, prog_14_method_94_code, prog_14_method_76_code, prog_14_method_95_code, prog_14_method_96_code, prog_14_method_97_code, prog_14_method_98_code, prog_14_method_99_code, prog_14_method_102_code, prog_14_method_100_code, prog_14_method_101_code, prog_14_method_106_code, prog_14_method_103_code, prog_14_method_105_code, prog_14_method_104_code, prog_14_method_108_code, prog_14_method_107_code, prog_14_method_109_code, prog_14_method_112_code, prog_14_method_111_code, prog_14_method_110_code, prog_14_method_114_code, prog_14_method_113_code, prog_14_method_4_code, prog_14_method_115_code, prog_14_method_116_code, prog_14_method_121_code, prog_14_method_119_code, prog_14_method_117_code, prog_14_method_118_code, prog_14_method_120_code, prog_14_method_123_code, prog_14_method_122_code, prog_14_method_124_code, prog_14_method_126_code, prog_14_method_125_code, prog_14_method_127_code, prog_14_method_128_code, prog_14_method_129_code, prog_14_method_130_code, prog_14_method_131_code, prog_14_method_132_code, prog_14_method_133_code, prog_14_method_134_code, prog_14_method_135_code, prog_14_method_136_code]
def gm_bc (i : Nat) : ByteArray := (gm_bcl[i]?).getD ⟨#[]⟩
def gm_ml (i : Nat) : Nat := (([1, 1, 3, 2, 2, 1, 3, 6, 4, 1, 3, 2, 3, 3, 3, 3, 4, 3, 2, 6, 3, 2, 1, 3, 2, 2, 2, 3, 2, 5, 3, 1, 2, 1, 2, 7, 4, 3, 5, 5, 5, 14, 6, 5, 2, 4, 7, 5, 4, 1, 4, 5, 3, 7, 1, 2, 2, 2, 1, 1, 1, 1, 2, 1, 5, 3, 3, 3, 1, 3, 1, 3, 1, 1, 2, 2, 1, 1, 5, 1, 3, 1, 1, 2, 1, 2, 2, 3, 2, 2, 1, 2, 1, 4, 3, 4, 4, 2, 2, 3, 1, 1, 1, 2, 1, 2, 5, 1, 6, 3, 1, 2, 2, 2, 5, 5, 1, 3, 6, 1, 1, 3, 1, 1, 3, 3, 4, 2, 2, 5, 3, 2, 3, 2, 6, 4, 5, 3, 2, 5, 5, 3, 2, 2, 3, 5, 3, 3, 5, 3, 5, 3, 3, 2, 5, 4, 4, 2, 4, 4, 4, 4, 6, 5, 4, 7, 9, 5, 4, 3, 5, 5, 5, 3, 2, 4, 2, 4, 4, 3, 5, 5, 1, 1, 6, 6, 3, 6, 7, 5, 5, 3, 2, 6, 4, 3, 4, 5, 4, 6, 5, 7, 10, 3, 3, 6, 4, 9, 7, 5, 5, 5, 5, 2, 5, 4, 5, 5, 7, 5, 5, 4, 2, 5, 6, 5, 4, 5, 7, 4, 4, 5, 3, 1, 1, 3, 2, 2, 2, 7, 2, 1, 3, 3, 1, 1, 3, 3, 1, 3, 4, 2, 1, 1, 1, 3, 5, 2, 4, 1, 4, 1, 3, 1, 4, 5, 1, 5, 1, 2, 3, 6, 4, 2, 3, 1, 1, 3, 2, 3, 1, 2, 3, 3, 2, 1, 3, 3, 2, 2, 5, 4, 6, 3, 4, 9, 3, 3, 2, 3, 6, 3, 3, 2, 2, 3, 9, 7, 4, 2, 3, 3, 2, 3, 3, 3, 2, 4, 2, 4, 4, 4, 4, 3, 9, 4, 5, 5, 3, 2, 3, 6, 2, 6, 4, 2, 3, 2, 6, 6, 5, 3, 2, 3, 4, 6, 2, 6, 5, 5, 7, 2, 3, 3, 7, 6, 6, 5, 5, 8, 4, 2, 5, 5, 4, 7, 4, 3, 5] : List Nat)[i]?).getD 0
def gm_ow (i : Nat) : Nat := (([0, 1, 2, 3, 4, 4, 4, 4, 5, 2, 2, 6, 4, 7, 8, 9, 10, 11, 12, 0, 0, 0, 0, 0, 0, 2, 6, 7, 1, 7, 7, 7, 7, 7, 4, 4, 4, 4, 5, 4, 13, 13, 4, 7, 4, 2, 0, 0, 0, 14, 0, 0, 0, 0, 0, 3, 1, 2, 0, 0, 0, 3, 0, 0, 0, 0, 0, 0, 3, 15, 0, 10, 12, 9, 11, 11, 11, 11, 12, 12, 11, 16, 16, 16, 16, 17, 16, 18, 19, 19, 19, 19, 11, 11, 11, 12, 12, 11, 12, 12, 12, 2, 9, 9, 1, 9, 9, 2, 9, 9, 9, 11, 9, 9, 9, 9, 9, 9, 1, 9, 11, 15, 0, 12, 5, 13, 15, 0, 0, 15, 0, 0, 0, 0, 15, 0, 15, 0, 0, 0, 15, 0, 0, 0, 0, 15, 0, 7, 15, 0, 15, 0, 0, 3, 15, 0, 15, 0, 1, 15, 0, 0, 0, 4, 13, 15, 0, 15, 0, 7, 15, 0, 15, 0, 7, 15, 0, 15, 0, 0, 0, 0, 0, 0, 15, 0, 0, 0, 15, 0, 15, 0, 0, 15, 0, 15, 0, 0, 0, 15, 0, 8, 8, 8, 8, 15, 0, 8, 8, 15, 0, 15, 0, 0, 0, 0, 15, 0, 0, 15, 0, 15, 0, 15, 0, 15, 0, 15, 0, 15, 0, 15, 0, 20, 20, 20, 20, 20, 20, 20, 20, 20, 20, 20, 20, 20, 20, 20, 20, 20, 20, 20, 20, 20, 20, 20, 20, 20, 20, 20, 20, 20, 20, 20, 20, 20, 20, 20, 20, 20, 20, 20, 20, 20, 20, 20, 20, 20, 20, 20, 20, 20, 20, 20, 20, 20, 20, 20, 20, 20, 20, 20, 20, 20, 20, 20, 20, 20, 20, 20, 20, 20, 20, 20, 20, 20, 20, 20, 20, 20, 20, 20, 20, 20, 20, 20, 20, 20, 20, 20, 20, 20, 20, 20, 20, 20, 20, 20, 20, 20, 20, 20, 20, 20, 20, 20, 20, 20, 20, 20, 20, 20, 20, 20, 20, 20, 20, 20, 20, 20, 20, 20, 20, 20, 20, 20, 20, 20, 20, 20, 20, 20, 20, 20, 20, 20, 20, 20, 20] : List Nat)[i]?).getD 0
def gm_rt (i : Nat) : Option FieldType := (([none, none, none, none, none, none, none, none, none, (some .int), (some .int), (some .int), none, none, none, none, none, none, none, (some .int), none, (some .boolean), (some .int), (some .int), none, none, (some .int), none, (some .boolean), none, (some .int), (some .boolean), none, (some .int), (some .int), (some .int), (some .int), (some .int), none, none, (some .int), (some .boolean), none, none, (some .int), none, (some .int), (some .int), (some .int), (some .int), (some .boolean), (some .boolean), (some .int), (some .int), (some .boolean), (some .boolean), none, none, none, (some .boolean), none, none, (some .int), (some .int), (some .int), (some .boolean), (some .boolean), (some .int), (some .int), (some .int), (some .int), (some .int), none, none, none, none, (some .boolean), (some .boolean), (some .boolean), (some .int), (some .boolean), (some .int), (some .byte), (some (.object "")), (some .boolean), (some (.object "")), none, (some .int), (some (.object "")), none, (some .int), (some (.object "")), (some .boolean), (some .int), (some .boolean), (some .boolean), (some .boolean), (some .boolean), none, (some .boolean), (some .int), (some .int), (some .boolean), (some .boolean), (some .boolean), (some .boolean), (some .boolean), (some .boolean), (some .boolean), (some .boolean), (some .int), (some .boolean), (some .boolean), (some .boolean), (some .boolean), (some .boolean), (some .int), (some .boolean), (some .int), (some .boolean), (some .int), (some .int), (some .int), (some (.object "GlacierMail$Law")), (some (.array .int)), none, (some .int), (some .int), none, (some .int), (some .int), none, none, none, (some .int), (some .int), (some .int), (some .int), none, (some .int), (some .int), (some .int), none, (some .int), (some .int), (some .int), (some .int), none, (some .int), (some .int), (some .int), (some .int), none, none, (some .int), (some .int), (some .int), (some .int), none, (some .int), (some .int), (some .int), (some .int), (some .boolean), (some .boolean), (some .int), (some .int), (some .int), (some .int), none, (some .int), (some .int), (some .int), (some .int), none, (some .int), (some .int), (some .int), (some .int), (some .boolean), (some .boolean), (some .int), (some .boolean), none, (some .int), (some .int), none, (some .int), (some .int), (some .int), (some .int), (some .int), none, (some .int), (some .boolean), (some .int), (some .int), (some .boolean), (some .boolean), (some .int), (some .int), none, none, (some .int), (some .int), (some .int), (some .int), (some .int), (some .int), (some .int), (some .int), (some .int), (some .int), none, none, (some .int), (some .int), (some .int), (some .int), (some .int), (some .int), (some .int), (some .int), (some .int), (some .int), (some .int), (some .int), (some .int), (some .int), (some .int), (some .int), (some .int), (some .int), (some .int), none, none, none, (some .boolean), (some .boolean), (some .int), (some .boolean), (some .int), (some .int), (some .int), none, none, (some .boolean), (some .boolean), none, (some .boolean), (some .boolean), (some .boolean), (some .boolean), (some .int), (some .int), (some .int), (some .int), (some .boolean), (some .boolean), (some .int), (some .boolean), (some .int), (some .boolean), (some .int), (some .int), (some .boolean), (some .int), (some .boolean), (some .int), (some .boolean), (some .boolean), none, none, (some .boolean), (some .boolean), (some .boolean), (some .boolean), (some .boolean), (some .boolean), none, (some .boolean), (some .boolean), (some .boolean), (some .int), (some .int), (some .boolean), (some .boolean), (some .int), (some .boolean), (some .boolean), (some .int), (some .int), (some .int), none, (some .int), (some .boolean), (some .int), (some .int), (some .boolean), (some .int), (some .int), (some .int), (some .boolean), (some .boolean), (some .int), none, none, (some .int), (some .int), (some .boolean), (some .int), (some .boolean), (some .boolean), (some .int), (some .int), (some .int), none, (some .int), (some .int), none, (some .int), (some .int), (some .int), (some .boolean), (some .int), (some .int), (some .int), (some .int), (some .int), (some .int), (some .int), (some .int), none, (some .int), (some .int), none, (some .boolean), (some .boolean), (some .int), (some .int), (some .int), (some .int), (some .boolean), (some .int), (some .boolean), (some .boolean), (some .boolean), (some .int), (some .int), (some .int), none, (some .int), (some .boolean), (some .int), (some .int), (some .int), (some .int), (some .int), none, (some .int), (some .int), (some .int), (some .int), (some .int), (some .int), (some .int), (some .int), (some .int), (some .int)] : List (Option FieldType))[i]?).getD none
end
section
/-! AN ABSTRACT MACHINE over resolved bytecode: ints and longs as integers, the heap as numbered cells. Names begin with gm_. -/
/-- a value: an int, a long, a cell's number (0: null), a thing that is only passed on (a String constant, a caught exception) -/
abbrev gm_V : Type := Int ⊕ (Int ⊕ (Nat ⊕ Nat))
abbrev gm_vi (x : Int) : gm_V := .inl x
abbrev gm_vl (x : Int) : gm_V := .inr (.inl x)
abbrev gm_vr (k : Nat) : gm_V := .inr (.inr (.inl k))
abbrev gm_vo (k : Nat) : gm_V := .inr (.inr (.inr k))
/-- the int, the long, the byte that goes round -/
def gm_w (x : Int) : Int := (x + 2147483648) % 4294967296 - 2147483648
def gm_w6 (x : Int) : Int := (x + 9223372036854775808) % 18446744073709551616 - 9223372036854775808
def gm_wb (x : Int) : Int := (x + 128) % 256 - 128
theorem gm_w_toInt (x : Int) : (Int32.ofInt x).toInt = gm_w x := by
  rw [Int32.toInt_ofInt, show (Int32.size : Nat) = 4294967296 from rfl]
  unfold gm_w
  rw [Int.bmod_def]
  split <;> omega
theorem gm_w6_toInt (x : Int) : (Int64.ofInt x).toInt = gm_w6 x := by
  rw [Int64.toInt_ofInt, show (Int64.size : Nat) = 18446744073709551616 from rfl]
  unfold gm_w6
  rw [Int.bmod_def]
  split <;> omega
theorem gm_w_of (x : Int) : Int32.ofInt (gm_w x) = Int32.ofInt x := by
  apply Int32.toInt_inj.mp
  rw [gm_w_toInt, gm_w_toInt]
  unfold gm_w
  omega
theorem gm_w_id {x : Int} (h1 : -2147483648 ≤ x) (h2 : x < 2147483648) : gm_w x = x := by unfold gm_w; omega
theorem gm_w_lo (x : Int) : -2147483648 ≤ gm_w x := by unfold gm_w; omega
theorem gm_w_hi (x : Int) : gm_w x < 2147483648 := by unfold gm_w; omega
theorem gm_lt (x y : Int) : Int32.ofInt x < Int32.ofInt y ↔ gm_w x < gm_w y := by rw [Int32.lt_iff_toInt_lt, gm_w_toInt, gm_w_toInt]
theorem gm_le (x y : Int) : Int32.ofInt x ≤ Int32.ofInt y ↔ gm_w x ≤ gm_w y := by rw [Int32.le_iff_toInt_le, gm_w_toInt, gm_w_toInt]
theorem gm_eq (x y : Int) : Int32.ofInt x = Int32.ofInt y ↔ gm_w x = gm_w y := by rw [← Int32.toInt_inj, gm_w_toInt, gm_w_toInt]
theorem gm_cl (x : Int) : (Int32.ofInt x).toNatClampNeg = (gm_w x).toNat := by
  show (Int32.ofInt x).toInt.toNat = _
  rw [gm_w_toInt]
theorem gm_in {x : Int} {n : Nat} (h0 : 0 ≤ gm_w x) (h1 : gm_w x < n) : vp_in (Int32.ofInt x) n := by
  rw [vp_in_iff, gm_w_toInt]; exact ⟨h0, h1⟩
abbrev gm_K : Type := Nat → Nat × Nat
abbrev gm_R : Type := Nat → Int → Nat
abbrev gm_M : Type := Nat → Int → Int
abbrev gm_L : Type := List (Option gm_V)
/-- how a method ends: with a value or none, or a throw of the class with this number -/
abbrev gm_O : Type := Option gm_V ⊕ Nat
abbrev gm_Q : Type := gm_O → Nat → gm_K → gm_R → gm_M → Prop
def gm_uM (M : gm_M) (k : Nat) (j v : Int) : gm_M := fun a b => if a = k ∧ b = j then v else M a b
def gm_uR (R : gm_R) (k : Nat) (j : Int) (v : Nat) : gm_R := fun a b => if a = k ∧ b = j then v else R a b
/-- a new cell: number n + 1, all 0 -/
def gm_nK (K : gm_K) (n kind len : Nat) : gm_K := fun a => if a = n + 1 then (kind, len) else K a
def gm_nM (M : gm_M) (n : Nat) : gm_M := fun a b => if a = n + 1 then 0 else M a b
def gm_nR (R : gm_R) (n : Nat) : gm_R := fun a b => if a = n + 1 then 0 else R a b
/-! instructions in groups -/
def gm_const : Instr → Option gm_V
  | .iconst i => some (gm_vi i)
  | .bipush i => some (gm_vi i)
  | .sipush i => some (gm_vi i)
  | .lconst l => some (gm_vl (l : Nat))
  | .aconst_null => some (gm_vr 0)
  | _ => none
/-- which local is loaded, of which sort (0 int, 1 long, 2 reference) -/
def gm_load : Instr → Option (Nat × Nat)
  | .iload i => some (0, i)
  | .iload_n i => some (0, i)
  | .lload i => some (1, i)
  | .lload_n i => some (1, i)
  | .aload i => some (2, i)
  | .aload_n i => some (2, i)
  | _ => none
def gm_stor : Instr → Option (Nat × Nat)
  | .istore i => some (0, i)
  | .istore_n i => some (0, i)
  | .lstore i => some (1, i)
  | .lstore_n i => some (1, i)
  | .astore i => some (2, i)
  | .astore_n i => some (2, i)
  | _ => none
def gm_sort : gm_V → Nat
  | .inl _ => 0
  | .inr (.inl _) => 1
  | .inr (.inr _) => 2
def gm_cat (v : gm_V) : Nat := if gm_sort v = 1 then 2 else 1
/-- int operations that always have a value: second, first on the stack -/
def gm_bin : Instr → Option (Int → Int → Int)
  | .iadd => some fun x y => x + y
  | .isub => some fun x y => x - y
  | .imul => some fun x y => x * y
  | .iand => some fun x y => (Int32.ofInt x &&& Int32.ofInt y).toInt
  | .ior => some fun x y => (Int32.ofInt x ||| Int32.ofInt y).toInt
  | .ixor => some fun x y => (Int32.ofInt x ^^^ Int32.ofInt y).toInt
  | .ishl => some fun x y => (Int32.ofInt x <<< (Int32.ofInt y &&& 31)).toInt
  | .ishr => some fun x y => (Int32.ofInt x >>> (Int32.ofInt y &&& 31)).toInt
  | .iushr => some fun x y => ((Int32.ofInt x).toUInt32 >>> ((Int32.ofInt y).toUInt32 &&& Int32.toUInt32 31)).toInt32.toInt
  | _ => none
def gm_cmp : ClassFile.Cond → Int → Int → Prop
  | .eq, x, y => gm_w x = gm_w y
  | .ne, x, y => ¬ gm_w x = gm_w y
  | .lt, x, y => gm_w x < gm_w y
  | .ge, x, y => gm_w y ≤ gm_w x
  | .gt, x, y => gm_w y < gm_w x
  | .le, x, y => gm_w x ≤ gm_w y
end
