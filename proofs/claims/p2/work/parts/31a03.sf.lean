/-! EVERY CALL ENDS, whatever was done before (laid by wip/am/p2g.py). -/
set_option maxRecDepth 100000 in
/-- GlacierMail.needPerson -/
def p2_s362 : ck_Sum := ((7, 1, 6), 245, [.inr (.inr (.inl 1)), .inl ((-2147483648), (-1), [])], ([], [], []), ([], []), [(.inl 3, 245, ([], [], []))])
set_option maxRecDepth 100000 in
theorem p2_s362_e : ck_ok p2_O none [] [(9, [p2_s360]), (133, [p2_s361])] 139 [] 84 p2_s362 = true := by decide +kernel
theorem p2_s362_s {X : Int → Int} {LX : Nat} : ck_Ok p2_O X LX 139 p2_s362 := ck_ok_s ⟨p2_nmu, ck_E1 (ck_S1 p2_s360_s ck_S0) (ck_E1 (ck_S1 p2_s361_s ck_S0) ck_E0)⟩ ck_X0 ck_l0 p2_s362_e
set_option maxRecDepth 100000 in
/-- GlacierMail.person -/
def p2_s363 : ck_Sum := ((8, 1, 6), 245, [.inr (.inr (.inl 1)), .inl ((-2147483648), (-1), []), .inl ((-2147483648), 2147483647, [])], ([], [], []), ([], []), [(.inl 3, 245, ([], [], []))])
set_option maxRecDepth 100000 in
theorem p2_s363_e : ck_ok p2_O none [] [(139, [p2_s362])] 138 [] 76 p2_s363 = true := by decide +kernel
theorem p2_s363_s {X : Int → Int} {LX : Nat} : ck_Ok p2_O X LX 138 p2_s363 := ck_ok_s ⟨p2_nmu, ck_E1 (ck_S1 p2_s362_s ck_S0) ck_E0⟩ ck_X0 ck_l0 p2_s363_e
set_option maxRecDepth 100000 in
/-- GlacierMail.need -/
def p2_s364 : ck_Sum := ((6, 1, 6), 245, [.inr (.inr (.inl 1)), .inl (8, 2147483647, []), .inl (0, 8, [])], ([], [], []), ([], []), [(.inl 3, 245, ([], [], []))])
set_option maxRecDepth 100000 in
theorem p2_s364_e : ck_ok p2_O none [] [] 133 [] 82 p2_s364 = true := by decide +kernel
theorem p2_s364_s {X : Int → Int} {LX : Nat} : ck_Ok p2_O X LX 133 p2_s364 := ck_ok_s ⟨p2_nmu, ck_E0⟩ ck_X0 ck_l0 p2_s364_e
set_option maxRecDepth 100000 in
/-- GlacierMail.needPerson -/
def p2_s365 : ck_Sum := ((7, 1, 6), 245, [.inr (.inr (.inl 1)), .inl (8, 2147483647, [])], ([], [], []), ([], []), [(.inl 3, 245, ([], [], []))])
set_option maxRecDepth 100000 in
theorem p2_s365_e : ck_ok p2_O none [] [(9, [p2_s360]), (133, [p2_s364])] 139 [] 84 p2_s365 = true := by decide +kernel
theorem p2_s365_s {X : Int → Int} {LX : Nat} : ck_Ok p2_O X LX 139 p2_s365 := ck_ok_s ⟨p2_nmu, ck_E1 (ck_S1 p2_s360_s ck_S0) (ck_E1 (ck_S1 p2_s364_s ck_S0) ck_E0)⟩ ck_X0 ck_l0 p2_s365_e
set_option maxRecDepth 100000 in
/-- GlacierMail.person -/
def p2_s366 : ck_Sum := ((8, 1, 6), 245, [.inr (.inr (.inl 1)), .inl (8, 2147483647, []), .inl ((-2147483648), 2147483647, [])], ([], [], []), ([], []), [(.inl 3, 245, ([], [], []))])
set_option maxRecDepth 100000 in
theorem p2_s366_e : ck_ok p2_O none [] [(139, [p2_s365])] 138 [] 76 p2_s366 = true := by decide +kernel
theorem p2_s366_s {X : Int → Int} {LX : Nat} : ck_Ok p2_O X LX 138 p2_s366 := ck_ok_s ⟨p2_nmu, ck_E1 (ck_S1 p2_s365_s ck_S0) ck_E0⟩ ck_X0 ck_l0 p2_s366_e
set_option maxRecDepth 100000 in
/-- GlacierMail.need -/
def p2_s367 : ck_Sum := ((6, 1, 6), 245, [.inr (.inr (.inl 1)), .inl (0, 7, []), .inl (0, 8, [])], ([], [], []), ([], []), [(.inr none, 245, ([], [], [])), (.inl 3, 245, ([], [], []))])
set_option maxRecDepth 100000 in
theorem p2_s367_e : ck_ok p2_O none [] [] 133 [] 82 p2_s367 = true := by decide +kernel
theorem p2_s367_s {X : Int → Int} {LX : Nat} : ck_Ok p2_O X LX 133 p2_s367 := ck_ok_s ⟨p2_nmu, ck_E0⟩ ck_X0 ck_l0 p2_s367_e
set_option maxRecDepth 100000 in
/-- GlacierMail.needPerson -/
def p2_s368 : ck_Sum := ((7, 1, 6), 245, [.inr (.inr (.inl 1)), .inl (0, 7, [])], ([], [], []), ([], []), [(.inl 3, 245, ([], [], [])), (.inr none, 245, ([], [], []))])
set_option maxRecDepth 100000 in
theorem p2_s368_e : ck_ok p2_O none [] [(9, [p2_s360]), (133, [p2_s367])] 139 [] 86 p2_s368 = true := by decide +kernel
theorem p2_s368_s {X : Int → Int} {LX : Nat} : ck_Ok p2_O X LX 139 p2_s368 := ck_ok_s ⟨p2_nmu, ck_E1 (ck_S1 p2_s360_s ck_S0) (ck_E1 (ck_S1 p2_s367_s ck_S0) ck_E0)⟩ ck_X0 ck_l0 p2_s368_e
set_option maxRecDepth 100000 in
/-- GlacierMail.person -/
def p2_s369 : ck_Sum := ((8, 2, 12), 245, [.inr (.inr (.inl 1)), .inl (0, 7, []), .inl ((-2147483648), (-1), [])], ([], [], []), ([], []), [(.inl 3, 245, ([], [], [])), (.inl 4, 245, ([], [], []))])
set_option maxRecDepth 100000 in
theorem p2_s369_e : ck_ok p2_O none [] [(139, [p2_s368])] 138 [] 82 p2_s369 = true := by decide +kernel
theorem p2_s369_s {X : Int → Int} {LX : Nat} : ck_Ok p2_O X LX 138 p2_s369 := ck_ok_s ⟨p2_nmu, ck_E1 (ck_S1 p2_s368_s ck_S0) ck_E0⟩ ck_X0 ck_l0 p2_s369_e
set_option maxRecDepth 100000 in
/-- GlacierMail.person -/
def p2_s370 : ck_Sum := ((8, 2, 12), 245, [.inr (.inr (.inl 1)), .inl (0, 7, []), .inl (10, 2147483647, [])], ([], [], []), ([], []), [(.inl 3, 245, ([], [], [])), (.inl 4, 245, ([], [], []))])
set_option maxRecDepth 100000 in
theorem p2_s370_e : ck_ok p2_O none [] [(139, [p2_s368])] 138 [] 82 p2_s370 = true := by decide +kernel
theorem p2_s370_s {X : Int → Int} {LX : Nat} : ck_Ok p2_O X LX 138 p2_s370 := ck_ok_s ⟨p2_nmu, ck_E1 (ck_S1 p2_s368_s ck_S0) ck_E0⟩ ck_X0 ck_l0 p2_s370_e
set_option maxRecDepth 100000 in
/-- GlacierMail$Rows.size -/
def p2_s371 : ck_Sum := ((0, 0, 0), 245, [.inr (.inr (.inl 10))], ([], [], []), ([], []), [(.inr (some (.inl (0, 24, []))), 245, ([], [], []))])
set_option maxRecDepth 100000 in
theorem p2_s371_e : ck_ok p2_O none [] [] 9 [] 76 p2_s371 = true := by decide +kernel
theorem p2_s371_s {X : Int → Int} {LX : Nat} : ck_Ok p2_O X LX 9 p2_s371 := ck_ok_s ⟨p2_nmu, ck_E0⟩ ck_X0 ck_l0 p2_s371_e
set_option maxRecDepth 100000 in
/-- GlacierMail$Rows.size -/
def p2_s374 : ck_Sum := ((0, 0, 0), 245, [.inr (.inr (.inl 220))], ([], [], []), ([], []), [(.inr (some (.inl (0, 24, []))), 245, ([], [], []))])
set_option maxRecDepth 100000 in
theorem p2_s374_e : ck_ok p2_O none [] [] 9 [] 76 p2_s374 = true := by decide +kernel
theorem p2_s374_s {X : Int → Int} {LX : Nat} : ck_Ok p2_O X LX 9 p2_s374 := ck_ok_s ⟨p2_nmu, ck_E0⟩ ck_X0 ck_l0 p2_s374_e
set_option maxRecDepth 100000 in
/-- java/util/Arrays.fill -/
def p2_s372 : ck_Sum := ((0, 0, 0), 245, [.inr (.inr (.inl 221)), .inl (ck_one 0)], ([], [], []), ([(221, 0, 47)], []), [(.inr none, 245, ([], [], []))])
set_option maxRecDepth 100000 in
theorem p2_s372_e : ck_ok p2_O none [] [] 8 [(5, [some (.inr (.inr (.inl 221))), some (.inl (ck_one 0)), some (.inl (0, 48, [])), some (.inl (ck_one 48))], ([], [], []), 100, .inl 2, true)] 130 p2_s372 = true := by decide +kernel
theorem p2_s372_s {X : Int → Int} {LX : Nat} : ck_Ok p2_O X LX 8 p2_s372 := ck_ok_s ⟨p2_nmu, ck_E0⟩ ck_X0 ck_l0 p2_s372_e
set_option maxRecDepth 100000 in
/-- GlacierMail$Rows.reset -/
def p2_s373 : ck_Sum := ((1, 0, 0), 245, [.inr (.inr (.inl 220)), .inl (0, 24, [])], ([], [], []), ([(220, 3, 3), (221, 0, 47)], []), [(.inr none, 245, ([], [], []))])
set_option maxRecDepth 100000 in
theorem p2_s373_e : ck_ok p2_O none [] [(8, [p2_s372])] 25 [] 96 p2_s373 = true := by decide +kernel
theorem p2_s373_s {X : Int → Int} {LX : Nat} : ck_Ok p2_O X LX 25 p2_s373 := ck_ok_s ⟨p2_nmu, ck_E1 (ck_S1 p2_s372_s ck_S0) ck_E0⟩ ck_X0 ck_l0 p2_s373_e
set_option maxRecDepth 100000 in
/-- GlacierMail$Rows.get -/
def p2_s375 : ck_Sum := ((0, 0, 0), 245, [.inr (.inr (.inl 10)), .inl ((-2147483648), 2147483647, []), .inl ((-2147483648), 2147483647, [])], ([], [], []), ([], []), [(.inr (some (.inl ((-1), 299, []))), 245, ([], [], []))])
set_option maxRecDepth 100000 in
theorem p2_s375_e : ck_ok p2_O none [] [] 10 [] 114 p2_s375 = true := by decide +kernel
theorem p2_s375_s {X : Int → Int} {LX : Nat} : ck_Ok p2_O X LX 10 p2_s375 := ck_ok_s ⟨p2_nmu, ck_E0⟩ ck_X0 ck_l0 p2_s375_e
set_option maxRecDepth 100000 in
/-- GlacierMail$State.isRock -/
def p2_s376 : ck_Sum := ((1, 0, 0), 245, [.inr (.inr (.inl 3)), .inl (0, 23, [])], ([], [], []), ([], []), [(.inr (some (.inl (ck_one 0))), 245, ([], [], [])), (.inr (some (.inl (ck_one 1))), 245, ([], [], []))])
set_option maxRecDepth 100000 in
theorem p2_s376_e : ck_ok p2_O none [] [(10, [p2_s375])] 28 [] 90 p2_s376 = true := by decide +kernel
theorem p2_s376_s {X : Int → Int} {LX : Nat} : ck_Ok p2_O X LX 28 p2_s376 := ck_ok_s ⟨p2_nmu, ck_E1 (ck_S1 p2_s375_s ck_S0) ck_E0⟩ ck_X0 ck_l0 p2_s376_e
set_option maxRecDepth 100000 in
/-- GlacierMail$Way.start -/
def p2_s377 : ck_Sum := ((0, 0, 0), 245, [.inr (.inr (.inl 206)), .inl ((-1), 299, []), .inl ((-1), 299, []), .inl ((-1), 299, []), .inl (ck_one 0)], ([], [], []), ([(206, 2, 8)], []), [(.inr none, 245, ([], [], [(206, 8, 8, ck_one 0), (206, 6, 6, ck_one 0), (206, 4, 4, ck_one (-1)), (206, 3, 3, ck_one 0), (206, 7, 7, ((-1), 299, [])), (206, 5, 5, ((-1), 299, [])), (206, 2, 2, ((-1), 299, []))]))])
set_option maxRecDepth 100000 in
theorem p2_s377_e : ck_ok p2_O none [] [] 29 [] 114 p2_s377 = true := by decide +kernel
theorem p2_s377_s {X : Int → Int} {LX : Nat} : ck_Ok p2_O X LX 29 p2_s377 := ck_ok_s ⟨p2_nmu, ck_E0⟩ ck_X0 ck_l0 p2_s377_e
set_option maxRecDepth 100000 in
/-- GlacierMail$Way.start -/
def p2_s378 : ck_Sum := ((0, 0, 0), 245, [.inr (.inr (.inl 206)), .inl ((-1), 299, []), .inl ((-1), 299, []), .inl ((-1), 299, []), .inl (ck_one 1)], ([], [], []), ([(206, 2, 8)], []), [(.inr none, 245, ([], [], [(206, 8, 8, ck_one 0), (206, 6, 6, ck_one 0), (206, 4, 4, ck_one (-1)), (206, 3, 3, ck_one 1), (206, 7, 7, ((-1), 299, [])), (206, 5, 5, ((-1), 299, [])), (206, 2, 2, ((-1), 299, []))]))])
set_option maxRecDepth 100000 in
theorem p2_s378_e : ck_ok p2_O none [] [] 29 [] 114 p2_s378 = true := by decide +kernel
theorem p2_s378_s {X : Int → Int} {LX : Nat} : ck_Ok p2_O X LX 29 p2_s378 := ck_ok_s ⟨p2_nmu, ck_E0⟩ ck_X0 ck_l0 p2_s378_e
set_option maxRecDepth 100000 in
/-- GlacierMail$Way.startLetter -/
def p2_s379 : ck_Sum := ((2, 0, 0), 245, [.inr (.inr (.inl 206)), .inl (0, 23, [])], ([], [], []), ([(206, 2, 8)], []), [(.inr none, 245, ([], [], [(206, 8, 8, ck_one 0), (206, 6, 6, ck_one 0), (206, 4, 4, ck_one (-1)), (206, 7, 7, ((-1), 299, [])), (206, 5, 5, ((-1), 299, [])), (206, 2, 2, ((-1), 299, []))]))])
set_option maxRecDepth 100000 in
theorem p2_s379_e : ck_ok p2_O none [] [(10, [p2_s375]), (28, [p2_s376]), (29, [p2_s377, p2_s378])] 27 [] 116 p2_s379 = true := by decide +kernel
theorem p2_s379_s {X : Int → Int} {LX : Nat} : ck_Ok p2_O X LX 27 p2_s379 := ck_ok_s ⟨p2_nmu, ck_E1 (ck_S1 p2_s375_s ck_S0) (ck_E1 (ck_S1 p2_s376_s ck_S0) (ck_E1 (ck_S1 p2_s377_s (ck_S1 p2_s378_s ck_S0)) ck_E0))⟩ ck_X0 ck_l0 p2_s379_e
set_option maxRecDepth 100000 in
/-- GlacierMail$Way.isOut -/
def p2_s380 : ck_Sum := ((0, 0, 0), 245, [.inr (.inr (.inl 206))], ([], [], []), ([], []), [(.inr (some (.inl (ck_one 0))), 245, ([], [], [(206, 5, 5, ((-2147483648), 98, []))])), (.inr (some (.inl (ck_one 1))), 245, ([], [], [(206, 5, 5, (10, 2147483647, []))]))])
set_option maxRecDepth 100000 in
theorem p2_s380_e : ck_ok p2_O none [] [] 31 [] 88 p2_s380 = true := by decide +kernel
theorem p2_s380_s {X : Int → Int} {LX : Nat} : ck_Ok p2_O X LX 31 p2_s380 := ck_ok_s ⟨p2_nmu, ck_E0⟩ ck_X0 ck_l0 p2_s380_e
set_option maxRecDepth 100000 in
/-- GlacierMail$Ice.heatIn -/
def p2_s381 : ck_Sum := ((0, 0, 0), 245, [.inr (.inr (.inl 200)), .inl ((-2147483648), 2147483647, [])], ([], [], []), ([], []), [(.inr (some (.inl (0, 9, []))), 245, ([], [], []))])
set_option maxRecDepth 100000 in
theorem p2_s381_e : ck_ok p2_O none [] [] 34 [] 92 p2_s381 = true := by decide +kernel
theorem p2_s381_s {X : Int → Int} {LX : Nat} : ck_Ok p2_O X LX 34 p2_s381 := ck_ok_s ⟨p2_nmu, ck_E0⟩ ck_X0 ck_l0 p2_s381_e
set_option maxRecDepth 100000 in
/-- GlacierMail$Way.deepAfter -/
def p2_s382 : ck_Sum := ((1, 0, 0), 245, [.inr (.inr (.inl 206))], ([], [], []), ([], []), [(.inr (some (.inl (0, 99, []))), 245, ([], [], []))])
set_option maxRecDepth 100000 in
theorem p2_s382_e : ck_ok p2_O none [] [(34, [p2_s381])] 33 [] 110 p2_s382 = true := by decide +kernel
theorem p2_s382_s {X : Int → Int} {LX : Nat} : ck_Ok p2_O X LX 33 p2_s382 := ck_ok_s ⟨p2_nmu, ck_E1 (ck_S1 p2_s381_s ck_S0) ck_E0⟩ ck_X0 ck_l0 p2_s382_e
set_option maxRecDepth 100000 in
/-- GlacierMail$Ice.floodsIn -/
def p2_s383 : ck_Sum := ((0, 0, 0), 245, [.inr (.inr (.inl 200)), .inl ((-2147483648), 2147483647, [])], ([], [], []), ([], []), [(.inr (some (.inl (ck_one 0))), 245, ([], [], [])), (.inr (some (.inl ((-2147483648), 2147483647, []))), 245, ([], [], []))])
set_option maxRecDepth 100000 in
theorem p2_s383_e : ck_ok p2_O none [] [] 44 [] 92 p2_s383 = true := by decide +kernel
theorem p2_s383_s {X : Int → Int} {LX : Nat} : ck_Ok p2_O X LX 44 p2_s383 := ck_ok_s ⟨p2_nmu, ck_E0⟩ ck_X0 ck_l0 p2_s383_e
set_option maxRecDepth 100000 in
/-- GlacierMail$Way.takeFloods -/
def p2_s384 : ck_Sum := ((1, 0, 0), 245, [.inr (.inr (.inl 206))], ([], [], []), ([(206, 5, 5), (206, 8, 8)], []), [(.inr none, 245, ([], [], []))])
set_option maxRecDepth 100000 in
theorem p2_s384_e : ck_ok p2_O none [] [(44, [p2_s383]), (9, [p2_s159]), (10, [p2_s160])] 43 [(22, [some (.inr (.inr (.inl 206))), some (.inr (.inr (.inl 6))), some (.inl ((-2147483648), 2147483647, [])), some (.inl (0, 9, [])), none], ([], [], []), 100, .inl 3, true)] 290 p2_s384 = true := by decide +kernel
theorem p2_s384_s {X : Int → Int} {LX : Nat} : ck_Ok p2_O X LX 43 p2_s384 := ck_ok_s ⟨p2_nmu, ck_E1 (ck_S1 p2_s383_s ck_S0) (ck_E1 (ck_S1 p2_s159_s ck_S0) (ck_E1 (ck_S1 p2_s160_s ck_S0) ck_E0))⟩ ck_X0 ck_l0 p2_s384_e
set_option maxRecDepth 100000 in
/-- GlacierMail$Way.step -/
def p2_s385 : ck_Sum := ((2, 0, 0), 245, [.inr (.inr (.inl 206))], ([], [(3, 8, 0)], []), ([(206, 5, 8)], []), [(.inr none, 245, ([], [], []))])
set_option maxRecDepth 100000 in
theorem p2_s385_e : ck_ok p2_O none [] [(31, [p2_s380]), (33, [p2_s382]), (35, [p2_s335]), (43, [p2_s384])] 32 [] 134 p2_s385 = true := by decide +kernel
theorem p2_s385_s {X : Int → Int} {LX : Nat} : ck_Ok p2_O X LX 32 p2_s385 := ck_ok_s ⟨p2_nmu, ck_E1 (ck_S1 p2_s380_s ck_S0) (ck_E1 (ck_S1 p2_s382_s ck_S0) (ck_E1 (ck_S1 p2_s335_s ck_S0) (ck_E1 (ck_S1 p2_s384_s ck_S0) ck_E0)))⟩ ck_X0 ck_l0 p2_s385_e
set_option maxRecDepth 100000 in
/-- GlacierMail$Way.runOut -/
def p2_s386 : ck_Sum := ((3, 0, 0), 245, [.inr (.inr (.inl 206)), .inl (0, 299, [])], ([], [(3, 8, 0)], []), ([(206, 5, 8)], []), [(.inr (some (.inl ((-2147483648), 299, []))), 245, ([], [], []))])
set_option maxRecDepth 100000 in
theorem p2_s386_e : ck_ok p2_O none [] [(31, [p2_s380]), (32, [p2_s385])] 30 [(5, [some (.inr (.inr (.inl 206))), some (.inl (0, 299, [])), some (.inl ((-2147483648), 2147483647, []))], ([], [(3, 8, 0)], []), 100, .inl 2, true)] 134 p2_s386 = true := by decide +kernel
theorem p2_s386_s {X : Int → Int} {LX : Nat} : ck_Ok p2_O X LX 30 p2_s386 := ck_ok_s ⟨p2_nmu, ck_E1 (ck_S1 p2_s380_s ck_S0) (ck_E1 (ck_S1 p2_s385_s ck_S0) ck_E0)⟩ ck_X0 ck_l0 p2_s386_e
set_option maxRecDepth 100000 in
/-- GlacierMail$Rows.put -/
def p2_s415 : ck_Sum := ((0, 0, 0), 245, [.inr (.inr (.inl 220)), .inl (0, 23, []), .inl (ck_one 0), .inl ((-2147483648), 299, [])], ([], [], []), ([(221, 0, 0), (221, 2, 2), (221, 4, 4), (221, 6, 6), (221, 8, 8), (221, 10, 10), (221, 12, 12), (221, 14, 14), (221, 16, 16), (221, 18, 18), (221, 20, 20), (221, 22, 22), (221, 24, 24), (221, 26, 26), (221, 28, 28), (221, 30, 30), (221, 32, 32), (221, 34, 34), (221, 36, 36), (221, 38, 38), (221, 40, 40), (221, 42, 42), (221, 44, 44), (221, 46, 46)], []), [(.inr none, 245, ([], [], []))])
set_option maxRecDepth 100000 in
theorem p2_s415_e : ck_ok p2_O none [] [] 45 [] 116 p2_s415 = true := by decide +kernel
theorem p2_s415_s {X : Int → Int} {LX : Nat} : ck_Ok p2_O X LX 45 p2_s415 := ck_ok_s ⟨p2_nmu, ck_E0⟩ ck_X0 ck_l0 p2_s415_e
set_option maxRecDepth 100000 in
/-- GlacierMail$Rows.put -/
def p2_s416 : ck_Sum := ((0, 0, 0), 245, [.inr (.inr (.inl 220)), .inl (0, 23, []), .inl (ck_one 1), .inl (0, 99, [])], ([], [], []), ([(221, 1, 1), (221, 3, 3), (221, 5, 5), (221, 7, 7), (221, 9, 9), (221, 11, 11), (221, 13, 13), (221, 15, 15), (221, 17, 17), (221, 19, 19), (221, 21, 21), (221, 23, 23), (221, 25, 25), (221, 27, 27), (221, 29, 29), (221, 31, 31), (221, 33, 33), (221, 35, 35), (221, 37, 37), (221, 39, 39), (221, 41, 41), (221, 43, 43), (221, 45, 45), (221, 47, 47)], []), [(.inr none, 245, ([], [], []))])
set_option maxRecDepth 100000 in
theorem p2_s416_e : ck_ok p2_O none [] [] 45 [] 116 p2_s416 = true := by decide +kernel
theorem p2_s416_s {X : Int → Int} {LX : Nat} : ck_Ok p2_O X LX 45 p2_s416 := ck_ok_s ⟨p2_nmu, ck_E0⟩ ck_X0 ck_l0 p2_s416_e
set_option maxRecDepth 100000 in
/-- GlacierMail.reckonEnds -/
def p2_s417 : ck_Sum := ((4, 0, 0), 245, [.inr (.inr (.inl 1))], ([], [(3, 8, 0)], []), ([(1, 15, 15), (206, 2, 8), (220, 3, 3), (221, 0, 47)], []), [(.inr none, 245, ([], [], [(1, 15, 15, ck_one 1)]))])
set_option maxRecDepth 100000 in
theorem p2_s417_e : ck_ok p2_O none [] [(9, [p2_s371, p2_s374]), (25, [p2_s373]), (27, [p2_s379]), (30, [p2_s386]), (45, [p2_s415, p2_s416])] 24 [(27, [some (.inr (.inr (.inl 1))), some (.inl (0, 24, []))], ([], [(3, 8, 0)], [(1, 15, 15, ck_one 0)]), 100, .inl 1, true)] 206 p2_s417 = true := by decide +kernel
theorem p2_s417_s {X : Int → Int} {LX : Nat} : ck_Ok p2_O X LX 24 p2_s417 := ck_ok_s ⟨p2_nmu, ck_E1 (ck_S1 p2_s371_s (ck_S1 p2_s374_s ck_S0)) (ck_E1 (ck_S1 p2_s373_s ck_S0) (ck_E1 (ck_S1 p2_s379_s ck_S0) (ck_E1 (ck_S1 p2_s386_s ck_S0) (ck_E1 (ck_S1 p2_s415_s (ck_S1 p2_s416_s ck_S0)) ck_E0))))⟩ ck_X0 ck_l0 p2_s417_e
set_option maxRecDepth 100000 in
/-- GlacierMail$Rows.get -/
def p2_s419 : ck_Sum := ((0, 0, 0), 245, [.inr (.inr (.inl 220)), .inl ((-2147483648), 2147483647, []), .inl ((-2147483648), 2147483647, [])], ([], [], []), ([], []), [(.inr (some (.inl ((-2147483648), 299, []))), 245, ([], [], []))])
set_option maxRecDepth 100000 in
theorem p2_s419_e : ck_ok p2_O none [] [] 10 [] 114 p2_s419 = true := by decide +kernel
theorem p2_s419_s {X : Int → Int} {LX : Nat} : ck_Ok p2_O X LX 10 p2_s419 := ck_ok_s ⟨p2_nmu, ck_E0⟩ ck_X0 ck_l0 p2_s419_e
set_option maxRecDepth 100000 in
/-- GlacierMail.isOutBy -/
def p2_s420 : ck_Sum := ((0, 0, 0), 245, [.inr (.inr (.inl 1)), .inl ((-2147483648), 299, []), .inl (0, 299, [])], ([], [], []), ([], []), [(.inr (some (.inl (ck_one 0))), 245, ([], [], [])), (.inr (some (.inl (ck_one 1))), 245, ([], [], []))])
set_option maxRecDepth 100000 in
theorem p2_s420_e : ck_ok p2_O none [] [] 67 [] 88 p2_s420 = true := by decide +kernel
theorem p2_s420_s {X : Int → Int} {LX : Nat} : ck_Ok p2_O X LX 67 p2_s420 := ck_ok_s ⟨p2_nmu, ck_E0⟩ ck_X0 ck_l0 p2_s420_e
set_option maxRecDepth 100000 in
/-- GlacierMail.waits -/
def p2_s446 : ck_Sum := ((2, 0, 0), 245, [.inr (.inr (.inl 1)), .inl (0, 23, [])], ([], [], [(3, 6, 6, (0, 299, [(10, 0)]))]), ([], []), [(.inr (some (.inl (ck_one 0))), 245, ([], [], [])), (.inr (some (.inl (ck_one 1))), 245, ([], [], []))])
set_option maxRecDepth 100000 in
theorem p2_s446_e : ck_ok p2_O none [] [(28, [p2_s376]), (10, [p2_s375, p2_s419]), (67, [p2_s420])] 66 [] 134 p2_s446 = true := by decide +kernel
theorem p2_s446_s {X : Int → Int} {LX : Nat} : ck_Ok p2_O X LX 66 p2_s446 := ck_ok_s ⟨p2_nmu, ck_E1 (ck_S1 p2_s376_s ck_S0) (ck_E1 (ck_S1 p2_s375_s (ck_S1 p2_s419_s ck_S0)) (ck_E1 (ck_S1 p2_s420_s ck_S0) ck_E0))⟩ ck_X0 ck_l0 p2_s446_e
set_option maxRecDepth 100000 in
/-- GlacierMail.waiting -/
def p2_s447 : ck_Sum := ((5, 0, 0), 245, [.inr (.inr (.inl 1)), .inl (0, 7, [])], ([], [(3, 8, 0)], [(3, 6, 6, (0, 299, [(10, 0)]))]), ([(1, 15, 15), (206, 2, 8), (220, 3, 3), (221, 0, 47)], []), [(.inr (some (.inl ((-2147483648), 2147483647, []))), 245, ([], [], [(1, 15, 15, ck_one 1)]))])
set_option maxRecDepth 100000 in
theorem p2_s447_e : ck_ok p2_O none [] [(24, [p2_s417]), (9, [p2_s371]), (10, [p2_s375]), (66, [p2_s446])] 65 [(8, [some (.inr (.inr (.inl 1))), some (.inl (0, 7, [])), some (.inl ((-2147483648), 2147483647, [])), some (.inl (0, 24, [])), none], ([], [(3, 8, 0)], [(1, 15, 15, ck_one 1), (3, 6, 6, (0, 299, [(10, 0)]))]), 100, .inl 3, true)] 210 p2_s447 = true := by decide +kernel
theorem p2_s447_s {X : Int → Int} {LX : Nat} : ck_Ok p2_O X LX 65 p2_s447 := ck_ok_s ⟨p2_nmu, ck_E1 (ck_S1 p2_s417_s ck_S0) (ck_E1 (ck_S1 p2_s371_s ck_S0) (ck_E1 (ck_S1 p2_s375_s ck_S0) (ck_E1 (ck_S1 p2_s446_s ck_S0) ck_E0)))⟩ ck_X0 ck_l0 p2_s447_e
set_option maxRecDepth 100000 in
/-- GlacierMail.lettersWith -/
def p2_s448 : ck_Sum := ((1, 0, 0), 245, [.inr (.inr (.inl 1)), .inl (ck_one 5), .inl (0, 7, [])], ([], [], []), ([], []), [(.inr (some (.inl ((-2147483648), 2147483647, []))), 245, ([], [], []))])
set_option maxRecDepth 100000 in
theorem p2_s448_e : ck_ok p2_O none [] [(9, [p2_s371]), (10, [p2_s375])] 140 [(5, [some (.inr (.inr (.inl 1))), some (.inl (ck_one 5)), some (.inl (0, 7, [])), some (.inl ((-2147483648), 2147483647, [])), some (.inl (0, 24, []))], ([], [], []), 100, .inl 4, true)] 162 p2_s448 = true := by decide +kernel
theorem p2_s448_s {X : Int → Int} {LX : Nat} : ck_Ok p2_O X LX 140 p2_s448 := ck_ok_s ⟨p2_nmu, ck_E1 (ck_S1 p2_s371_s ck_S0) (ck_E1 (ck_S1 p2_s375_s ck_S0) ck_E0)⟩ ck_X0 ck_l0 p2_s448_e
set_option maxRecDepth 100000 in
/-- GlacierMail.lettersWith -/
def p2_s449 : ck_Sum := ((1, 0, 0), 245, [.inr (.inr (.inl 1)), .inl (ck_one 0), .inl (0, 7, [])], ([], [], []), ([], []), [(.inr (some (.inl ((-2147483648), 2147483647, []))), 245, ([], [], []))])
set_option maxRecDepth 100000 in
theorem p2_s449_e : ck_ok p2_O none [] [(9, [p2_s371]), (10, [p2_s375])] 140 [(5, [some (.inr (.inr (.inl 1))), some (.inl (ck_one 0)), some (.inl (0, 7, [])), some (.inl ((-2147483648), 2147483647, [])), some (.inl (0, 24, []))], ([], [], []), 100, .inl 4, true)] 162 p2_s449 = true := by decide +kernel
theorem p2_s449_s {X : Int → Int} {LX : Nat} : ck_Ok p2_O X LX 140 p2_s449 := ck_ok_s ⟨p2_nmu, ck_E1 (ck_S1 p2_s371_s ck_S0) (ck_E1 (ck_S1 p2_s375_s ck_S0) ck_E0)⟩ ck_X0 ck_l0 p2_s449_e
set_option maxRecDepth 100000 in
/-- GlacierMail$Rows.get -/
def p2_s450 : ck_Sum := ((0, 0, 0), 245, [.inr (.inr (.inl 8)), .inl ((-2147483648), 2147483647, []), .inl ((-2147483648), 2147483647, [])], ([], [], []), ([], []), [(.inr (some (.inl ((-1), 98, []))), 245, ([], [], []))])
set_option maxRecDepth 100000 in
theorem p2_s450_e : ck_ok p2_O none [] [] 10 [] 114 p2_s450 = true := by decide +kernel
theorem p2_s450_s {X : Int → Int} {LX : Nat} : ck_Ok p2_O X LX 10 p2_s450 := ck_ok_s ⟨p2_nmu, ck_E0⟩ ck_X0 ck_l0 p2_s450_e
set_option maxRecDepth 100000 in
/-- GlacierMail.person -/
def p2_s451 : ck_Sum := ((8, 2, 12), 245, [.inr (.inr (.inl 1)), .inl (0, 7, []), .inl (0, 9, [])], ([], [(3, 8, 0)], [(3, 6, 6, (0, 299, [(10, 0)]))]), ([(1, 15, 15), (206, 2, 8), (220, 3, 3), (221, 0, 47)], []), [(.inl 3, 245, ([], [], [])), (.inl 4, 245, ([], [], [])), (.inr (some (.inl ((-2147483648), 2147483647, []))), 245, ([], [], []))])
set_option maxRecDepth 100000 in
theorem p2_s451_e : ck_ok p2_O none [] [(139, [p2_s368]), (65, [p2_s447]), (140, [p2_s448, p2_s449]), (10, [p2_s450])] 138 [] 94 p2_s451 = true := by decide +kernel
theorem p2_s451_s {X : Int → Int} {LX : Nat} : ck_Ok p2_O X LX 138 p2_s451 := ck_ok_s ⟨p2_nmu, ck_E1 (ck_S1 p2_s368_s ck_S0) (ck_E1 (ck_S1 p2_s447_s ck_S0) (ck_E1 (ck_S1 p2_s448_s (ck_S1 p2_s449_s ck_S0)) (ck_E1 (ck_S1 p2_s450_s ck_S0) ck_E0)))⟩ ck_X0 ck_l0 p2_s451_e
set_option maxRecDepth 100000 in
/-- GlacierMailModel.in -/
def p2_s452 : ck_Sum := ((0, 0, 0), 245, [.inl ((-2147483648), (-1), []), .inl (ck_one 0), .inl ((-1), 7, [])], ([], [], []), ([], []), [(.inr (some (.inl (ck_one 0))), 245, ([], [], []))])
set_option maxRecDepth 100000 in
theorem p2_s452_e : ck_ok p2_O none [] [] 286 [] 80 p2_s452 = true := by decide +kernel
theorem p2_s452_s {X : Int → Int} {LX : Nat} : ck_Ok p2_O X LX 286 p2_s452 := ck_ok_s ⟨p2_nmu, ck_E0⟩ ck_X0 ck_l0 p2_s452_e
set_option maxRecDepth 100000 in
/-- GlacierMailModel.noPerson -/
def p2_s453 : ck_Sum := ((1, 0, 0), 245, [.inr (.inr (.inl 226)), .inl ((-2147483648), (-1), [])], ([], [], [(227, 3, 3, (0, 8, [(21, 0)]))]), ([], []), [(.inr (some (.inl (ck_one 1))), 245, ([], [], []))])
set_option maxRecDepth 100000 in
theorem p2_s453_e : ck_ok p2_O none [] [(253, [p2_s214]), (286, [p2_s452])] 298 [] 92 p2_s453 = true := by decide +kernel
theorem p2_s453_s {X : Int → Int} {LX : Nat} : ck_Ok p2_O X LX 298 p2_s453 := ck_ok_s ⟨p2_nmu, ck_E1 (ck_S1 p2_s214_s ck_S0) (ck_E1 (ck_S1 p2_s452_s ck_S0) ck_E0)⟩ ck_X0 ck_l0 p2_s453_e
set_option maxRecDepth 100000 in
/-- GlacierMailModel.person -/
def p2_s454 : ck_Sum := ((2, 0, 0), 245, [.inr (.inr (.inl 226)), .inl ((-2147483648), (-1), []), .inl ((-2147483648), 2147483647, [])], ([], [], [(227, 3, 3, (0, 8, [(21, 0)]))]), ([(226, 0, 0)], []), [(.inr (some (.inl (ck_one 0))), 245, ([], [], [(226, 0, 0, ck_one 1)]))])
set_option maxRecDepth 100000 in
theorem p2_s454_e : ck_ok p2_O none [] [(298, [p2_s453]), (282, [p2_s268])] 297 [] 94 p2_s454 = true := by decide +kernel
theorem p2_s454_s {X : Int → Int} {LX : Nat} : ck_Ok p2_O X LX 297 p2_s454 := ck_ok_s ⟨p2_nmu, ck_E1 (ck_S1 p2_s453_s ck_S0) (ck_E1 (ck_S1 p2_s268_s ck_S0) ck_E0)⟩ ck_X0 ck_l0 p2_s454_e
set_option maxRecDepth 100000 in
/-- GlacierMailModel.in -/
def p2_s455 : ck_Sum := ((0, 0, 0), 245, [.inl (8, 2147483647, []), .inl (ck_one 0), .inl ((-1), 7, [])], ([], [], []), ([], []), [(.inr (some (.inl (ck_one 0))), 245, ([], [], []))])
set_option maxRecDepth 100000 in
theorem p2_s455_e : ck_ok p2_O none [] [] 286 [] 86 p2_s455 = true := by decide +kernel
theorem p2_s455_s {X : Int → Int} {LX : Nat} : ck_Ok p2_O X LX 286 p2_s455 := ck_ok_s ⟨p2_nmu, ck_E0⟩ ck_X0 ck_l0 p2_s455_e
set_option maxRecDepth 100000 in
/-- GlacierMailModel.noPerson -/
def p2_s456 : ck_Sum := ((1, 0, 0), 245, [.inr (.inr (.inl 226)), .inl (8, 2147483647, [])], ([], [], [(227, 3, 3, (0, 8, [(21, 0)]))]), ([], []), [(.inr (some (.inl (ck_one 1))), 245, ([], [], []))])
set_option maxRecDepth 100000 in
theorem p2_s456_e : ck_ok p2_O none [] [(253, [p2_s214]), (286, [p2_s455])] 298 [] 92 p2_s456 = true := by decide +kernel
theorem p2_s456_s {X : Int → Int} {LX : Nat} : ck_Ok p2_O X LX 298 p2_s456 := ck_ok_s ⟨p2_nmu, ck_E1 (ck_S1 p2_s214_s ck_S0) (ck_E1 (ck_S1 p2_s455_s ck_S0) ck_E0)⟩ ck_X0 ck_l0 p2_s456_e
set_option maxRecDepth 100000 in
/-- GlacierMailModel.person -/
def p2_s457 : ck_Sum := ((2, 0, 0), 245, [.inr (.inr (.inl 226)), .inl (8, 2147483647, []), .inl ((-2147483648), 2147483647, [])], ([], [], [(227, 3, 3, (0, 8, [(21, 0)]))]), ([(226, 0, 0)], []), [(.inr (some (.inl (ck_one 0))), 245, ([], [], [(226, 0, 0, ck_one 1)]))])
set_option maxRecDepth 100000 in
theorem p2_s457_e : ck_ok p2_O none [] [(298, [p2_s456]), (282, [p2_s268])] 297 [] 94 p2_s457 = true := by decide +kernel
theorem p2_s457_s {X : Int → Int} {LX : Nat} : ck_Ok p2_O X LX 297 p2_s457 := ck_ok_s ⟨p2_nmu, ck_E1 (ck_S1 p2_s456_s ck_S0) (ck_E1 (ck_S1 p2_s268_s ck_S0) ck_E0)⟩ ck_X0 ck_l0 p2_s457_e
set_option maxRecDepth 100000 in
/-- GlacierMailModel.in -/
def p2_s458 : ck_Sum := ((0, 0, 0), 245, [.inl (0, 7, []), .inl (ck_one 0), .inl ((-1), 7, [])], ([], [], []), ([], []), [(.inr (some (.inl (ck_one 0))), 245, ([], [], [])), (.inr (some (.inl (ck_one 1))), 245, ([], [], []))])
set_option maxRecDepth 100000 in
theorem p2_s458_e : ck_ok p2_O none [] [] 286 [] 88 p2_s458 = true := by decide +kernel
theorem p2_s458_s {X : Int → Int} {LX : Nat} : ck_Ok p2_O X LX 286 p2_s458 := ck_ok_s ⟨p2_nmu, ck_E0⟩ ck_X0 ck_l0 p2_s458_e
set_option maxRecDepth 100000 in
/-- GlacierMailModel.noPerson -/
def p2_s459 : ck_Sum := ((1, 0, 0), 245, [.inr (.inr (.inl 226)), .inl (0, 7, [])], ([], [], [(227, 3, 3, (0, 8, [(21, 0)]))]), ([], []), [(.inr (some (.inl (ck_one 1))), 245, ([], [], [])), (.inr (some (.inl (ck_one 0))), 245, ([], [], []))])
set_option maxRecDepth 100000 in
theorem p2_s459_e : ck_ok p2_O none [] [(253, [p2_s214]), (286, [p2_s458])] 298 [] 92 p2_s459 = true := by decide +kernel
theorem p2_s459_s {X : Int → Int} {LX : Nat} : ck_Ok p2_O X LX 298 p2_s459 := ck_ok_s ⟨p2_nmu, ck_E1 (ck_S1 p2_s214_s ck_S0) (ck_E1 (ck_S1 p2_s458_s ck_S0) ck_E0)⟩ ck_X0 ck_l0 p2_s459_e
set_option maxRecDepth 100000 in
/-- GlacierMailModel.in -/
def p2_s460 : ck_Sum := ((0, 0, 0), 245, [.inl ((-2147483648), (-1), []), .inl (ck_one 0), .inl (ck_one 5)], ([], [], []), ([], []), [(.inr (some (.inl (ck_one 0))), 245, ([], [], []))])
set_option maxRecDepth 100000 in
theorem p2_s460_e : ck_ok p2_O none [] [] 286 [] 80 p2_s460 = true := by decide +kernel
theorem p2_s460_s {X : Int → Int} {LX : Nat} : ck_Ok p2_O X LX 286 p2_s460 := ck_ok_s ⟨p2_nmu, ck_E0⟩ ck_X0 ck_l0 p2_s460_e
set_option maxRecDepth 100000 in
/-- GlacierMailModel.person -/
def p2_s461 : ck_Sum := ((2, 0, 0), 245, [.inr (.inr (.inl 226)), .inl (0, 7, []), .inl ((-2147483648), (-1), [])], ([], [], [(227, 3, 3, (0, 8, [(21, 0)]))]), ([(226, 0, 0)], []), [(.inr (some (.inl (ck_one 0))), 245, ([], [], [(226, 0, 0, (1, 2, []))]))])
set_option maxRecDepth 100000 in
theorem p2_s461_e : ck_ok p2_O none [] [(298, [p2_s459]), (282, [p2_s268, p2_s269, p2_s272]), (286, [p2_s460])] 297 [] 116 p2_s461 = true := by decide +kernel
theorem p2_s461_s {X : Int → Int} {LX : Nat} : ck_Ok p2_O X LX 297 p2_s461 := ck_ok_s ⟨p2_nmu, ck_E1 (ck_S1 p2_s459_s ck_S0) (ck_E1 (ck_S1 p2_s268_s (ck_S1 p2_s269_s (ck_S1 p2_s272_s ck_S0))) (ck_E1 (ck_S1 p2_s460_s ck_S0) ck_E0))⟩ ck_X0 ck_l0 p2_s461_e
set_option maxRecDepth 100000 in
/-- GlacierMailModel.in -/
def p2_s462 : ck_Sum := ((0, 0, 0), 245, [.inl (10, 2147483647, []), .inl (ck_one 0), .inl (ck_one 5)], ([], [], []), ([], []), [(.inr (some (.inl (ck_one 0))), 245, ([], [], []))])
set_option maxRecDepth 100000 in
theorem p2_s462_e : ck_ok p2_O none [] [] 286 [] 86 p2_s462 = true := by decide +kernel
theorem p2_s462_s {X : Int → Int} {LX : Nat} : ck_Ok p2_O X LX 286 p2_s462 := ck_ok_s ⟨p2_nmu, ck_E0⟩ ck_X0 ck_l0 p2_s462_e
set_option maxRecDepth 100000 in
/-- GlacierMailModel.person -/
def p2_s463 : ck_Sum := ((2, 0, 0), 245, [.inr (.inr (.inl 226)), .inl (0, 7, []), .inl (10, 2147483647, [])], ([], [], [(227, 3, 3, (0, 8, [(21, 0)]))]), ([(226, 0, 0)], []), [(.inr (some (.inl (ck_one 0))), 245, ([], [], [(226, 0, 0, (1, 2, []))]))])
set_option maxRecDepth 100000 in
theorem p2_s463_e : ck_ok p2_O none [] [(298, [p2_s459]), (282, [p2_s268, p2_s269, p2_s272]), (286, [p2_s462])] 297 [] 116 p2_s463 = true := by decide +kernel
theorem p2_s463_s {X : Int → Int} {LX : Nat} : ck_Ok p2_O X LX 297 p2_s463 := ck_ok_s ⟨p2_nmu, ck_E1 (ck_S1 p2_s459_s ck_S0) (ck_E1 (ck_S1 p2_s268_s (ck_S1 p2_s269_s (ck_S1 p2_s272_s ck_S0))) (ck_E1 (ck_S1 p2_s462_s ck_S0) ck_E0))⟩ ck_X0 ck_l0 p2_s463_e
set_option maxRecDepth 100000 in
/-- GlacierMailModel.in -/
def p2_s464 : ck_Sum := ((0, 0, 0), 245, [.inl (0, 9, []), .inl (ck_one 0), .inl (ck_one 5)], ([], [], []), ([], []), [(.inr (some (.inl (ck_one 0))), 245, ([], [], [])), (.inr (some (.inl (ck_one 1))), 245, ([], [], []))])
set_option maxRecDepth 100000 in
theorem p2_s464_e : ck_ok p2_O none [] [] 286 [] 88 p2_s464 = true := by decide +kernel
theorem p2_s464_s {X : Int → Int} {LX : Nat} : ck_Ok p2_O X LX 286 p2_s464 := ck_ok_s ⟨p2_nmu, ck_E0⟩ ck_X0 ck_l0 p2_s464_e
set_option maxRecDepth 100000 in
/-- GlacierMailModel.ofLetter -/
def p2_s520 : ck_Sum := ((0, 0, 0), 245, [.inr (.inr (.inl 226)), .inl (0, 23, []), .inl (ck_one 1)], ([], [], []), ([], []), [(.inr (some (.inl (ck_one (-1)))), 245, ([], [], [])), (.inr (some (.inl (0, 7, []))), 245, ([], [], []))])
set_option maxRecDepth 100000 in
theorem p2_s520_e : ck_ok p2_O none [] [] 301 [] 92 p2_s520 = true := by decide +kernel
theorem p2_s520_s {X : Int → Int} {LX : Nat} : ck_Ok p2_O X LX 301 p2_s520 := ck_ok_s ⟨p2_nmu, ck_E0⟩ ck_X0 ck_l0 p2_s520_e
set_option maxRecDepth 100000 in
/-- GlacierMailModel.ofLetter -/
def p2_s480 : ck_Sum := ((0, 0, 0), 245, [.inr (.inr (.inl 226)), .inl (0, 23, []), .inl (ck_one 5)], ([], [], []), ([], []), [(.inr (some (.inl (ck_one (-1)))), 245, ([], [], [])), (.inr (some (.inl (0, 7, []))), 245, ([], [], []))])
set_option maxRecDepth 100000 in
theorem p2_s480_e : ck_ok p2_O none [] [] 301 [] 92 p2_s480 = true := by decide +kernel
theorem p2_s480_s {X : Int → Int} {LX : Nat} : ck_Ok p2_O X LX 301 p2_s480 := ck_ok_s ⟨p2_nmu, ck_E0⟩ ck_X0 ck_l0 p2_s480_e
set_option maxRecDepth 100000 in
/-- GlacierMailModel.ofLetter -/
def p2_s472 : ck_Sum := ((0, 0, 0), 245, [.inr (.inr (.inl 226)), .inl (0, 23, []), .inl (ck_one 0)], ([], [], []), ([], []), [(.inr (some (.inl (ck_one (-1)))), 245, ([], [], [])), (.inr (some (.inl (0, 7, []))), 245, ([], [], []))])
set_option maxRecDepth 100000 in
theorem p2_s472_e : ck_ok p2_O none [] [] 301 [] 92 p2_s472 = true := by decide +kernel
theorem p2_s472_s {X : Int → Int} {LX : Nat} : ck_Ok p2_O X LX 301 p2_s472 := ck_ok_s ⟨p2_nmu, ck_E0⟩ ck_X0 ck_l0 p2_s472_e
set_option maxRecDepth 100000 in
/-- GlacierMailModel.isRock -/
def p2_s473 : ck_Sum := ((1, 0, 0), 245, [.inr (.inr (.inl 226)), .inl (0, 23, [])], ([], [], []), ([], []), [(.inr (some (.inl (ck_one 1))), 245, ([], [], [])), (.inr (some (.inl (ck_one 0))), 245, ([], [], []))])
set_option maxRecDepth 100000 in
theorem p2_s473_e : ck_ok p2_O none [] [(301, [p2_s472])] 303 [] 86 p2_s473 = true := by decide +kernel
theorem p2_s473_s {X : Int → Int} {LX : Nat} : ck_Ok p2_O X LX 303 p2_s473 := ck_ok_s ⟨p2_nmu, ck_E1 (ck_S1 p2_s472_s ck_S0) ck_E0⟩ ck_X0 ck_l0 p2_s473_e
set_option maxRecDepth 100000 in
/-- GlacierMailModel.ofLetter -/
def p2_s469 : ck_Sum := ((0, 0, 0), 245, [.inr (.inr (.inl 226)), .inl (0, 23, []), .inl (ck_one 2)], ([], [], []), ([], []), [(.inr (some (.inl (0, 6, []))), 245, ([], [], []))])
set_option maxRecDepth 100000 in
theorem p2_s469_e : ck_ok p2_O none [] [] 301 [] 92 p2_s469 = true := by decide +kernel
theorem p2_s469_s {X : Int → Int} {LX : Nat} : ck_Ok p2_O X LX 301 p2_s469 := ck_ok_s ⟨p2_nmu, ck_E0⟩ ck_X0 ck_l0 p2_s469_e
set_option maxRecDepth 100000 in
/-- GlacierMailModel.ofLetter -/
def p2_s470 : ck_Sum := ((0, 0, 0), 245, [.inr (.inr (.inl 226)), .inl (0, 23, []), .inl (ck_one 4)], ([], [], []), ([], []), [(.inr (some (.inl (0, 98, []))), 245, ([], [], []))])
set_option maxRecDepth 100000 in
theorem p2_s470_e : ck_ok p2_O none [] [] 301 [] 92 p2_s470 = true := by decide +kernel
theorem p2_s470_s {X : Int → Int} {LX : Nat} : ck_Ok p2_O X LX 301 p2_s470 := ck_ok_s ⟨p2_nmu, ck_E0⟩ ck_X0 ck_l0 p2_s470_e
set_option maxRecDepth 100000 in
/-- GlacierMailModel.ofLetter -/
def p2_s471 : ck_Sum := ((0, 0, 0), 245, [.inr (.inr (.inl 226)), .inl (0, 23, []), .inl (ck_one 3)], ([], [], []), ([], []), [(.inr (some (.inl (0, 299, []))), 245, ([], [], []))])
set_option maxRecDepth 100000 in
theorem p2_s471_e : ck_ok p2_O none [] [] 301 [] 92 p2_s471 = true := by decide +kernel
theorem p2_s471_s {X : Int → Int} {LX : Nat} : ck_Ok p2_O X LX 301 p2_s471 := ck_ok_s ⟨p2_nmu, ck_E0⟩ ck_X0 ck_l0 p2_s471_e
set_option maxRecDepth 100000 in
/-- GlacierMailModel.floods -/
def p2_s474 : ck_Sum := ((0, 0, 0), 245, [.inr (.inr (.inl 226)), .inl (0, 128, []), .inl (0, 299, []), .inl ((-1), 7, [])], ([], [], [(227, 5, 5, (0, 8, [(23, 0)]))]), ([(226, 30, 30)], []), [(.inr (some (.inl (0, 288, []))), 245, ([], [], []))])
set_option maxRecDepth 100000 in
theorem p2_s474_e : ck_okp p2_O [] 307 [] [(6, ([some (.inr (.inr (.inl 226))), some (.inl (0, 128, [])), some (.inl (0, 299, [])), some (.inl ((-1), 7, [])), some (.inl (0, 288, [])), some (.inl (ck_one 8)), some (.inl (ck_one 92))], ([], [], [(227, 5, 5, (8, 8, [(23, 0)]))]), 2000000, .inl 4, true), 0, 0, 245), (6, ([some (.inr (.inr (.inl 226))), some (.inl (0, 128, [])), some (.inl (0, 299, [])), some (.inl ((-1), 7, [])), some (.inl (0, 268, [])), some (.inl (ck_one 7)), some (.inl (ck_one 89))], ([], [], [(227, 5, 5, (7, 8, [(23, 0)]))]), 2000001, .inl 4, true), 0, 0, 245), (6, ([some (.inr (.inr (.inl 226))), some (.inl (0, 128, [])), some (.inl (0, 299, [])), some (.inl ((-1), 7, [])), some (.inl (0, 248, [])), some (.inl (ck_one 6)), some (.inl (ck_one 86))], ([], [], [(227, 5, 5, (6, 8, [(23, 0)]))]), 2000002, .inl 4, true), 0, 0, 245), (6, ([some (.inr (.inr (.inl 226))), some (.inl (0, 128, [])), some (.inl (0, 299, [])), some (.inl ((-1), 7, [])), some (.inl (0, 228, [])), some (.inl (ck_one 5)), some (.inl (ck_one 83))], ([], [], [(227, 5, 5, (5, 8, [(23, 0)]))]), 2000003, .inl 4, true), 0, 0, 245), (6, ([some (.inr (.inr (.inl 226))), some (.inl (0, 128, [])), some (.inl (0, 299, [])), some (.inl ((-1), 7, [])), some (.inl (0, 208, [])), some (.inl (ck_one 4)), some (.inl (ck_one 80))], ([], [], [(227, 5, 5, (4, 8, [(23, 0)]))]), 2000004, .inl 4, true), 0, 0, 245), (6, ([some (.inr (.inr (.inl 226))), some (.inl (0, 128, [])), some (.inl (0, 299, [])), some (.inl ((-1), 7, [])), some (.inl (0, 188, [])), some (.inl (ck_one 3)), some (.inl (ck_one 77))], ([], [], [(227, 5, 5, (3, 8, [(23, 0)]))]), 2000005, .inl 4, true), 0, 0, 245), (6, ([some (.inr (.inr (.inl 226))), some (.inl (0, 128, [])), some (.inl (0, 299, [])), some (.inl ((-1), 7, [])), some (.inl (0, 168, [])), some (.inl (ck_one 2)), some (.inl (ck_one 74))], ([], [], [(227, 5, 5, (2, 8, [(23, 0)]))]), 2000006, .inl 4, true), 0, 0, 245), (6, ([some (.inr (.inr (.inl 226))), some (.inl (0, 128, [])), some (.inl (0, 299, [])), some (.inl ((-1), 7, [])), some (.inl (0, 148, [])), some (.inl (ck_one 1)), some (.inl (ck_one 71))], ([], [], [(227, 5, 5, (1, 8, [(23, 0)]))]), 2000007, .inl 4, true), 0, 0, 245), (6, ([some (.inr (.inr (.inl 226))), some (.inl (0, 128, [])), some (.inl (0, 299, [])), some (.inl ((-1), 7, [])), some (.inl (0, 128, [])), some (.inl (ck_one 0)), none], ([], [], [(227, 5, 5, (0, 8, [(23, 0)]))]), 2000008, .inl 4, true), 0, 0, 245)] 1290 p2_s474 = true := by decide +kernel
theorem p2_s474_s {X : Int → Int} {LX : Nat} : ck_Ok p2_O X LX 307 p2_s474 := ck_okp_s ⟨p2_nmu, ck_E0⟩ p2_s474_e
set_option maxRecDepth 100000 in
/-- GlacierMailModel.of -/
def p2_s522 : ck_Sum := ((0, 0, 0), 245, [.inr (.inr (.inl 226)), .inl (0, 7, []), .inl (0, 2, [])], ([], [], []), ([], []), [(.inr (some (.inl ((-1), 98, []))), 245, ([], [], []))])
set_option maxRecDepth 100000 in
theorem p2_s522_e : ck_ok p2_O none [] [] 299 [] 92 p2_s522 = true := by decide +kernel
theorem p2_s522_s {X : Int → Int} {LX : Nat} : ck_Ok p2_O X LX 299 p2_s522 := ck_ok_s ⟨p2_nmu, ck_E0⟩ ck_X0 ck_l0 p2_s522_e
set_option maxRecDepth 100000 in
/-- GlacierMail.need -/
def p2_s524 : ck_Sum := ((6, 1, 6), 245, [.inr (.inr (.inl 1)), .inl ((-2147483648), (-1), []), .inl (0, 24, [])], ([], [], []), ([], []), [(.inl 3, 245, ([], [], []))])
set_option maxRecDepth 100000 in
theorem p2_s524_e : ck_ok p2_O none [] [] 133 [] 76 p2_s524 = true := by decide +kernel
theorem p2_s524_s {X : Int → Int} {LX : Nat} : ck_Ok p2_O X LX 133 p2_s524 := ck_ok_s ⟨p2_nmu, ck_E0⟩ ck_X0 ck_l0 p2_s524_e
set_option maxRecDepth 100000 in
/-- GlacierMail.needLetter -/
def p2_s525 : ck_Sum := ((7, 1, 6), 245, [.inr (.inr (.inl 1)), .inl ((-2147483648), (-1), [])], ([], [], []), ([], []), [(.inl 3, 245, ([], [], []))])
set_option maxRecDepth 100000 in
theorem p2_s525_e : ck_ok p2_O none [] [(9, [p2_s371]), (133, [p2_s524])] 143 [] 84 p2_s525 = true := by decide +kernel
theorem p2_s525_s {X : Int → Int} {LX : Nat} : ck_Ok p2_O X LX 143 p2_s525 := ck_ok_s ⟨p2_nmu, ck_E1 (ck_S1 p2_s371_s ck_S0) (ck_E1 (ck_S1 p2_s524_s ck_S0) ck_E0)⟩ ck_X0 ck_l0 p2_s525_e
set_option maxRecDepth 100000 in
/-- GlacierMail.letter -/
def p2_s526 : ck_Sum := ((8, 1, 6), 245, [.inr (.inr (.inl 1)), .inl ((-2147483648), (-1), []), .inl ((-2147483648), 2147483647, [])], ([], [], []), ([], []), [(.inl 3, 245, ([], [], []))])
set_option maxRecDepth 100000 in
theorem p2_s526_e : ck_ok p2_O none [] [(143, [p2_s525])] 142 [] 76 p2_s526 = true := by decide +kernel
theorem p2_s526_s {X : Int → Int} {LX : Nat} : ck_Ok p2_O X LX 142 p2_s526 := ck_ok_s ⟨p2_nmu, ck_E1 (ck_S1 p2_s525_s ck_S0) ck_E0⟩ ck_X0 ck_l0 p2_s526_e
set_option maxRecDepth 100000 in
/-- GlacierMail.need -/
def p2_s527 : ck_Sum := ((6, 1, 6), 245, [.inr (.inr (.inl 1)), .inl (24, 2147483647, []), .inl (0, 24, [])], ([], [], []), ([], []), [(.inl 3, 245, ([], [], []))])
set_option maxRecDepth 100000 in
theorem p2_s527_e : ck_ok p2_O none [] [] 133 [] 82 p2_s527 = true := by decide +kernel
theorem p2_s527_s {X : Int → Int} {LX : Nat} : ck_Ok p2_O X LX 133 p2_s527 := ck_ok_s ⟨p2_nmu, ck_E0⟩ ck_X0 ck_l0 p2_s527_e
set_option maxRecDepth 100000 in
/-- GlacierMail.needLetter -/
def p2_s528 : ck_Sum := ((7, 1, 6), 245, [.inr (.inr (.inl 1)), .inl (24, 2147483647, [])], ([], [], []), ([], []), [(.inl 3, 245, ([], [], []))])
set_option maxRecDepth 100000 in
theorem p2_s528_e : ck_ok p2_O none [] [(9, [p2_s371]), (133, [p2_s527])] 143 [] 84 p2_s528 = true := by decide +kernel
theorem p2_s528_s {X : Int → Int} {LX : Nat} : ck_Ok p2_O X LX 143 p2_s528 := ck_ok_s ⟨p2_nmu, ck_E1 (ck_S1 p2_s371_s ck_S0) (ck_E1 (ck_S1 p2_s527_s ck_S0) ck_E0)⟩ ck_X0 ck_l0 p2_s528_e
set_option maxRecDepth 100000 in
/-- GlacierMail.letter -/
def p2_s529 : ck_Sum := ((8, 1, 6), 245, [.inr (.inr (.inl 1)), .inl (24, 2147483647, []), .inl ((-2147483648), 2147483647, [])], ([], [], []), ([], []), [(.inl 3, 245, ([], [], []))])
set_option maxRecDepth 100000 in
theorem p2_s529_e : ck_ok p2_O none [] [(143, [p2_s528])] 142 [] 76 p2_s529 = true := by decide +kernel
theorem p2_s529_s {X : Int → Int} {LX : Nat} : ck_Ok p2_O X LX 142 p2_s529 := ck_ok_s ⟨p2_nmu, ck_E1 (ck_S1 p2_s528_s ck_S0) ck_E0⟩ ck_X0 ck_l0 p2_s529_e
set_option maxRecDepth 100000 in
/-- GlacierMail.need -/
def p2_s530 : ck_Sum := ((6, 1, 6), 245, [.inr (.inr (.inl 1)), .inl (0, 23, []), .inl (0, 24, [])], ([], [], []), ([], []), [(.inr none, 245, ([], [], [])), (.inl 3, 245, ([], [], []))])
set_option maxRecDepth 100000 in
theorem p2_s530_e : ck_ok p2_O none [] [] 133 [] 82 p2_s530 = true := by decide +kernel
theorem p2_s530_s {X : Int → Int} {LX : Nat} : ck_Ok p2_O X LX 133 p2_s530 := ck_ok_s ⟨p2_nmu, ck_E0⟩ ck_X0 ck_l0 p2_s530_e
set_option maxRecDepth 100000 in
/-- GlacierMail.needLetter -/
def p2_s531 : ck_Sum := ((7, 1, 6), 245, [.inr (.inr (.inl 1)), .inl (0, 23, [])], ([], [], []), ([], []), [(.inl 3, 245, ([], [], [])), (.inr none, 245, ([], [], []))])
set_option maxRecDepth 100000 in
theorem p2_s531_e : ck_ok p2_O none [] [(9, [p2_s371]), (133, [p2_s530])] 143 [] 86 p2_s531 = true := by decide +kernel
theorem p2_s531_s {X : Int → Int} {LX : Nat} : ck_Ok p2_O X LX 143 p2_s531 := ck_ok_s ⟨p2_nmu, ck_E1 (ck_S1 p2_s371_s ck_S0) (ck_E1 (ck_S1 p2_s530_s ck_S0) ck_E0)⟩ ck_X0 ck_l0 p2_s531_e
set_option maxRecDepth 100000 in
/-- GlacierMail.letter -/
def p2_s532 : ck_Sum := ((8, 2, 12), 245, [.inr (.inr (.inl 1)), .inl (0, 23, []), .inl ((-2147483648), (-1), [])], ([], [], []), ([], []), [(.inl 3, 245, ([], [], [])), (.inl 4, 245, ([], [], []))])
set_option maxRecDepth 100000 in
theorem p2_s532_e : ck_ok p2_O none [] [(143, [p2_s531])] 142 [] 82 p2_s532 = true := by decide +kernel
theorem p2_s532_s {X : Int → Int} {LX : Nat} : ck_Ok p2_O X LX 142 p2_s532 := ck_ok_s ⟨p2_nmu, ck_E1 (ck_S1 p2_s531_s ck_S0) ck_E0⟩ ck_X0 ck_l0 p2_s532_e
set_option maxRecDepth 100000 in
/-- GlacierMail.letter -/
def p2_s533 : ck_Sum := ((8, 2, 12), 245, [.inr (.inr (.inl 1)), .inl (0, 23, []), .inl (10, 2147483647, [])], ([], [], []), ([], []), [(.inl 3, 245, ([], [], [])), (.inl 4, 245, ([], [], []))])
set_option maxRecDepth 100000 in
theorem p2_s533_e : ck_ok p2_O none [] [(143, [p2_s531])] 142 [] 82 p2_s533 = true := by decide +kernel
theorem p2_s533_s {X : Int → Int} {LX : Nat} : ck_Ok p2_O X LX 142 p2_s533 := ck_ok_s ⟨p2_nmu, ck_E1 (ck_S1 p2_s531_s ck_S0) ck_E0⟩ ck_X0 ck_l0 p2_s533_e
set_option maxRecDepth 100000 in
/-- GlacierMail.firstBare -/
def p2_s534 : ck_Sum := ((3, 0, 0), 245, [.inr (.inr (.inl 1)), .inl (0, 23, [])], ([], [(3, 8, 0)], []), ([(206, 2, 8)], []), [(.inr (some (.inl (ck_one (-1)))), 245, ([], [], [(206, 4, 4, ck_one (-1)), (206, 2, 2, ((-1), 299, []))])), (.inr (some (.inl (0, 299, []))), 245, ([], [], [(206, 6, 6, ck_one 0), (206, 5, 5, ((-2147483648), 98, [])), (206, 4, 4, ck_one (-1)), (206, 2, 2, ((-1), 299, []))]))])
set_option maxRecDepth 100000 in
theorem p2_s534_e : ck_ok p2_O none [] [(27, [p2_s379]), (32, [p2_s385]), (31, [p2_s380])] 145 [(18, [some (.inr (.inr (.inl 1))), some (.inl (0, 23, [])), some (.inl (0, 300, []))], ([], [(3, 8, 0)], [(206, 6, 6, (0, 99, [])), (206, 4, 4, ck_one (-1)), (206, 5, 5, ((-2147483648), 299, [])), (206, 2, 2, ((-1), 299, []))]), 100, .inl 2, true)] 158 p2_s534 = true := by decide +kernel
theorem p2_s534_s {X : Int → Int} {LX : Nat} : ck_Ok p2_O X LX 145 p2_s534 := ck_ok_s ⟨p2_nmu, ck_E1 (ck_S1 p2_s379_s ck_S0) (ck_E1 (ck_S1 p2_s385_s ck_S0) (ck_E1 (ck_S1 p2_s380_s ck_S0) ck_E0))⟩ ck_X0 ck_l0 p2_s534_e
set_option maxRecDepth 100000 in
/-- GlacierMail.outOf -/
def p2_s535 : ck_Sum := ((4, 0, 0), 245, [.inr (.inr (.inl 1)), .inl (0, 23, [])], ([], [(3, 8, 0)], []), ([(206, 2, 8)], []), [(.inr (some (.inl ((-2147483648), 299, []))), 245, ([], [], [(206, 4, 4, ck_one (-1)), (206, 2, 2, ((-1), 299, []))]))])
set_option maxRecDepth 100000 in
theorem p2_s535_e : ck_ok p2_O none [] [(27, [p2_s379]), (30, [p2_s386])] 144 [] 88 p2_s535 = true := by decide +kernel
theorem p2_s535_s {X : Int → Int} {LX : Nat} : ck_Ok p2_O X LX 144 p2_s535 := ck_ok_s ⟨p2_nmu, ck_E1 (ck_S1 p2_s379_s ck_S0) (ck_E1 (ck_S1 p2_s386_s ck_S0) ck_E0)⟩ ck_X0 ck_l0 p2_s535_e
set_option maxRecDepth 100000 in
/-- GlacierMail.letter -/
def p2_s536 : ck_Sum := ((8, 1, 6), 245, [.inr (.inr (.inl 1)), .inl (0, 23, []), .inl (0, 9, [])], ([], [(3, 8, 0)], []), ([(206, 2, 8)], []), [(.inl 3, 245, ([], [], [])), (.inr (some (.inl ((-2147483648), 299, []))), 245, ([], [], [])), (.inr (some (.inl (0, 299, []))), 245, ([], [], [(206, 4, 4, ck_one (-1)), (206, 2, 2, ((-1), 299, []))]))])
set_option maxRecDepth 100000 in
theorem p2_s536_e : ck_ok p2_O none [] [(143, [p2_s531]), (10, [p2_s375]), (145, [p2_s534]), (144, [p2_s535])] 142 [] 98 p2_s536 = true := by decide +kernel
theorem p2_s536_s {X : Int → Int} {LX : Nat} : ck_Ok p2_O X LX 142 p2_s536 := ck_ok_s ⟨p2_nmu, ck_E1 (ck_S1 p2_s531_s ck_S0) (ck_E1 (ck_S1 p2_s375_s ck_S0) (ck_E1 (ck_S1 p2_s534_s ck_S0) (ck_E1 (ck_S1 p2_s535_s ck_S0) ck_E0)))⟩ ck_X0 ck_l0 p2_s536_e
set_option maxRecDepth 100000 in
/-- GlacierMailModel.in -/
def p2_s537 : ck_Sum := ((0, 0, 0), 245, [.inl ((-2147483648), (-1), []), .inl (ck_one 0), .inl ((-1), 23, [])], ([], [], []), ([], []), [(.inr (some (.inl (ck_one 0))), 245, ([], [], []))])
set_option maxRecDepth 100000 in
theorem p2_s537_e : ck_ok p2_O none [] [] 286 [] 80 p2_s537 = true := by decide +kernel
theorem p2_s537_s {X : Int → Int} {LX : Nat} : ck_Ok p2_O X LX 286 p2_s537 := ck_ok_s ⟨p2_nmu, ck_E0⟩ ck_X0 ck_l0 p2_s537_e
set_option maxRecDepth 100000 in
/-- GlacierMailModel.noLetter -/
def p2_s538 : ck_Sum := ((1, 0, 0), 245, [.inr (.inr (.inl 226)), .inl ((-2147483648), (-1), [])], ([], [], [(227, 4, 4, (0, 24, [(22, 0)]))]), ([], []), [(.inr (some (.inl (ck_one 1))), 245, ([], [], []))])
set_option maxRecDepth 100000 in
theorem p2_s538_e : ck_ok p2_O none [] [(254, [p2_s196]), (286, [p2_s537])] 309 [] 92 p2_s538 = true := by decide +kernel
theorem p2_s538_s {X : Int → Int} {LX : Nat} : ck_Ok p2_O X LX 309 p2_s538 := ck_ok_s ⟨p2_nmu, ck_E1 (ck_S1 p2_s196_s ck_S0) (ck_E1 (ck_S1 p2_s537_s ck_S0) ck_E0)⟩ ck_X0 ck_l0 p2_s538_e
set_option maxRecDepth 100000 in
/-- GlacierMailModel.letter -/
def p2_s539 : ck_Sum := ((2, 0, 0), 245, [.inr (.inr (.inl 226)), .inl ((-2147483648), (-1), []), .inl ((-2147483648), 2147483647, [])], ([], [], [(227, 4, 4, (0, 24, [(22, 0)]))]), ([(226, 0, 0)], []), [(.inr (some (.inl (ck_one 0))), 245, ([], [], [(226, 0, 0, ck_one 1)]))])
set_option maxRecDepth 100000 in
theorem p2_s539_e : ck_ok p2_O none [] [(309, [p2_s538]), (282, [p2_s268])] 308 [] 94 p2_s539 = true := by decide +kernel
theorem p2_s539_s {X : Int → Int} {LX : Nat} : ck_Ok p2_O X LX 308 p2_s539 := ck_ok_s ⟨p2_nmu, ck_E1 (ck_S1 p2_s538_s ck_S0) (ck_E1 (ck_S1 p2_s268_s ck_S0) ck_E0)⟩ ck_X0 ck_l0 p2_s539_e
set_option maxRecDepth 100000 in
/-- GlacierMailModel.in -/
def p2_s540 : ck_Sum := ((0, 0, 0), 245, [.inl (24, 2147483647, []), .inl (ck_one 0), .inl ((-1), 23, [])], ([], [], []), ([], []), [(.inr (some (.inl (ck_one 0))), 245, ([], [], []))])
set_option maxRecDepth 100000 in
theorem p2_s540_e : ck_ok p2_O none [] [] 286 [] 86 p2_s540 = true := by decide +kernel
theorem p2_s540_s {X : Int → Int} {LX : Nat} : ck_Ok p2_O X LX 286 p2_s540 := ck_ok_s ⟨p2_nmu, ck_E0⟩ ck_X0 ck_l0 p2_s540_e
set_option maxRecDepth 100000 in
/-- GlacierMailModel.noLetter -/
def p2_s541 : ck_Sum := ((1, 0, 0), 245, [.inr (.inr (.inl 226)), .inl (24, 2147483647, [])], ([], [], [(227, 4, 4, (0, 24, [(22, 0)]))]), ([], []), [(.inr (some (.inl (ck_one 1))), 245, ([], [], []))])
set_option maxRecDepth 100000 in
theorem p2_s541_e : ck_ok p2_O none [] [(254, [p2_s196]), (286, [p2_s540])] 309 [] 92 p2_s541 = true := by decide +kernel
theorem p2_s541_s {X : Int → Int} {LX : Nat} : ck_Ok p2_O X LX 309 p2_s541 := ck_ok_s ⟨p2_nmu, ck_E1 (ck_S1 p2_s196_s ck_S0) (ck_E1 (ck_S1 p2_s540_s ck_S0) ck_E0)⟩ ck_X0 ck_l0 p2_s541_e
set_option maxRecDepth 100000 in
/-- GlacierMailModel.letter -/
def p2_s542 : ck_Sum := ((2, 0, 0), 245, [.inr (.inr (.inl 226)), .inl (24, 2147483647, []), .inl ((-2147483648), 2147483647, [])], ([], [], [(227, 4, 4, (0, 24, [(22, 0)]))]), ([(226, 0, 0)], []), [(.inr (some (.inl (ck_one 0))), 245, ([], [], [(226, 0, 0, ck_one 1)]))])
set_option maxRecDepth 100000 in
theorem p2_s542_e : ck_ok p2_O none [] [(309, [p2_s541]), (282, [p2_s268])] 308 [] 94 p2_s542 = true := by decide +kernel
theorem p2_s542_s {X : Int → Int} {LX : Nat} : ck_Ok p2_O X LX 308 p2_s542 := ck_ok_s ⟨p2_nmu, ck_E1 (ck_S1 p2_s541_s ck_S0) (ck_E1 (ck_S1 p2_s268_s ck_S0) ck_E0)⟩ ck_X0 ck_l0 p2_s542_e
set_option maxRecDepth 100000 in
/-- GlacierMailModel.in -/
def p2_s543 : ck_Sum := ((0, 0, 0), 245, [.inl (0, 23, []), .inl (ck_one 0), .inl ((-1), 23, [])], ([], [], []), ([], []), [(.inr (some (.inl (ck_one 0))), 245, ([], [], [])), (.inr (some (.inl (ck_one 1))), 245, ([], [], []))])
set_option maxRecDepth 100000 in
theorem p2_s543_e : ck_ok p2_O none [] [] 286 [] 88 p2_s543 = true := by decide +kernel
theorem p2_s543_s {X : Int → Int} {LX : Nat} : ck_Ok p2_O X LX 286 p2_s543 := ck_ok_s ⟨p2_nmu, ck_E0⟩ ck_X0 ck_l0 p2_s543_e
set_option maxRecDepth 100000 in
/-- GlacierMailModel.noLetter -/
def p2_s544 : ck_Sum := ((1, 0, 0), 245, [.inr (.inr (.inl 226)), .inl (0, 23, [])], ([], [], [(227, 4, 4, (0, 24, [(22, 0)]))]), ([], []), [(.inr (some (.inl (ck_one 1))), 245, ([], [], [])), (.inr (some (.inl (ck_one 0))), 245, ([], [], []))])
set_option maxRecDepth 100000 in
theorem p2_s544_e : ck_ok p2_O none [] [(254, [p2_s196]), (286, [p2_s543])] 309 [] 92 p2_s544 = true := by decide +kernel
theorem p2_s544_s {X : Int → Int} {LX : Nat} : ck_Ok p2_O X LX 309 p2_s544 := ck_ok_s ⟨p2_nmu, ck_E1 (ck_S1 p2_s196_s ck_S0) (ck_E1 (ck_S1 p2_s543_s ck_S0) ck_E0)⟩ ck_X0 ck_l0 p2_s544_e
set_option maxRecDepth 100000 in
/-- GlacierMailModel.in -/
def p2_s545 : ck_Sum := ((0, 0, 0), 245, [.inl ((-2147483648), (-1), []), .inl (ck_one 0), .inl (ck_one 9)], ([], [], []), ([], []), [(.inr (some (.inl (ck_one 0))), 245, ([], [], []))])
set_option maxRecDepth 100000 in
theorem p2_s545_e : ck_ok p2_O none [] [] 286 [] 80 p2_s545 = true := by decide +kernel
theorem p2_s545_s {X : Int → Int} {LX : Nat} : ck_Ok p2_O X LX 286 p2_s545 := ck_ok_s ⟨p2_nmu, ck_E0⟩ ck_X0 ck_l0 p2_s545_e
set_option maxRecDepth 100000 in
/-- GlacierMailModel.letter -/
def p2_s546 : ck_Sum := ((2, 0, 0), 245, [.inr (.inr (.inl 226)), .inl (0, 23, []), .inl ((-2147483648), (-1), [])], ([], [], [(227, 4, 4, (0, 24, [(22, 0)]))]), ([(226, 0, 0)], []), [(.inr (some (.inl (ck_one 0))), 245, ([], [], [(226, 0, 0, (1, 2, []))]))])
set_option maxRecDepth 100000 in
theorem p2_s546_e : ck_ok p2_O none [] [(309, [p2_s544]), (282, [p2_s268, p2_s269, p2_s272]), (286, [p2_s545])] 308 [] 116 p2_s546 = true := by decide +kernel
theorem p2_s546_s {X : Int → Int} {LX : Nat} : ck_Ok p2_O X LX 308 p2_s546 := ck_ok_s ⟨p2_nmu, ck_E1 (ck_S1 p2_s544_s ck_S0) (ck_E1 (ck_S1 p2_s268_s (ck_S1 p2_s269_s (ck_S1 p2_s272_s ck_S0))) (ck_E1 (ck_S1 p2_s545_s ck_S0) ck_E0))⟩ ck_X0 ck_l0 p2_s546_e
set_option maxRecDepth 100000 in
/-- GlacierMailModel.in -/
def p2_s547 : ck_Sum := ((0, 0, 0), 245, [.inl (10, 2147483647, []), .inl (ck_one 0), .inl (ck_one 9)], ([], [], []), ([], []), [(.inr (some (.inl (ck_one 0))), 245, ([], [], []))])
set_option maxRecDepth 100000 in
theorem p2_s547_e : ck_ok p2_O none [] [] 286 [] 86 p2_s547 = true := by decide +kernel
theorem p2_s547_s {X : Int → Int} {LX : Nat} : ck_Ok p2_O X LX 286 p2_s547 := ck_ok_s ⟨p2_nmu, ck_E0⟩ ck_X0 ck_l0 p2_s547_e
set_option maxRecDepth 100000 in
/-- GlacierMailModel.letter -/
def p2_s548 : ck_Sum := ((2, 0, 0), 245, [.inr (.inr (.inl 226)), .inl (0, 23, []), .inl (10, 2147483647, [])], ([], [], [(227, 4, 4, (0, 24, [(22, 0)]))]), ([(226, 0, 0)], []), [(.inr (some (.inl (ck_one 0))), 245, ([], [], [(226, 0, 0, (1, 2, []))]))])
set_option maxRecDepth 100000 in
theorem p2_s548_e : ck_ok p2_O none [] [(309, [p2_s544]), (282, [p2_s268, p2_s269, p2_s272]), (286, [p2_s547])] 308 [] 116 p2_s548 = true := by decide +kernel
theorem p2_s548_s {X : Int → Int} {LX : Nat} : ck_Ok p2_O X LX 308 p2_s548 := ck_ok_s ⟨p2_nmu, ck_E1 (ck_S1 p2_s544_s ck_S0) (ck_E1 (ck_S1 p2_s268_s (ck_S1 p2_s269_s (ck_S1 p2_s272_s ck_S0))) (ck_E1 (ck_S1 p2_s547_s ck_S0) ck_E0))⟩ ck_X0 ck_l0 p2_s548_e
set_option maxRecDepth 100000 in
/-- GlacierMailModel.in -/
def p2_s549 : ck_Sum := ((0, 0, 0), 245, [.inl (0, 9, []), .inl (ck_one 0), .inl (ck_one 9)], ([], [], []), ([], []), [(.inr (some (.inl (ck_one 1))), 245, ([], [], []))])
set_option maxRecDepth 100000 in
theorem p2_s549_e : ck_ok p2_O none [] [] 286 [] 88 p2_s549 = true := by decide +kernel
theorem p2_s549_s {X : Int → Int} {LX : Nat} : ck_Ok p2_O X LX 286 p2_s549 := ck_ok_s ⟨p2_nmu, ck_E0⟩ ck_X0 ck_l0 p2_s549_e
set_option maxRecDepth 100000 in
/-- GlacierMailModel.isInIce -/
def p2_s550 : ck_Sum := ((1, 0, 0), 245, [.inr (.inr (.inl 226)), .inl (0, 299, [])], ([], [], []), ([], []), [(.inr (some (.inl (ck_one 0))), 245, ([], [], [])), (.inr (some (.inl (ck_one 1))), 245, ([], [], []))])
set_option maxRecDepth 100000 in
theorem p2_s550_e : ck_ok p2_O none [] [(259, [p2_s200])] 312 [] 100 p2_s550 = true := by decide +kernel
theorem p2_s550_s {X : Int → Int} {LX : Nat} : ck_Ok p2_O X LX 312 p2_s550 := ck_ok_s ⟨p2_nmu, ck_E1 (ck_S1 p2_s200_s ck_S0) ck_E0⟩ ck_X0 ck_l0 p2_s550_e
set_option maxRecDepth 100000 in
/-- GlacierMailModel.isBare -/
def p2_s551 : ck_Sum := ((2, 0, 0), 245, [.inr (.inr (.inl 226)), .inl (0, 23, []), .inl (0, 299, [])], ([], [], []), ([], []), [(.inr (some (.inl (ck_one 0))), 245, ([], [], [])), (.inr (some (.inl (ck_one 1))), 245, ([], [], []))])
set_option maxRecDepth 100000 in
theorem p2_s551_e : ck_ok p2_O none [] [(301, [p2_s471]), (312, [p2_s550])] 311 [] 106 p2_s551 = true := by decide +kernel
theorem p2_s551_s {X : Int → Int} {LX : Nat} : ck_Ok p2_O X LX 311 p2_s551 := ck_ok_s ⟨p2_nmu, ck_E1 (ck_S1 p2_s471_s ck_S0) (ck_E1 (ck_S1 p2_s550_s ck_S0) ck_E0)⟩ ck_X0 ck_l0 p2_s551_e
set_option maxRecDepth 100000 in
/-- GlacierMailModel.bareFrom -/
def p2_s552 : ck_Sum := ((3, 0, 0), 245, [.inr (.inr (.inl 226)), .inl (0, 23, [])], ([], [], []), ([], []), [(.inr (some (.inl (ck_one (-1)))), 245, ([], [], [])), (.inr (some (.inl (0, 299, []))), 245, ([], [], []))])
set_option maxRecDepth 100000 in
theorem p2_s552_e : ck_ok p2_O none [] [(311, [p2_s551])] 310 [(2, [some (.inr (.inr (.inl 226))), some (.inl (0, 23, [])), some (.inl (0, 300, []))], ([], [], []), 100, .inl 2, true)] 134 p2_s552 = true := by decide +kernel
theorem p2_s552_s {X : Int → Int} {LX : Nat} : ck_Ok p2_O X LX 310 p2_s552 := ck_ok_s ⟨p2_nmu, ck_E1 (ck_S1 p2_s551_s ck_S0) ck_E0⟩ ck_X0 ck_l0 p2_s552_e
set_option maxRecDepth 100000 in
/-- GlacierMailModel.ofLetter -/
def p2_s553 : ck_Sum := ((0, 0, 0), 245, [.inr (.inr (.inl 226)), .inl (0, 23, []), .inl (0, 6, [])], ([], [], []), ([], []), [(.inr (some (.inl ((-1), 299, []))), 245, ([], [], []))])
set_option maxRecDepth 100000 in
theorem p2_s553_e : ck_ok p2_O none [] [] 301 [] 92 p2_s553 = true := by decide +kernel
theorem p2_s553_s {X : Int → Int} {LX : Nat} : ck_Ok p2_O X LX 301 p2_s553 := ck_ok_s ⟨p2_nmu, ck_E0⟩ ck_X0 ck_l0 p2_s553_e
set_option maxRecDepth 100000 in
/-- GlacierMail.where -/
def p2_s555 : ck_Sum := ((8, 1, 6), 245, [.inr (.inr (.inl 1)), .inl ((-2147483648), (-1), []), .inl ((-2147483648), 2147483647, [])], ([], [], []), ([], []), [(.inl 3, 245, ([], [], []))])
set_option maxRecDepth 100000 in
theorem p2_s555_e : ck_ok p2_O none [] [(143, [p2_s525])] 147 [] 76 p2_s555 = true := by decide +kernel
theorem p2_s555_s {X : Int → Int} {LX : Nat} : ck_Ok p2_O X LX 147 p2_s555 := ck_ok_s ⟨p2_nmu, ck_E1 (ck_S1 p2_s525_s ck_S0) ck_E0⟩ ck_X0 ck_l0 p2_s555_e
set_option maxRecDepth 100000 in
/-- GlacierMail.where -/
def p2_s556 : ck_Sum := ((8, 1, 6), 245, [.inr (.inr (.inl 1)), .inl (24, 2147483647, []), .inl ((-2147483648), 2147483647, [])], ([], [], []), ([], []), [(.inl 3, 245, ([], [], []))])
set_option maxRecDepth 100000 in
theorem p2_s556_e : ck_ok p2_O none [] [(143, [p2_s528])] 147 [] 76 p2_s556 = true := by decide +kernel
theorem p2_s556_s {X : Int → Int} {LX : Nat} : ck_Ok p2_O X LX 147 p2_s556 := ck_ok_s ⟨p2_nmu, ck_E1 (ck_S1 p2_s528_s ck_S0) ck_E0⟩ ck_X0 ck_l0 p2_s556_e
set_option maxRecDepth 100000 in
/-- GlacierMail.where -/
def p2_s557 : ck_Sum := ((8, 2, 12), 245, [.inr (.inr (.inl 1)), .inl (0, 23, []), .inl ((-2147483648), (-1), [])], ([], [], []), ([], []), [(.inl 3, 245, ([], [], [])), (.inl 0, 245, ([], [], []))])
set_option maxRecDepth 100000 in
theorem p2_s557_e : ck_ok p2_O none [] [(143, [p2_s531]), (129, [p2_s276])] 147 [] 82 p2_s557 = true := by decide +kernel
theorem p2_s557_s {X : Int → Int} {LX : Nat} : ck_Ok p2_O X LX 147 p2_s557 := ck_ok_s ⟨p2_nmu, ck_E1 (ck_S1 p2_s531_s ck_S0) (ck_E1 (ck_S1 p2_s276_s ck_S0) ck_E0)⟩ ck_X0 ck_l0 p2_s557_e
set_option maxRecDepth 100000 in
/-- GlacierMail.where -/
def p2_s558 : ck_Sum := ((8, 2, 12), 245, [.inr (.inr (.inl 1)), .inl (0, 23, []), .inl (300, 2147483647, [])], ([], [], []), ([], []), [(.inl 3, 245, ([], [], [])), (.inl 0, 245, ([], [], []))])
set_option maxRecDepth 100000 in
theorem p2_s558_e : ck_ok p2_O none [] [(143, [p2_s531]), (129, [p2_s278])] 147 [] 82 p2_s558 = true := by decide +kernel
theorem p2_s558_s {X : Int → Int} {LX : Nat} : ck_Ok p2_O X LX 147 p2_s558 := ck_ok_s ⟨p2_nmu, ck_E1 (ck_S1 p2_s531_s ck_S0) (ck_E1 (ck_S1 p2_s278_s ck_S0) ck_E0)⟩ ck_X0 ck_l0 p2_s558_e
set_option maxRecDepth 100000 in
/-- GlacierMail$Way.goOnTo -/
def p2_s559 : ck_Sum := ((3, 0, 0), 245, [.inr (.inr (.inl 206)), .inl (0, 299, [])], ([], [(3, 8, 0)], []), ([(206, 5, 8)], []), [(.inr none, 245, ([], [], []))])
set_option maxRecDepth 100000 in
theorem p2_s559_e : ck_ok p2_O none [] [(32, [p2_s385])] 148 [(5, [some (.inr (.inr (.inl 206))), some (.inl (0, 299, [])), some (.inl ((-2147483648), 2147483647, []))], ([], [(3, 8, 0)], []), 100, .inl 2, true)] 122 p2_s559 = true := by decide +kernel
theorem p2_s559_s {X : Int → Int} {LX : Nat} : ck_Ok p2_O X LX 148 p2_s559 := ck_ok_s ⟨p2_nmu, ck_E1 (ck_S1 p2_s385_s ck_S0) ck_E0⟩ ck_X0 ck_l0 p2_s559_e
set_option maxRecDepth 100000 in
/-- GlacierMail.where -/
def p2_s560 : ck_Sum := ((8, 1, 6), 245, [.inr (.inr (.inl 1)), .inl (0, 23, []), .inl (0, 299, [])], ([], [(3, 8, 0)], []), ([(206, 2, 8)], []), [(.inl 3, 245, ([], [], [])), (.inr (some (.inl ((-2147483648), 99, []))), 245, ([], [], []))])
set_option maxRecDepth 100000 in
theorem p2_s560_e : ck_ok p2_O none [] [(143, [p2_s531]), (129, [p2_s280]), (10, [p2_s375]), (27, [p2_s379]), (148, [p2_s559])] 147 [] 130 p2_s560 = true := by decide +kernel
theorem p2_s560_s {X : Int → Int} {LX : Nat} : ck_Ok p2_O X LX 147 p2_s560 := ck_ok_s ⟨p2_nmu, ck_E1 (ck_S1 p2_s531_s ck_S0) (ck_E1 (ck_S1 p2_s280_s ck_S0) (ck_E1 (ck_S1 p2_s375_s ck_S0) (ck_E1 (ck_S1 p2_s379_s ck_S0) (ck_E1 (ck_S1 p2_s559_s ck_S0) ck_E0))))⟩ ck_X0 ck_l0 p2_s560_e
set_option maxRecDepth 100000 in
/-- GlacierMailModel.where -/
def p2_s561 : ck_Sum := ((2, 0, 0), 245, [.inr (.inr (.inl 226)), .inl ((-2147483648), (-1), []), .inl ((-2147483648), 2147483647, [])], ([], [], [(227, 4, 4, (0, 24, [(22, 0)]))]), ([(226, 0, 0)], []), [(.inr (some (.inl (ck_one 0))), 245, ([], [], [(226, 0, 0, ck_one 1)]))])
set_option maxRecDepth 100000 in
theorem p2_s561_e : ck_ok p2_O none [] [(309, [p2_s538]), (282, [p2_s268])] 313 [] 94 p2_s561 = true := by decide +kernel
theorem p2_s561_s {X : Int → Int} {LX : Nat} : ck_Ok p2_O X LX 313 p2_s561 := ck_ok_s ⟨p2_nmu, ck_E1 (ck_S1 p2_s538_s ck_S0) (ck_E1 (ck_S1 p2_s268_s ck_S0) ck_E0)⟩ ck_X0 ck_l0 p2_s561_e
set_option maxRecDepth 100000 in
/-- GlacierMailModel.where -/
def p2_s562 : ck_Sum := ((2, 0, 0), 245, [.inr (.inr (.inl 226)), .inl (24, 2147483647, []), .inl ((-2147483648), 2147483647, [])], ([], [], [(227, 4, 4, (0, 24, [(22, 0)]))]), ([(226, 0, 0)], []), [(.inr (some (.inl (ck_one 0))), 245, ([], [], [(226, 0, 0, ck_one 1)]))])
set_option maxRecDepth 100000 in
theorem p2_s562_e : ck_ok p2_O none [] [(309, [p2_s541]), (282, [p2_s268])] 313 [] 94 p2_s562 = true := by decide +kernel
theorem p2_s562_s {X : Int → Int} {LX : Nat} : ck_Ok p2_O X LX 313 p2_s562 := ck_ok_s ⟨p2_nmu, ck_E1 (ck_S1 p2_s541_s ck_S0) (ck_E1 (ck_S1 p2_s268_s ck_S0) ck_E0)⟩ ck_X0 ck_l0 p2_s562_e
set_option maxRecDepth 100000 in
/-- GlacierMailModel.where -/
def p2_s563 : ck_Sum := ((2, 0, 0), 245, [.inr (.inr (.inl 226)), .inl (0, 23, []), .inl ((-2147483648), (-1), [])], ([], [], [(227, 4, 4, (0, 24, [(22, 0)]))]), ([(226, 0, 0)], []), [(.inr (some (.inl (ck_one 0))), 245, ([], [], [(226, 0, 0, (1, 2, []))]))])
set_option maxRecDepth 100000 in
theorem p2_s563_e : ck_ok p2_O none [] [(309, [p2_s544]), (282, [p2_s268, p2_s269, p2_s272]), (285, [p2_s284])] 313 [] 106 p2_s563 = true := by decide +kernel
theorem p2_s563_s {X : Int → Int} {LX : Nat} : ck_Ok p2_O X LX 313 p2_s563 := ck_ok_s ⟨p2_nmu, ck_E1 (ck_S1 p2_s544_s ck_S0) (ck_E1 (ck_S1 p2_s268_s (ck_S1 p2_s269_s (ck_S1 p2_s272_s ck_S0))) (ck_E1 (ck_S1 p2_s284_s ck_S0) ck_E0))⟩ ck_X0 ck_l0 p2_s563_e
set_option maxRecDepth 100000 in
/-- GlacierMailModel.where -/
def p2_s564 : ck_Sum := ((2, 0, 0), 245, [.inr (.inr (.inl 226)), .inl (0, 23, []), .inl (300, 2147483647, [])], ([], [], [(227, 4, 4, (0, 24, [(22, 0)]))]), ([(226, 0, 0)], []), [(.inr (some (.inl (ck_one 0))), 245, ([], [], [(226, 0, 0, (1, 2, []))]))])
set_option maxRecDepth 100000 in
theorem p2_s564_e : ck_ok p2_O none [] [(309, [p2_s544]), (282, [p2_s268, p2_s269, p2_s272]), (285, [p2_s287])] 313 [] 106 p2_s564 = true := by decide +kernel
theorem p2_s564_s {X : Int → Int} {LX : Nat} : ck_Ok p2_O X LX 313 p2_s564 := ck_ok_s ⟨p2_nmu, ck_E1 (ck_S1 p2_s544_s ck_S0) (ck_E1 (ck_S1 p2_s268_s (ck_S1 p2_s269_s (ck_S1 p2_s272_s ck_S0))) (ck_E1 (ck_S1 p2_s287_s ck_S0) ck_E0))⟩ ck_X0 ck_l0 p2_s564_e
set_option maxRecDepth 100000 in
/-- GlacierMail.deep -/
def p2_s566 : ck_Sum := ((8, 1, 6), 245, [.inr (.inr (.inl 1)), .inl ((-2147483648), (-1), []), .inl ((-2147483648), 2147483647, [])], ([], [], []), ([], []), [(.inl 3, 245, ([], [], []))])
set_option maxRecDepth 100000 in
theorem p2_s566_e : ck_ok p2_O none [] [(143, [p2_s525])] 150 [] 76 p2_s566 = true := by decide +kernel
theorem p2_s566_s {X : Int → Int} {LX : Nat} : ck_Ok p2_O X LX 150 p2_s566 := ck_ok_s ⟨p2_nmu, ck_E1 (ck_S1 p2_s525_s ck_S0) ck_E0⟩ ck_X0 ck_l0 p2_s566_e
set_option maxRecDepth 100000 in
/-- GlacierMail.deep -/
def p2_s567 : ck_Sum := ((8, 1, 6), 245, [.inr (.inr (.inl 1)), .inl (24, 2147483647, []), .inl ((-2147483648), 2147483647, [])], ([], [], []), ([], []), [(.inl 3, 245, ([], [], []))])
set_option maxRecDepth 100000 in
theorem p2_s567_e : ck_ok p2_O none [] [(143, [p2_s528])] 150 [] 76 p2_s567 = true := by decide +kernel
theorem p2_s567_s {X : Int → Int} {LX : Nat} : ck_Ok p2_O X LX 150 p2_s567 := ck_ok_s ⟨p2_nmu, ck_E1 (ck_S1 p2_s528_s ck_S0) ck_E0⟩ ck_X0 ck_l0 p2_s567_e
