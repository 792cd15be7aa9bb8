/-! EVERY CALL ENDS, whatever was done before (laid by wip/am/p2g.py). -/
set_option maxRecDepth 100000 in
/-- GlacierMail.moved -/
def p2_s1582 : ck_Sum := ((8, 1, 6), 245, [.inr (.inr (.inl 1)), .inl (0, 23, [])], ([], [(3, 8, 0)], []), ([(206, 2, 8)], []), [(.inl 3, 245, ([], [], [])), (.inr (some (.inl ((-2147483648), (-1), []))), 245, ([], [], [(206, 8, 8, ((-2147483648), (-1), [])), (206, 4, 4, ck_one (-1)), (206, 2, 2, ((-1), 299, []))])), (.inr (some (.inl (0, 2147483647, []))), 245, ([], [], [(206, 8, 8, (0, 2147483647, [])), (206, 4, 4, ck_one (-1)), (206, 2, 2, ((-1), 299, []))]))])
set_option maxRecDepth 100000 in
theorem p2_s1582_e : ck_ok p2_O none [] [(143, [p2_s531]), (27, [p2_s379]), (30, [p2_s386])] 177 [] 102 p2_s1582 = true := by decide +kernel
theorem p2_s1582_s {X : Int → Int} {LX : Nat} : ck_Ok p2_O X LX 177 p2_s1582 := ck_ok_s ⟨p2_nmu, ck_E1 (ck_S1 p2_s531_s ck_S0) (ck_E1 (ck_S1 p2_s379_s ck_S0) (ck_E1 (ck_S1 p2_s386_s ck_S0) ck_E0))⟩ ck_X0 ck_l0 p2_s1582_e
set_option maxRecDepth 100000 in
/-- GlacierMailModel.moved -/
def p2_s1583 : ck_Sum := ((2, 0, 0), 245, [.inr (.inr (.inl 226)), .inl ((-2147483648), (-1), [])], ([], [], [(227, 4, 4, (0, 24, [(22, 0)]))]), ([(226, 0, 0)], []), [(.inr (some (.inl (ck_one 0))), 245, ([], [], [(226, 0, 0, ck_one 1)]))])
set_option maxRecDepth 100000 in
theorem p2_s1583_e : ck_ok p2_O none [] [(309, [p2_s538]), (282, [p2_s268])] 329 [] 94 p2_s1583 = true := by decide +kernel
theorem p2_s1583_s {X : Int → Int} {LX : Nat} : ck_Ok p2_O X LX 329 p2_s1583 := ck_ok_s ⟨p2_nmu, ck_E1 (ck_S1 p2_s538_s ck_S0) (ck_E1 (ck_S1 p2_s268_s ck_S0) ck_E0)⟩ ck_X0 ck_l0 p2_s1583_e
set_option maxRecDepth 100000 in
/-- GlacierMailModel.moved -/
def p2_s1584 : ck_Sum := ((2, 0, 0), 245, [.inr (.inr (.inl 226)), .inl (24, 2147483647, [])], ([], [], [(227, 4, 4, (0, 24, [(22, 0)]))]), ([(226, 0, 0)], []), [(.inr (some (.inl (ck_one 0))), 245, ([], [], [(226, 0, 0, ck_one 1)]))])
set_option maxRecDepth 100000 in
theorem p2_s1584_e : ck_ok p2_O none [] [(309, [p2_s541]), (282, [p2_s268])] 329 [] 94 p2_s1584 = true := by decide +kernel
theorem p2_s1584_s {X : Int → Int} {LX : Nat} : ck_Ok p2_O X LX 329 p2_s1584 := ck_ok_s ⟨p2_nmu, ck_E1 (ck_S1 p2_s541_s ck_S0) (ck_E1 (ck_S1 p2_s268_s ck_S0) ck_E0)⟩ ck_X0 ck_l0 p2_s1584_e
set_option maxRecDepth 100000 in
/-- GlacierMail.lost -/
def p2_s1586 : ck_Sum := ((5, 0, 0), 245, [.inr (.inr (.inl 1))], ([], [(3, 8, 0)], []), ([(1, 15, 15), (206, 2, 8), (220, 3, 3), (221, 0, 47)], []), [(.inr (some (.inl ((-2147483648), 2147483647, []))), 245, ([], [], [(1, 15, 15, ck_one 1)]))])
set_option maxRecDepth 100000 in
theorem p2_s1586_e : ck_ok p2_O none [] [(24, [p2_s417]), (9, [p2_s374]), (10, [p2_s419])] 23 [(8, [some (.inr (.inr (.inl 1))), some (.inl ((-2147483648), 2147483647, [])), some (.inl (0, 24, []))], ([], [(3, 8, 0)], [(1, 15, 15, ck_one 1)]), 100, .inl 2, true)] 174 p2_s1586 = true := by decide +kernel
theorem p2_s1586_s {X : Int → Int} {LX : Nat} : ck_Ok p2_O X LX 23 p2_s1586 := ck_ok_s ⟨p2_nmu, ck_E1 (ck_S1 p2_s417_s ck_S0) (ck_E1 (ck_S1 p2_s374_s ck_S0) (ck_E1 (ck_S1 p2_s419_s ck_S0) ck_E0))⟩ ck_X0 ck_l0 p2_s1586_e
set_option maxRecDepth 100000 in
/-- GlacierMail.outIn -/
def p2_s1588 : ck_Sum := ((2, 0, 0), 245, [.inr (.inr (.inl 1)), .inl ((-2147483648), 299, []), .inl (ck_one 0)], ([], [], []), ([], []), [(.inr (some (.inl ((-2147483648), 2147483647, []))), 245, ([], [], []))])
set_option maxRecDepth 100000 in
theorem p2_s1588_e : ck_ok p2_O none [] [(9, [p2_s374]), (10, [p2_s419]), (28, [p2_s376])] 47 [(5, [some (.inr (.inr (.inl 1))), some (.inl ((-2147483648), 299, [])), some (.inl (ck_one 0)), some (.inl ((-2147483648), 2147483647, [])), some (.inl (0, 24, []))], ([], [], []), 100, .inl 4, true)] 182 p2_s1588 = true := by decide +kernel
theorem p2_s1588_s {X : Int → Int} {LX : Nat} : ck_Ok p2_O X LX 47 p2_s1588 := ck_ok_s ⟨p2_nmu, ck_E1 (ck_S1 p2_s374_s ck_S0) (ck_E1 (ck_S1 p2_s419_s ck_S0) (ck_E1 (ck_S1 p2_s376_s ck_S0) ck_E0))⟩ ck_X0 ck_l0 p2_s1588_e
set_option maxRecDepth 100000 in
/-- GlacierMail.market -/
def p2_s1589 : ck_Sum := ((5, 0, 0), 245, [.inr (.inr (.inl 1)), .inl (0, 1, [])], ([], [(3, 8, 0)], []), ([(1, 15, 15), (206, 2, 8), (220, 3, 3), (221, 0, 47)], []), [(.inr (some (.inl ((-2147483648), 299, []))), 245, ([], [], [(1, 15, 15, ck_one 1)])), (.inr (some (.inl (0, 2147483647, []))), 245, ([], [], [(1, 15, 15, ck_one 1)]))])
set_option maxRecDepth 100000 in
theorem p2_s1589_e : ck_ok p2_O none [] [(24, [p2_s417]), (9, [p2_s374]), (10, [p2_s419]), (47, [p2_s1588])] 46 [(11, [some (.inr (.inr (.inl 1))), some (.inl (0, 1, [])), some (.inl ((-2147483648), 299, [])), some (.inl (0, 2147483647, [])), some (.inl (0, 24, [])), none, none], ([], [(3, 8, 0)], [(1, 15, 15, ck_one 1)]), 100, .inl 4, true)] 230 p2_s1589 = true := by decide +kernel
theorem p2_s1589_s {X : Int → Int} {LX : Nat} : ck_Ok p2_O X LX 46 p2_s1589 := ck_ok_s ⟨p2_nmu, ck_E1 (ck_S1 p2_s417_s ck_S0) (ck_E1 (ck_S1 p2_s374_s ck_S0) (ck_E1 (ck_S1 p2_s419_s ck_S0) (ck_E1 (ck_S1 p2_s1588_s ck_S0) ck_E0)))⟩ ck_X0 ck_l0 p2_s1589_e
set_option maxRecDepth 100000 in
/-- GlacierMailModel.outsIn -/
def p2_s1617 : ck_Sum := ((2, 0, 0), 245, [.inr (.inr (.inl 226)), .inl (0, 299, []), .inl ((-1), 7, []), .inl (0, 1, [])], ([], [], [(227, 4, 4, (0, 24, [(22, 0)]))]), ([], []), [(.inr (some (.inl ((-2147483648), 2147483647, []))), 245, ([], [], []))])
set_option maxRecDepth 100000 in
theorem p2_s1617_e : ck_ok p2_O none [] [(254, [p2_s196]), (303, [p2_s473]), (301, [p2_s469])] 333 [(6, [some (.inr (.inr (.inl 226))), some (.inl (0, 299, [])), some (.inl ((-1), 7, [])), some (.inl (0, 1, [])), some (.inl ((-2147483648), 2147483647, [])), some (.inl (0, 24, []))], ([], [], [(227, 4, 4, (0, 24, [(22, 0)]))]), 100, .inl 5, true)] 218 p2_s1617 = true := by decide +kernel
theorem p2_s1617_s {X : Int → Int} {LX : Nat} : ck_Ok p2_O X LX 333 p2_s1617 := ck_ok_s ⟨p2_nmu, ck_E1 (ck_S1 p2_s196_s ck_S0) (ck_E1 (ck_S1 p2_s473_s ck_S0) (ck_E1 (ck_S1 p2_s469_s ck_S0) ck_E0))⟩ ck_X0 ck_l0 p2_s1617_e
set_option maxRecDepth 100000 in
/-- GlacierMail.passes -/
def p2_s1619 : ck_Sum := ((8, 1, 6), 245, [.inr (.inr (.inl 1)), .inl ((-2147483648), (-1), [])], ([], [], []), ([], []), [(.inl 3, 245, ([], [], []))])
set_option maxRecDepth 100000 in
theorem p2_s1619_e : ck_ok p2_O none [] [(143, [p2_s525])] 179 [] 76 p2_s1619 = true := by decide +kernel
theorem p2_s1619_s {X : Int → Int} {LX : Nat} : ck_Ok p2_O X LX 179 p2_s1619 := ck_ok_s ⟨p2_nmu, ck_E1 (ck_S1 p2_s525_s ck_S0) ck_E0⟩ ck_X0 ck_l0 p2_s1619_e
set_option maxRecDepth 100000 in
/-- GlacierMail.passes -/
def p2_s1620 : ck_Sum := ((8, 1, 6), 245, [.inr (.inr (.inl 1)), .inl (24, 2147483647, [])], ([], [], []), ([], []), [(.inl 3, 245, ([], [], []))])
set_option maxRecDepth 100000 in
theorem p2_s1620_e : ck_ok p2_O none [] [(143, [p2_s528])] 179 [] 76 p2_s1620 = true := by decide +kernel
theorem p2_s1620_s {X : Int → Int} {LX : Nat} : ck_Ok p2_O X LX 179 p2_s1620 := ck_ok_s ⟨p2_nmu, ck_E1 (ck_S1 p2_s528_s ck_S0) ck_E0⟩ ck_X0 ck_l0 p2_s1620_e
set_option maxRecDepth 100000 in
/-- GlacierMail.sameLane -/
def p2_s1673 : ck_Sum := ((1, 0, 0), 245, [.inr (.inr (.inl 1)), .inl (0, 23, []), .inl (0, 23, [])], ([], [], []), ([], []), [(.inr (some (.inl (ck_one 0))), 245, ([], [], [])), (.inr (some (.inl (ck_one 1))), 245, ([], [], []))])
set_option maxRecDepth 100000 in
theorem p2_s1673_e : ck_ok p2_O none [] [(10, [p2_s375])] 180 [] 102 p2_s1673 = true := by decide +kernel
theorem p2_s1673_s {X : Int → Int} {LX : Nat} : ck_Ok p2_O X LX 180 p2_s1673 := ck_ok_s ⟨p2_nmu, ck_E1 (ck_S1 p2_s375_s ck_S0) ck_E0⟩ ck_X0 ck_l0 p2_s1673_e
set_option maxRecDepth 100000 in
/-- GlacierMail$Way.start -/
def p2_s1622 : ck_Sum := ((0, 0, 0), 245, [.inr (.inr (.inl 207)), .inl ((-1), 299, []), .inl ((-1), 299, []), .inl ((-1), 299, []), .inl (ck_one 0)], ([], [], []), ([(207, 2, 8)], []), [(.inr none, 245, ([], [], [(207, 8, 8, ck_one 0), (207, 6, 6, ck_one 0), (207, 3, 3, ck_one 0), (207, 7, 7, ((-1), 299, [])), (207, 5, 5, ((-1), 299, []))]))])
set_option maxRecDepth 100000 in
theorem p2_s1622_e : ck_ok p2_O none [] [] 29 [] 114 p2_s1622 = true := by decide +kernel
theorem p2_s1622_s {X : Int → Int} {LX : Nat} : ck_Ok p2_O X LX 29 p2_s1622 := ck_ok_s ⟨p2_nmu, ck_E0⟩ ck_X0 ck_l0 p2_s1622_e
set_option maxRecDepth 100000 in
/-- GlacierMail$Way.start -/
def p2_s1623 : ck_Sum := ((0, 0, 0), 245, [.inr (.inr (.inl 207)), .inl ((-1), 299, []), .inl ((-1), 299, []), .inl ((-1), 299, []), .inl (ck_one 1)], ([], [], []), ([(207, 2, 8)], []), [(.inr none, 245, ([], [], [(207, 8, 8, ck_one 0), (207, 6, 6, ck_one 0), (207, 3, 3, ck_one 1), (207, 7, 7, ((-1), 299, [])), (207, 5, 5, ((-1), 299, []))]))])
set_option maxRecDepth 100000 in
theorem p2_s1623_e : ck_ok p2_O none [] [] 29 [] 114 p2_s1623 = true := by decide +kernel
theorem p2_s1623_s {X : Int → Int} {LX : Nat} : ck_Ok p2_O X LX 29 p2_s1623 := ck_ok_s ⟨p2_nmu, ck_E0⟩ ck_X0 ck_l0 p2_s1623_e
set_option maxRecDepth 100000 in
/-- GlacierMail$Way.startLetter -/
def p2_s1624 : ck_Sum := ((2, 0, 0), 245, [.inr (.inr (.inl 207)), .inl (0, 23, [])], ([], [], []), ([(207, 2, 8)], []), [(.inr none, 245, ([], [], [(207, 8, 8, ck_one 0), (207, 6, 6, ck_one 0), (207, 7, 7, ((-1), 299, [])), (207, 5, 5, ((-1), 299, []))]))])
set_option maxRecDepth 100000 in
theorem p2_s1624_e : ck_ok p2_O none [] [(10, [p2_s375]), (28, [p2_s376]), (29, [p2_s1622, p2_s1623])] 27 [] 116 p2_s1624 = true := by decide +kernel
theorem p2_s1624_s {X : Int → Int} {LX : Nat} : ck_Ok p2_O X LX 27 p2_s1624 := ck_ok_s ⟨p2_nmu, ck_E1 (ck_S1 p2_s375_s ck_S0) (ck_E1 (ck_S1 p2_s376_s ck_S0) (ck_E1 (ck_S1 p2_s1622_s (ck_S1 p2_s1623_s ck_S0)) ck_E0))⟩ ck_X0 ck_l0 p2_s1624_e
set_option maxRecDepth 100000 in
/-- GlacierMail$Way.isOut -/
def p2_s1625 : ck_Sum := ((0, 0, 0), 245, [.inr (.inr (.inl 207))], ([], [], []), ([], []), [(.inr (some (.inl (ck_one 0))), 245, ([], [], [(207, 5, 5, ((-2147483648), 98, []))])), (.inr (some (.inl (ck_one 1))), 245, ([], [], [(207, 5, 5, (10, 2147483647, []))]))])
set_option maxRecDepth 100000 in
theorem p2_s1625_e : ck_ok p2_O none [] [] 31 [] 88 p2_s1625 = true := by decide +kernel
theorem p2_s1625_s {X : Int → Int} {LX : Nat} : ck_Ok p2_O X LX 31 p2_s1625 := ck_ok_s ⟨p2_nmu, ck_E0⟩ ck_X0 ck_l0 p2_s1625_e
set_option maxRecDepth 100000 in
/-- GlacierMail$Way.deepAfter -/
def p2_s1626 : ck_Sum := ((1, 0, 0), 245, [.inr (.inr (.inl 207))], ([], [], []), ([], []), [(.inr (some (.inl (0, 99, []))), 245, ([], [], []))])
set_option maxRecDepth 100000 in
theorem p2_s1626_e : ck_ok p2_O none [] [(34, [p2_s381])] 33 [] 110 p2_s1626 = true := by decide +kernel
theorem p2_s1626_s {X : Int → Int} {LX : Nat} : ck_Ok p2_O X LX 33 p2_s1626 := ck_ok_s ⟨p2_nmu, ck_E1 (ck_S1 p2_s381_s ck_S0) ck_E0⟩ ck_X0 ck_l0 p2_s1626_e
set_option maxRecDepth 100000 in
/-- GlacierMail$Way.takeFloods -/
def p2_s1627 : ck_Sum := ((1, 0, 0), 245, [.inr (.inr (.inl 207))], ([], [], []), ([(207, 5, 5), (207, 8, 8)], []), [(.inr none, 245, ([], [], []))])
set_option maxRecDepth 100000 in
theorem p2_s1627_e : ck_ok p2_O none [] [(44, [p2_s383]), (9, [p2_s159]), (10, [p2_s160])] 43 [(22, [some (.inr (.inr (.inl 207))), some (.inr (.inr (.inl 6))), some (.inl ((-2147483648), 2147483647, [])), some (.inl (0, 9, [])), none], ([], [], []), 100, .inl 3, true)] 290 p2_s1627 = true := by decide +kernel
theorem p2_s1627_s {X : Int → Int} {LX : Nat} : ck_Ok p2_O X LX 43 p2_s1627 := ck_ok_s ⟨p2_nmu, ck_E1 (ck_S1 p2_s383_s ck_S0) (ck_E1 (ck_S1 p2_s159_s ck_S0) (ck_E1 (ck_S1 p2_s160_s ck_S0) ck_E0))⟩ ck_X0 ck_l0 p2_s1627_e
set_option maxRecDepth 100000 in
/-- GlacierMail$Way.step -/
def p2_s1628 : ck_Sum := ((2, 0, 0), 245, [.inr (.inr (.inl 207))], ([], [(3, 8, 0)], []), ([(207, 5, 8)], []), [(.inr none, 245, ([], [], []))])
set_option maxRecDepth 100000 in
theorem p2_s1628_e : ck_ok p2_O none [] [(31, [p2_s1625]), (33, [p2_s1626]), (35, [p2_s335]), (43, [p2_s1627])] 32 [] 134 p2_s1628 = true := by decide +kernel
theorem p2_s1628_s {X : Int → Int} {LX : Nat} : ck_Ok p2_O X LX 32 p2_s1628 := ck_ok_s ⟨p2_nmu, ck_E1 (ck_S1 p2_s1625_s ck_S0) (ck_E1 (ck_S1 p2_s1626_s ck_S0) (ck_E1 (ck_S1 p2_s335_s ck_S0) (ck_E1 (ck_S1 p2_s1627_s ck_S0) ck_E0)))⟩ ck_X0 ck_l0 p2_s1628_e
set_option maxRecDepth 100000 in
/-- GlacierMail$Way.goOnTo -/
def p2_s1629 : ck_Sum := ((3, 0, 0), 245, [.inr (.inr (.inl 207)), .inl (0, 299, [])], ([], [(3, 8, 0)], []), ([(207, 5, 8)], []), [(.inr none, 245, ([], [], []))])
set_option maxRecDepth 100000 in
theorem p2_s1629_e : ck_ok p2_O none [] [(32, [p2_s1628])] 148 [(5, [some (.inr (.inr (.inl 207))), some (.inl (0, 299, [])), some (.inl ((-2147483648), 2147483647, []))], ([], [(3, 8, 0)], []), 100, .inl 2, true)] 122 p2_s1629 = true := by decide +kernel
theorem p2_s1629_s {X : Int → Int} {LX : Nat} : ck_Ok p2_O X LX 148 p2_s1629 := ck_ok_s ⟨p2_nmu, ck_E1 (ck_S1 p2_s1628_s ck_S0) ck_E0⟩ ck_X0 ck_l0 p2_s1629_e
set_option maxRecDepth 100000 in
/-- GlacierMail.startBoth -/
def p2_s1674 : ck_Sum := ((4, 0, 0), 245, [.inr (.inr (.inl 1)), .inl (0, 23, []), .inl (0, 23, []), .inl (ck_one 0)], ([], [(3, 8, 0)], []), ([(206, 2, 8), (207, 2, 8)], []), [(.inr (some (.inl (0, 299, []))), 245, ([], [], [(206, 4, 4, ck_one (-1)), (206, 2, 2, ((-1), 299, []))]))])
set_option maxRecDepth 100000 in
theorem p2_s1674_e : ck_ok p2_O none [] [(27, [p2_s379, p2_s1624]), (148, [p2_s559, p2_s1629])] 182 [] 126 p2_s1674 = true := by decide +kernel
theorem p2_s1674_s {X : Int → Int} {LX : Nat} : ck_Ok p2_O X LX 182 p2_s1674 := ck_ok_s ⟨p2_nmu, ck_E1 (ck_S1 p2_s379_s (ck_S1 p2_s1624_s ck_S0)) (ck_E1 (ck_S1 p2_s559_s (ck_S1 p2_s1629_s ck_S0)) ck_E0)⟩ ck_X0 ck_l0 p2_s1674_e
set_option maxRecDepth 100000 in
/-- GlacierMail.bothInIce -/
def p2_s1631 : ck_Sum := ((1, 0, 0), 245, [.inr (.inr (.inl 1))], ([], [], []), ([], []), [(.inr (some (.inl (ck_one 1))), 245, ([], [], [(207, 5, 5, ((-2147483648), 98, [])), (206, 5, 5, ((-2147483648), 98, []))])), (.inr (some (.inl (ck_one 0))), 245, ([], [], []))])
set_option maxRecDepth 100000 in
theorem p2_s1631_e : ck_ok p2_O none [] [(31, [p2_s380, p2_s1625])] 183 [] 92 p2_s1631 = true := by decide +kernel
theorem p2_s1631_s {X : Int → Int} {LX : Nat} : ck_Ok p2_O X LX 183 p2_s1631 := ck_ok_s ⟨p2_nmu, ck_E1 (ck_S1 p2_s380_s (ck_S1 p2_s1625_s ck_S0)) ck_E0⟩ ck_X0 ck_l0 p2_s1631_e
set_option maxRecDepth 100000 in
/-- GlacierMail.stepBoth -/
def p2_s1632 : ck_Sum := ((3, 0, 0), 245, [.inr (.inr (.inl 1))], ([], [(3, 8, 0)], []), ([(206, 5, 8), (207, 5, 8)], []), [(.inr none, 245, ([], [], []))])
set_option maxRecDepth 100000 in
theorem p2_s1632_e : ck_ok p2_O none [] [(32, [p2_s385, p2_s1628])] 184 [] 84 p2_s1632 = true := by decide +kernel
theorem p2_s1632_s {X : Int → Int} {LX : Nat} : ck_Ok p2_O X LX 184 p2_s1632 := ck_ok_s ⟨p2_nmu, ck_E1 (ck_S1 p2_s385_s (ck_S1 p2_s1628_s ck_S0)) ck_E0⟩ ck_X0 ck_l0 p2_s1632_e
set_option maxRecDepth 100000 in
/-- GlacierMail.passesBy -/
def p2_s1675 : ck_Sum := ((5, 0, 0), 245, [.inr (.inr (.inl 1)), .inl (0, 23, []), .inl (0, 23, [])], ([], [(3, 8, 0)], []), ([(206, 2, 8), (207, 2, 8)], []), [(.inr (some (.inl (ck_one 0))), 245, ([], [], [(206, 4, 4, ck_one (-1)), (206, 2, 2, ((-1), 299, []))])), (.inr (some (.inl (ck_one 1))), 245, ([], [], [(207, 5, 5, ((-2147483648), 97, [])), (206, 5, 5, ((-2147483647), 98, [])), (206, 4, 4, ck_one (-1)), (206, 2, 2, ((-1), 299, []))]))])
set_option maxRecDepth 100000 in
theorem p2_s1675_e : ck_ok p2_O none [] [(182, [p2_s1674]), (183, [p2_s1631]), (184, [p2_s1632])] 181 [(39, [some (.inr (.inr (.inl 1))), some (.inl (0, 23, [])), some (.inl (0, 23, [])), some (.inl (0, 299, [])), some (.inl (1, 300, []))], ([], [(3, 8, 0)], [(207, 5, 5, ((-2147483648), 98, [])), (206, 5, 5, ((-2147483648), 98, [])), (206, 4, 4, ck_one (-1)), (206, 2, 2, ((-1), 299, []))]), 100, .inl 4, true)] 174 p2_s1675 = true := by decide +kernel
theorem p2_s1675_s {X : Int → Int} {LX : Nat} : ck_Ok p2_O X LX 181 p2_s1675 := ck_ok_s ⟨p2_nmu, ck_E1 (ck_S1 p2_s1674_s ck_S0) (ck_E1 (ck_S1 p2_s1631_s ck_S0) (ck_E1 (ck_S1 p2_s1632_s ck_S0) ck_E0))⟩ ck_X0 ck_l0 p2_s1675_e
set_option maxRecDepth 100000 in
/-- GlacierMail.passes -/
def p2_s1676 : ck_Sum := ((8, 1, 6), 245, [.inr (.inr (.inl 1)), .inl (0, 23, [])], ([], [(3, 8, 0)], []), ([(206, 2, 8), (207, 2, 8)], []), [(.inl 3, 245, ([], [], [])), (.inr (some (.inl ((-2147483648), 2147483647, []))), 245, ([], [], []))])
set_option maxRecDepth 100000 in
theorem p2_s1676_e : ck_ok p2_O none [] [(143, [p2_s531]), (9, [p2_s371]), (180, [p2_s1673]), (181, [p2_s1675])] 179 [(9, [some (.inr (.inr (.inl 1))), some (.inl (0, 23, [])), some (.inl ((-2147483648), 2147483647, [])), some (.inl (0, 24, []))], ([], [(3, 8, 0)], []), 100, .inl 3, true)] 182 p2_s1676 = true := by decide +kernel
theorem p2_s1676_s {X : Int → Int} {LX : Nat} : ck_Ok p2_O X LX 179 p2_s1676 := ck_ok_s ⟨p2_nmu, ck_E1 (ck_S1 p2_s531_s ck_S0) (ck_E1 (ck_S1 p2_s371_s ck_S0) (ck_E1 (ck_S1 p2_s1673_s ck_S0) (ck_E1 (ck_S1 p2_s1675_s ck_S0) ck_E0)))⟩ ck_X0 ck_l0 p2_s1676_e
set_option maxRecDepth 100000 in
/-- GlacierMailModel.passes -/
def p2_s1677 : ck_Sum := ((2, 0, 0), 245, [.inr (.inr (.inl 226)), .inl ((-2147483648), (-1), [])], ([], [], [(227, 4, 4, (0, 24, [(22, 0)]))]), ([(226, 0, 0)], []), [(.inr (some (.inl (ck_one 0))), 245, ([], [], [(226, 0, 0, ck_one 1)]))])
set_option maxRecDepth 100000 in
theorem p2_s1677_e : ck_ok p2_O none [] [(309, [p2_s538]), (282, [p2_s268])] 334 [] 94 p2_s1677 = true := by decide +kernel
theorem p2_s1677_s {X : Int → Int} {LX : Nat} : ck_Ok p2_O X LX 334 p2_s1677 := ck_ok_s ⟨p2_nmu, ck_E1 (ck_S1 p2_s538_s ck_S0) (ck_E1 (ck_S1 p2_s268_s ck_S0) ck_E0)⟩ ck_X0 ck_l0 p2_s1677_e
set_option maxRecDepth 100000 in
/-- GlacierMailModel.passes -/
def p2_s1678 : ck_Sum := ((2, 0, 0), 245, [.inr (.inr (.inl 226)), .inl (24, 2147483647, [])], ([], [], [(227, 4, 4, (0, 24, [(22, 0)]))]), ([(226, 0, 0)], []), [(.inr (some (.inl (ck_one 0))), 245, ([], [], [(226, 0, 0, ck_one 1)]))])
set_option maxRecDepth 100000 in
theorem p2_s1678_e : ck_ok p2_O none [] [(309, [p2_s541]), (282, [p2_s268])] 334 [] 94 p2_s1678 = true := by decide +kernel
theorem p2_s1678_s {X : Int → Int} {LX : Nat} : ck_Ok p2_O X LX 334 p2_s1678 := ck_ok_s ⟨p2_nmu, ck_E1 (ck_S1 p2_s541_s ck_S0) (ck_E1 (ck_S1 p2_s268_s ck_S0) ck_E0)⟩ ck_X0 ck_l0 p2_s1678_e
set_option maxRecDepth 100000 in
/-- GlacierMailModel.keepsRows -/
def p2_s1679 : ck_Sum := ((0, 0, 0), 245, [.inr (.inr (.inl 226))], ([], [], []), ([(239, 0, 299)], []), [(.inr none, 245, ([], [], []))])
set_option maxRecDepth 100000 in
theorem p2_s1679_e : ck_ok p2_O none [] [] 335 [(2, [some (.inr (.inr (.inl 226))), some (.inl (0, 300, []))], ([], [], []), 100, .inl 1, true)] 146 p2_s1679 = true := by decide +kernel
theorem p2_s1679_s {X : Int → Int} {LX : Nat} : ck_Ok p2_O X LX 335 p2_s1679 := ck_ok_s ⟨p2_nmu, ck_E0⟩ ck_X0 ck_l0 p2_s1679_e
set_option maxRecDepth 100000 in
/-- GlacierMailModel.isOtherInIce -/
def p2_s1682 : ck_Sum := ((1, 0, 0), 245, [.inr (.inr (.inl 226)), .inl (0, 299, [])], ([], [], []), ([], []), [(.inr (some (.inl (ck_one 0))), 245, ([], [], [])), (.inr (some (.inl (ck_one 1))), 245, ([], [], []))])
set_option maxRecDepth 100000 in
theorem p2_s1682_e : ck_ok p2_O none [] [(259, [p2_s200])] 337 [] 100 p2_s1682 = true := by decide +kernel
theorem p2_s1682_s {X : Int → Int} {LX : Nat} : ck_Ok p2_O X LX 337 p2_s1682 := ck_ok_s ⟨p2_nmu, ck_E1 (ck_S1 p2_s200_s ck_S0) ck_E0⟩ ck_X0 ck_l0 p2_s1682_e
set_option maxRecDepth 100000 in
/-- GlacierMailModel.isOtherInIce -/
def p2_s1683 : ck_Sum := ((1, 0, 0), 245, [.inr (.inr (.inl 226)), .inl (1, 299, [])], ([], [], []), ([], []), [(.inr (some (.inl (ck_one 0))), 245, ([], [], [])), (.inr (some (.inl (ck_one 1))), 245, ([], [], []))])
set_option maxRecDepth 100000 in
theorem p2_s1683_e : ck_ok p2_O none [] [(259, [p2_s200])] 337 [] 100 p2_s1683 = true := by decide +kernel
theorem p2_s1683_s {X : Int → Int} {LX : Nat} : ck_Ok p2_O X LX 337 p2_s1683 := ck_ok_s ⟨p2_nmu, ck_E1 (ck_S1 p2_s200_s ck_S0) ck_E0⟩ ck_X0 ck_l0 p2_s1683_e
set_option maxRecDepth 100000 in
/-- GlacierMailModel.isPassing -/
def p2_s1684 : ck_Sum := ((2, 0, 0), 245, [.inr (.inr (.inl 226)), .inl (0, 299, [])], ([], [], []), ([], []), [(.inr (some (.inl (ck_one 0))), 245, ([], [], [])), (.inr (some (.inl (ck_one 1))), 245, ([], [], []))])
set_option maxRecDepth 100000 in
theorem p2_s1684_e : ck_ok p2_O none [] [(312, [p2_s550]), (337, [p2_s1682, p2_s1683])] 336 [(37, [some (.inr (.inr (.inl 226))), some (.inl (0, 299, [])), some (.inl (1, 300, []))], ([], [], []), 100, .inl 2, true)] 182 p2_s1684 = true := by decide +kernel
theorem p2_s1684_s {X : Int → Int} {LX : Nat} : ck_Ok p2_O X LX 336 p2_s1684 := ck_ok_s ⟨p2_nmu, ck_E1 (ck_S1 p2_s550_s ck_S0) (ck_E1 (ck_S1 p2_s1682_s (ck_S1 p2_s1683_s ck_S0)) ck_E0)⟩ ck_X0 ck_l0 p2_s1684_e
set_option maxRecDepth 100000 in
/-- GlacierMail.writers -/
def p2_s1701 : ck_Sum := ((8, 1, 6), 245, [.inr (.inr (.inl 1)), .inl ((-2147483648), (-1), []), .inl ((-2147483648), 2147483647, []), .inl ((-2147483648), 2147483647, [])], ([], [], []), ([], []), [(.inl 3, 245, ([], [], []))])
set_option maxRecDepth 100000 in
theorem p2_s1701_e : ck_ok p2_O none [] [(132, [p2_s293])] 186 [] 76 p2_s1701 = true := by decide +kernel
theorem p2_s1701_s {X : Int → Int} {LX : Nat} : ck_Ok p2_O X LX 186 p2_s1701 := ck_ok_s ⟨p2_nmu, ck_E1 (ck_S1 p2_s293_s ck_S0) ck_E0⟩ ck_X0 ck_l0 p2_s1701_e
set_option maxRecDepth 100000 in
/-- GlacierMail.writers -/
def p2_s1702 : ck_Sum := ((8, 1, 6), 245, [.inr (.inr (.inl 1)), .inl (6, 2147483647, []), .inl ((-2147483648), 2147483647, []), .inl ((-2147483648), 2147483647, [])], ([], [], []), ([], []), [(.inl 3, 245, ([], [], []))])
set_option maxRecDepth 100000 in
theorem p2_s1702_e : ck_ok p2_O none [] [(132, [p2_s296])] 186 [] 76 p2_s1702 = true := by decide +kernel
theorem p2_s1702_s {X : Int → Int} {LX : Nat} : ck_Ok p2_O X LX 186 p2_s1702 := ck_ok_s ⟨p2_nmu, ck_E1 (ck_S1 p2_s296_s ck_S0) ck_E0⟩ ck_X0 ck_l0 p2_s1702_e
set_option maxRecDepth 100000 in
/-- GlacierMail.needFind -/
def p2_s1703 : ck_Sum := ((7, 1, 6), 245, [.inr (.inr (.inl 1)), .inl ((-2147483648), (-1), []), .inl ((-2147483648), 2147483647, [])], ([], [], []), ([], []), [(.inl 0, 245, ([], [], []))])
set_option maxRecDepth 100000 in
theorem p2_s1703_e : ck_ok p2_O none [] [(129, [p2_s276])] 187 [] 76 p2_s1703 = true := by decide +kernel
theorem p2_s1703_s {X : Int → Int} {LX : Nat} : ck_Ok p2_O X LX 187 p2_s1703 := ck_ok_s ⟨p2_nmu, ck_E1 (ck_S1 p2_s276_s ck_S0) ck_E0⟩ ck_X0 ck_l0 p2_s1703_e
set_option maxRecDepth 100000 in
/-- GlacierMail.writers -/
def p2_s1704 : ck_Sum := ((8, 2, 12), 245, [.inr (.inr (.inl 1)), .inl (0, 5, []), .inl ((-2147483648), (-1), []), .inl ((-2147483648), 2147483647, [])], ([], [], []), ([], []), [(.inl 3, 245, ([], [], [])), (.inl 0, 245, ([], [], []))])
set_option maxRecDepth 100000 in
theorem p2_s1704_e : ck_ok p2_O none [] [(132, [p2_s299]), (187, [p2_s1703])] 186 [] 84 p2_s1704 = true := by decide +kernel
theorem p2_s1704_s {X : Int → Int} {LX : Nat} : ck_Ok p2_O X LX 186 p2_s1704 := ck_ok_s ⟨p2_nmu, ck_E1 (ck_S1 p2_s299_s ck_S0) (ck_E1 (ck_S1 p2_s1703_s ck_S0) ck_E0)⟩ ck_X0 ck_l0 p2_s1704_e
set_option maxRecDepth 100000 in
/-- GlacierMail.needFind -/
def p2_s1705 : ck_Sum := ((7, 1, 6), 245, [.inr (.inr (.inl 1)), .inl (300, 2147483647, []), .inl ((-2147483648), 2147483647, [])], ([], [], []), ([], []), [(.inl 0, 245, ([], [], []))])
set_option maxRecDepth 100000 in
theorem p2_s1705_e : ck_ok p2_O none [] [(129, [p2_s278])] 187 [] 76 p2_s1705 = true := by decide +kernel
theorem p2_s1705_s {X : Int → Int} {LX : Nat} : ck_Ok p2_O X LX 187 p2_s1705 := ck_ok_s ⟨p2_nmu, ck_E1 (ck_S1 p2_s278_s ck_S0) ck_E0⟩ ck_X0 ck_l0 p2_s1705_e
set_option maxRecDepth 100000 in
/-- GlacierMail.writers -/
def p2_s1706 : ck_Sum := ((8, 2, 12), 245, [.inr (.inr (.inl 1)), .inl (0, 5, []), .inl (300, 2147483647, []), .inl ((-2147483648), 2147483647, [])], ([], [], []), ([], []), [(.inl 3, 245, ([], [], [])), (.inl 0, 245, ([], [], []))])
set_option maxRecDepth 100000 in
theorem p2_s1706_e : ck_ok p2_O none [] [(132, [p2_s299]), (187, [p2_s1705])] 186 [] 84 p2_s1706 = true := by decide +kernel
theorem p2_s1706_s {X : Int → Int} {LX : Nat} : ck_Ok p2_O X LX 186 p2_s1706 := ck_ok_s ⟨p2_nmu, ck_E1 (ck_S1 p2_s299_s ck_S0) (ck_E1 (ck_S1 p2_s1705_s ck_S0) ck_E0)⟩ ck_X0 ck_l0 p2_s1706_e
set_option maxRecDepth 100000 in
/-- GlacierMail.needFind -/
def p2_s1707 : ck_Sum := ((6, 1, 6), 245, [.inr (.inr (.inl 1)), .inl (0, 299, []), .inl ((-2147483648), (-1), [])], ([], [], []), ([], []), [(.inl 0, 245, ([], [], []))])
set_option maxRecDepth 100000 in
theorem p2_s1707_e : ck_ok p2_O none [] [(129, [p2_s280])] 187 [] 82 p2_s1707 = true := by decide +kernel
theorem p2_s1707_s {X : Int → Int} {LX : Nat} : ck_Ok p2_O X LX 187 p2_s1707 := ck_ok_s ⟨p2_nmu, ck_E1 (ck_S1 p2_s280_s ck_S0) ck_E0⟩ ck_X0 ck_l0 p2_s1707_e
set_option maxRecDepth 100000 in
/-- GlacierMail.writers -/
def p2_s1708 : ck_Sum := ((8, 2, 12), 245, [.inr (.inr (.inl 1)), .inl (0, 5, []), .inl (0, 299, []), .inl ((-2147483648), (-1), [])], ([], [], []), ([], []), [(.inl 3, 245, ([], [], [])), (.inl 0, 245, ([], [], []))])
set_option maxRecDepth 100000 in
theorem p2_s1708_e : ck_ok p2_O none [] [(132, [p2_s299]), (187, [p2_s1707])] 186 [] 84 p2_s1708 = true := by decide +kernel
theorem p2_s1708_s {X : Int → Int} {LX : Nat} : ck_Ok p2_O X LX 186 p2_s1708 := ck_ok_s ⟨p2_nmu, ck_E1 (ck_S1 p2_s299_s ck_S0) (ck_E1 (ck_S1 p2_s1707_s ck_S0) ck_E0)⟩ ck_X0 ck_l0 p2_s1708_e
set_option maxRecDepth 100000 in
/-- GlacierMail.needFind -/
def p2_s1709 : ck_Sum := ((6, 1, 6), 245, [.inr (.inr (.inl 1)), .inl (0, 299, []), .inl (100, 2147483647, [])], ([], [], []), ([], []), [(.inl 0, 245, ([], [], []))])
set_option maxRecDepth 100000 in
theorem p2_s1709_e : ck_ok p2_O none [] [(129, [p2_s280])] 187 [] 88 p2_s1709 = true := by decide +kernel
theorem p2_s1709_s {X : Int → Int} {LX : Nat} : ck_Ok p2_O X LX 187 p2_s1709 := ck_ok_s ⟨p2_nmu, ck_E1 (ck_S1 p2_s280_s ck_S0) ck_E0⟩ ck_X0 ck_l0 p2_s1709_e
set_option maxRecDepth 100000 in
/-- GlacierMail.writers -/
def p2_s1710 : ck_Sum := ((8, 2, 12), 245, [.inr (.inr (.inl 1)), .inl (0, 5, []), .inl (0, 299, []), .inl (100, 2147483647, [])], ([], [], []), ([], []), [(.inl 3, 245, ([], [], [])), (.inl 0, 245, ([], [], []))])
set_option maxRecDepth 100000 in
theorem p2_s1710_e : ck_ok p2_O none [] [(132, [p2_s299]), (187, [p2_s1709])] 186 [] 84 p2_s1710 = true := by decide +kernel
theorem p2_s1710_s {X : Int → Int} {LX : Nat} : ck_Ok p2_O X LX 186 p2_s1710 := ck_ok_s ⟨p2_nmu, ck_E1 (ck_S1 p2_s299_s ck_S0) (ck_E1 (ck_S1 p2_s1709_s ck_S0) ck_E0)⟩ ck_X0 ck_l0 p2_s1710_e
set_option maxRecDepth 100000 in
/-- GlacierMail.needFind -/
def p2_s1711 : ck_Sum := ((1, 0, 0), 245, [.inr (.inr (.inl 1)), .inl (0, 299, []), .inl (0, 99, [])], ([], [], []), ([], []), [(.inr none, 245, ([], [], []))])
set_option maxRecDepth 100000 in
theorem p2_s1711_e : ck_ok p2_O none [] [(129, [p2_s280])] 187 [] 88 p2_s1711 = true := by decide +kernel
theorem p2_s1711_s {X : Int → Int} {LX : Nat} : ck_Ok p2_O X LX 187 p2_s1711 := ck_ok_s ⟨p2_nmu, ck_E1 (ck_S1 p2_s280_s ck_S0) ck_E0⟩ ck_X0 ck_l0 p2_s1711_e
set_option maxRecDepth 100000 in
/-- GlacierMail.latestWriting -/
def p2_s1718 : ck_Sum := ((4, 0, 0), 245, [.inr (.inr (.inl 1)), .inl (0, 7, []), .inl (0, 5, []), .inl (0, 299, []), .inl (0, 99, [])], ([], [(3, 8, 0)], []), ([(206, 2, 8)], []), [(.inr (some (.inl (ck_one (-1)))), 245, ([], [], [])), (.inr (some (.inl (0, 298, []))), 245, ([], [], [(206, 4, 4, ck_one (-1))]))])
set_option maxRecDepth 100000 in
theorem p2_s1718_e : ck_ok p2_O none [] [(10, [p2_s450]), (170, [p2_s1549]), (30, [p2_s386])] 188 [(23, [some (.inr (.inr (.inl 1))), some (.inl (0, 7, [])), some (.inl (0, 5, [])), some (.inl (0, 299, [])), some (.inl (0, 99, [])), some (.inl ((-1), 298, []))], ([], [(3, 8, 0)], []), 100, .inl 5, false)] 174 p2_s1718 = true := by decide +kernel
theorem p2_s1718_s {X : Int → Int} {LX : Nat} : ck_Ok p2_O X LX 188 p2_s1718 := ck_ok_s ⟨p2_nmu, ck_E1 (ck_S1 p2_s450_s ck_S0) (ck_E1 (ck_S1 p2_s1549_s ck_S0) (ck_E1 (ck_S1 p2_s386_s ck_S0) ck_E0))⟩ ck_X0 ck_l0 p2_s1718_e
set_option maxRecDepth 100000 in
/-- GlacierMail.writers -/
def p2_s1719 : ck_Sum := ((8, 1, 6), 245, [.inr (.inr (.inl 1)), .inl (0, 5, []), .inl (0, 299, []), .inl (0, 99, [])], ([], [(3, 8, 0)], []), ([(206, 2, 8)], []), [(.inl 3, 245, ([], [], [])), (.inr (some (.inl ((-2147483648), 2147483647, []))), 245, ([], [], []))])
set_option maxRecDepth 100000 in
theorem p2_s1719_e : ck_ok p2_O none [] [(132, [p2_s299]), (187, [p2_s1711]), (9, [p2_s360]), (188, [p2_s1718])] 186 [(17, [some (.inr (.inr (.inl 1))), some (.inl (0, 5, [])), some (.inl (0, 299, [])), some (.inl (0, 99, [])), some (.inl ((-2147483648), 2147483647, [])), some (.inl (0, 9, []))], ([], [(3, 8, 0)], []), 100, .inl 5, true)] 182 p2_s1719 = true := by decide +kernel
theorem p2_s1719_s {X : Int → Int} {LX : Nat} : ck_Ok p2_O X LX 186 p2_s1719 := ck_ok_s ⟨p2_nmu, ck_E1 (ck_S1 p2_s299_s ck_S0) (ck_E1 (ck_S1 p2_s1711_s ck_S0) (ck_E1 (ck_S1 p2_s360_s ck_S0) (ck_E1 (ck_S1 p2_s1718_s ck_S0) ck_E0)))⟩ ck_X0 ck_l0 p2_s1719_e
set_option maxRecDepth 100000 in
/-- GlacierMailModel.writers -/
def p2_s1720 : ck_Sum := ((2, 0, 0), 245, [.inr (.inr (.inl 226)), .inl ((-2147483648), (-1), []), .inl ((-2147483648), 2147483647, []), .inl ((-2147483648), 2147483647, [])], ([], [], []), ([(226, 0, 0)], []), [(.inr (some (.inl (ck_one 0))), 245, ([], [], [(226, 0, 0, ck_one 1)]))])
set_option maxRecDepth 100000 in
theorem p2_s1720_e : ck_ok p2_O none [] [(288, [p2_s311]), (282, [p2_s268])] 338 [] 94 p2_s1720 = true := by decide +kernel
theorem p2_s1720_s {X : Int → Int} {LX : Nat} : ck_Ok p2_O X LX 338 p2_s1720 := ck_ok_s ⟨p2_nmu, ck_E1 (ck_S1 p2_s311_s ck_S0) (ck_E1 (ck_S1 p2_s268_s ck_S0) ck_E0)⟩ ck_X0 ck_l0 p2_s1720_e
set_option maxRecDepth 100000 in
/-- GlacierMailModel.writers -/
def p2_s1721 : ck_Sum := ((2, 0, 0), 245, [.inr (.inr (.inl 226)), .inl (6, 2147483647, []), .inl ((-2147483648), 2147483647, []), .inl ((-2147483648), 2147483647, [])], ([], [], []), ([(226, 0, 0)], []), [(.inr (some (.inl (ck_one 0))), 245, ([], [], [(226, 0, 0, ck_one 1)]))])
set_option maxRecDepth 100000 in
theorem p2_s1721_e : ck_ok p2_O none [] [(288, [p2_s314]), (282, [p2_s268])] 338 [] 94 p2_s1721 = true := by decide +kernel
theorem p2_s1721_s {X : Int → Int} {LX : Nat} : ck_Ok p2_O X LX 338 p2_s1721 := ck_ok_s ⟨p2_nmu, ck_E1 (ck_S1 p2_s314_s ck_S0) (ck_E1 (ck_S1 p2_s268_s ck_S0) ck_E0)⟩ ck_X0 ck_l0 p2_s1721_e
set_option maxRecDepth 100000 in
/-- GlacierMailModel.writers -/
def p2_s1722 : ck_Sum := ((2, 0, 0), 245, [.inr (.inr (.inl 226)), .inl (0, 5, []), .inl ((-2147483648), (-1), []), .inl ((-2147483648), 2147483647, [])], ([], [], []), ([(226, 0, 0)], []), [(.inr (some (.inl (ck_one 0))), 245, ([], [], [(226, 0, 0, (1, 2, []))]))])
set_option maxRecDepth 100000 in
theorem p2_s1722_e : ck_ok p2_O none [] [(288, [p2_s317]), (282, [p2_s268, p2_s269, p2_s272]), (285, [p2_s284])] 338 [] 112 p2_s1722 = true := by decide +kernel
theorem p2_s1722_s {X : Int → Int} {LX : Nat} : ck_Ok p2_O X LX 338 p2_s1722 := ck_ok_s ⟨p2_nmu, ck_E1 (ck_S1 p2_s317_s ck_S0) (ck_E1 (ck_S1 p2_s268_s (ck_S1 p2_s269_s (ck_S1 p2_s272_s ck_S0))) (ck_E1 (ck_S1 p2_s284_s ck_S0) ck_E0))⟩ ck_X0 ck_l0 p2_s1722_e
set_option maxRecDepth 100000 in
/-- GlacierMailModel.writers -/
def p2_s1723 : ck_Sum := ((2, 0, 0), 245, [.inr (.inr (.inl 226)), .inl (0, 5, []), .inl (300, 2147483647, []), .inl ((-2147483648), 2147483647, [])], ([], [], []), ([(226, 0, 0)], []), [(.inr (some (.inl (ck_one 0))), 245, ([], [], [(226, 0, 0, (1, 2, []))]))])
set_option maxRecDepth 100000 in
theorem p2_s1723_e : ck_ok p2_O none [] [(288, [p2_s317]), (282, [p2_s268, p2_s269, p2_s272]), (285, [p2_s287])] 338 [] 112 p2_s1723 = true := by decide +kernel
theorem p2_s1723_s {X : Int → Int} {LX : Nat} : ck_Ok p2_O X LX 338 p2_s1723 := ck_ok_s ⟨p2_nmu, ck_E1 (ck_S1 p2_s317_s ck_S0) (ck_E1 (ck_S1 p2_s268_s (ck_S1 p2_s269_s (ck_S1 p2_s272_s ck_S0))) (ck_E1 (ck_S1 p2_s287_s ck_S0) ck_E0))⟩ ck_X0 ck_l0 p2_s1723_e
set_option maxRecDepth 100000 in
/-- GlacierMailModel.in -/
def p2_s1724 : ck_Sum := ((0, 0, 0), 245, [.inl ((-2147483648), (-1), []), .inl (ck_one 0), .inl (ck_one 99)], ([], [], []), ([], []), [(.inr (some (.inl (ck_one 0))), 245, ([], [], []))])
set_option maxRecDepth 100000 in
theorem p2_s1724_e : ck_ok p2_O none [] [] 286 [] 80 p2_s1724 = true := by decide +kernel
theorem p2_s1724_s {X : Int → Int} {LX : Nat} : ck_Ok p2_O X LX 286 p2_s1724 := ck_ok_s ⟨p2_nmu, ck_E0⟩ ck_X0 ck_l0 p2_s1724_e
set_option maxRecDepth 100000 in
/-- GlacierMailModel.writers -/
def p2_s1725 : ck_Sum := ((2, 0, 0), 245, [.inr (.inr (.inl 226)), .inl (0, 5, []), .inl (0, 299, []), .inl ((-2147483648), (-1), [])], ([], [], []), ([(226, 0, 0)], []), [(.inr (some (.inl (ck_one 0))), 245, ([], [], [(226, 0, 0, (1, 2, []))]))])
set_option maxRecDepth 100000 in
theorem p2_s1725_e : ck_ok p2_O none [] [(288, [p2_s317]), (282, [p2_s268, p2_s269, p2_s272]), (285, [p2_s290]), (286, [p2_s1724])] 338 [] 122 p2_s1725 = true := by decide +kernel
theorem p2_s1725_s {X : Int → Int} {LX : Nat} : ck_Ok p2_O X LX 338 p2_s1725 := ck_ok_s ⟨p2_nmu, ck_E1 (ck_S1 p2_s317_s ck_S0) (ck_E1 (ck_S1 p2_s268_s (ck_S1 p2_s269_s (ck_S1 p2_s272_s ck_S0))) (ck_E1 (ck_S1 p2_s290_s ck_S0) (ck_E1 (ck_S1 p2_s1724_s ck_S0) ck_E0)))⟩ ck_X0 ck_l0 p2_s1725_e
set_option maxRecDepth 100000 in
/-- GlacierMailModel.in -/
def p2_s1726 : ck_Sum := ((0, 0, 0), 245, [.inl (100, 2147483647, []), .inl (ck_one 0), .inl (ck_one 99)], ([], [], []), ([], []), [(.inr (some (.inl (ck_one 0))), 245, ([], [], []))])
set_option maxRecDepth 100000 in
theorem p2_s1726_e : ck_ok p2_O none [] [] 286 [] 86 p2_s1726 = true := by decide +kernel
theorem p2_s1726_s {X : Int → Int} {LX : Nat} : ck_Ok p2_O X LX 286 p2_s1726 := ck_ok_s ⟨p2_nmu, ck_E0⟩ ck_X0 ck_l0 p2_s1726_e
set_option maxRecDepth 100000 in
/-- GlacierMailModel.writers -/
def p2_s1727 : ck_Sum := ((2, 0, 0), 245, [.inr (.inr (.inl 226)), .inl (0, 5, []), .inl (0, 299, []), .inl (100, 2147483647, [])], ([], [], []), ([(226, 0, 0)], []), [(.inr (some (.inl (ck_one 0))), 245, ([], [], [(226, 0, 0, (1, 2, []))]))])
set_option maxRecDepth 100000 in
theorem p2_s1727_e : ck_ok p2_O none [] [(288, [p2_s317]), (282, [p2_s268, p2_s269, p2_s272]), (285, [p2_s290]), (286, [p2_s1726])] 338 [] 122 p2_s1727 = true := by decide +kernel
theorem p2_s1727_s {X : Int → Int} {LX : Nat} : ck_Ok p2_O X LX 338 p2_s1727 := ck_ok_s ⟨p2_nmu, ck_E1 (ck_S1 p2_s317_s ck_S0) (ck_E1 (ck_S1 p2_s268_s (ck_S1 p2_s269_s (ck_S1 p2_s272_s ck_S0))) (ck_E1 (ck_S1 p2_s290_s ck_S0) (ck_E1 (ck_S1 p2_s1726_s ck_S0) ck_E0)))⟩ ck_X0 ck_l0 p2_s1727_e
set_option maxRecDepth 100000 in
/-- GlacierMailModel.in -/
def p2_s1728 : ck_Sum := ((0, 0, 0), 245, [.inl (0, 99, []), .inl (ck_one 0), .inl (ck_one 99)], ([], [], []), ([], []), [(.inr (some (.inl (ck_one 1))), 245, ([], [], []))])
set_option maxRecDepth 100000 in
theorem p2_s1728_e : ck_ok p2_O none [] [] 286 [] 88 p2_s1728 = true := by decide +kernel
theorem p2_s1728_s {X : Int → Int} {LX : Nat} : ck_Ok p2_O X LX 286 p2_s1728 := ck_ok_s ⟨p2_nmu, ck_E0⟩ ck_X0 ck_l0 p2_s1728_e
set_option maxRecDepth 100000 in
/-- GlacierMail.wrote -/
def p2_s1738 : ck_Sum := ((8, 1, 6), 245, [.inr (.inr (.inl 1)), .inl ((-2147483648), (-1), []), .inl ((-2147483648), 2147483647, []), .inl ((-2147483648), 2147483647, []), .inl ((-2147483648), 2147483647, [])], ([], [], []), ([], []), [(.inl 3, 245, ([], [], []))])
set_option maxRecDepth 100000 in
theorem p2_s1738_e : ck_ok p2_O none [] [(139, [p2_s362])] 190 [] 76 p2_s1738 = true := by decide +kernel
theorem p2_s1738_s {X : Int → Int} {LX : Nat} : ck_Ok p2_O X LX 190 p2_s1738 := ck_ok_s ⟨p2_nmu, ck_E1 (ck_S1 p2_s362_s ck_S0) ck_E0⟩ ck_X0 ck_l0 p2_s1738_e
set_option maxRecDepth 100000 in
/-- GlacierMail.wrote -/
def p2_s1739 : ck_Sum := ((8, 1, 6), 245, [.inr (.inr (.inl 1)), .inl (8, 2147483647, []), .inl ((-2147483648), 2147483647, []), .inl ((-2147483648), 2147483647, []), .inl ((-2147483648), 2147483647, [])], ([], [], []), ([], []), [(.inl 3, 245, ([], [], []))])
set_option maxRecDepth 100000 in
theorem p2_s1739_e : ck_ok p2_O none [] [(139, [p2_s365])] 190 [] 76 p2_s1739 = true := by decide +kernel
theorem p2_s1739_s {X : Int → Int} {LX : Nat} : ck_Ok p2_O X LX 190 p2_s1739 := ck_ok_s ⟨p2_nmu, ck_E1 (ck_S1 p2_s365_s ck_S0) ck_E0⟩ ck_X0 ck_l0 p2_s1739_e
set_option maxRecDepth 100000 in
/-- GlacierMail.wrote -/
def p2_s1740 : ck_Sum := ((8, 2, 12), 245, [.inr (.inr (.inl 1)), .inl (0, 7, []), .inl ((-2147483648), (-1), []), .inl ((-2147483648), 2147483647, []), .inl ((-2147483648), 2147483647, [])], ([], [], []), ([], []), [(.inl 3, 245, ([], [], []))])
set_option maxRecDepth 100000 in
theorem p2_s1740_e : ck_ok p2_O none [] [(139, [p2_s368]), (132, [p2_s293])] 190 [] 82 p2_s1740 = true := by decide +kernel
theorem p2_s1740_s {X : Int → Int} {LX : Nat} : ck_Ok p2_O X LX 190 p2_s1740 := ck_ok_s ⟨p2_nmu, ck_E1 (ck_S1 p2_s368_s ck_S0) (ck_E1 (ck_S1 p2_s293_s ck_S0) ck_E0)⟩ ck_X0 ck_l0 p2_s1740_e
set_option maxRecDepth 100000 in
/-- GlacierMail.wrote -/
def p2_s1741 : ck_Sum := ((8, 2, 12), 245, [.inr (.inr (.inl 1)), .inl (0, 7, []), .inl (6, 2147483647, []), .inl ((-2147483648), 2147483647, []), .inl ((-2147483648), 2147483647, [])], ([], [], []), ([], []), [(.inl 3, 245, ([], [], []))])
set_option maxRecDepth 100000 in
theorem p2_s1741_e : ck_ok p2_O none [] [(139, [p2_s368]), (132, [p2_s296])] 190 [] 82 p2_s1741 = true := by decide +kernel
theorem p2_s1741_s {X : Int → Int} {LX : Nat} : ck_Ok p2_O X LX 190 p2_s1741 := ck_ok_s ⟨p2_nmu, ck_E1 (ck_S1 p2_s368_s ck_S0) (ck_E1 (ck_S1 p2_s296_s ck_S0) ck_E0)⟩ ck_X0 ck_l0 p2_s1741_e
set_option maxRecDepth 100000 in
/-- GlacierMail.wrote -/
def p2_s1742 : ck_Sum := ((8, 3, 18), 245, [.inr (.inr (.inl 1)), .inl (0, 7, []), .inl (0, 5, []), .inl ((-2147483648), (-1), []), .inl ((-2147483648), 2147483647, [])], ([], [], []), ([], []), [(.inl 3, 245, ([], [], [])), (.inl 0, 245, ([], [], []))])
set_option maxRecDepth 100000 in
theorem p2_s1742_e : ck_ok p2_O none [] [(139, [p2_s368]), (132, [p2_s299]), (187, [p2_s1703])] 190 [] 90 p2_s1742 = true := by decide +kernel
theorem p2_s1742_s {X : Int → Int} {LX : Nat} : ck_Ok p2_O X LX 190 p2_s1742 := ck_ok_s ⟨p2_nmu, ck_E1 (ck_S1 p2_s368_s ck_S0) (ck_E1 (ck_S1 p2_s299_s ck_S0) (ck_E1 (ck_S1 p2_s1703_s ck_S0) ck_E0))⟩ ck_X0 ck_l0 p2_s1742_e
set_option maxRecDepth 100000 in
/-- GlacierMail.wrote -/
def p2_s1743 : ck_Sum := ((8, 3, 18), 245, [.inr (.inr (.inl 1)), .inl (0, 7, []), .inl (0, 5, []), .inl (300, 2147483647, []), .inl ((-2147483648), 2147483647, [])], ([], [], []), ([], []), [(.inl 3, 245, ([], [], [])), (.inl 0, 245, ([], [], []))])
set_option maxRecDepth 100000 in
theorem p2_s1743_e : ck_ok p2_O none [] [(139, [p2_s368]), (132, [p2_s299]), (187, [p2_s1705])] 190 [] 90 p2_s1743 = true := by decide +kernel
theorem p2_s1743_s {X : Int → Int} {LX : Nat} : ck_Ok p2_O X LX 190 p2_s1743 := ck_ok_s ⟨p2_nmu, ck_E1 (ck_S1 p2_s368_s ck_S0) (ck_E1 (ck_S1 p2_s299_s ck_S0) (ck_E1 (ck_S1 p2_s1705_s ck_S0) ck_E0))⟩ ck_X0 ck_l0 p2_s1743_e
set_option maxRecDepth 100000 in
/-- GlacierMail.wrote -/
def p2_s1744 : ck_Sum := ((8, 3, 18), 245, [.inr (.inr (.inl 1)), .inl (0, 7, []), .inl (0, 5, []), .inl (0, 299, []), .inl ((-2147483648), (-1), [])], ([], [], []), ([], []), [(.inl 3, 245, ([], [], [])), (.inl 0, 245, ([], [], []))])
set_option maxRecDepth 100000 in
theorem p2_s1744_e : ck_ok p2_O none [] [(139, [p2_s368]), (132, [p2_s299]), (187, [p2_s1707])] 190 [] 90 p2_s1744 = true := by decide +kernel
theorem p2_s1744_s {X : Int → Int} {LX : Nat} : ck_Ok p2_O X LX 190 p2_s1744 := ck_ok_s ⟨p2_nmu, ck_E1 (ck_S1 p2_s368_s ck_S0) (ck_E1 (ck_S1 p2_s299_s ck_S0) (ck_E1 (ck_S1 p2_s1707_s ck_S0) ck_E0))⟩ ck_X0 ck_l0 p2_s1744_e
set_option maxRecDepth 100000 in
/-- GlacierMail.wrote -/
def p2_s1745 : ck_Sum := ((8, 3, 18), 245, [.inr (.inr (.inl 1)), .inl (0, 7, []), .inl (0, 5, []), .inl (0, 299, []), .inl (100, 2147483647, [])], ([], [], []), ([], []), [(.inl 3, 245, ([], [], [])), (.inl 0, 245, ([], [], []))])
set_option maxRecDepth 100000 in
theorem p2_s1745_e : ck_ok p2_O none [] [(139, [p2_s368]), (132, [p2_s299]), (187, [p2_s1709])] 190 [] 90 p2_s1745 = true := by decide +kernel
theorem p2_s1745_s {X : Int → Int} {LX : Nat} : ck_Ok p2_O X LX 190 p2_s1745 := ck_ok_s ⟨p2_nmu, ck_E1 (ck_S1 p2_s368_s ck_S0) (ck_E1 (ck_S1 p2_s299_s ck_S0) (ck_E1 (ck_S1 p2_s1709_s ck_S0) ck_E0))⟩ ck_X0 ck_l0 p2_s1745_e
set_option maxRecDepth 100000 in
/-- GlacierMail.wrote -/
def p2_s1746 : ck_Sum := ((8, 2, 12), 245, [.inr (.inr (.inl 1)), .inl (0, 7, []), .inl (0, 5, []), .inl (0, 299, []), .inl (0, 99, [])], ([], [(3, 8, 0)], []), ([(206, 2, 8)], []), [(.inl 3, 245, ([], [], [])), (.inr (some (.inl (ck_one (-1)))), 245, ([], [], [])), (.inr (some (.inl (0, 298, []))), 245, ([], [], [(206, 4, 4, ck_one (-1))]))])
set_option maxRecDepth 100000 in
theorem p2_s1746_e : ck_ok p2_O none [] [(139, [p2_s368]), (132, [p2_s299]), (187, [p2_s1711]), (188, [p2_s1718])] 190 [] 104 p2_s1746 = true := by decide +kernel
theorem p2_s1746_s {X : Int → Int} {LX : Nat} : ck_Ok p2_O X LX 190 p2_s1746 := ck_ok_s ⟨p2_nmu, ck_E1 (ck_S1 p2_s368_s ck_S0) (ck_E1 (ck_S1 p2_s299_s ck_S0) (ck_E1 (ck_S1 p2_s1711_s ck_S0) (ck_E1 (ck_S1 p2_s1718_s ck_S0) ck_E0)))⟩ ck_X0 ck_l0 p2_s1746_e
set_option maxRecDepth 100000 in
/-- GlacierMailModel.wrote -/
def p2_s1747 : ck_Sum := ((2, 0, 0), 245, [.inr (.inr (.inl 226)), .inl ((-2147483648), (-1), []), .inl ((-2147483648), 2147483647, []), .inl ((-2147483648), 2147483647, []), .inl ((-2147483648), 2147483647, [])], ([], [], [(227, 3, 3, (0, 8, [(21, 0)]))]), ([(226, 0, 0)], []), [(.inr (some (.inl (ck_one 0))), 245, ([], [], [(226, 0, 0, ck_one 1)]))])
set_option maxRecDepth 100000 in
theorem p2_s1747_e : ck_ok p2_O none [] [(298, [p2_s453]), (282, [p2_s268])] 340 [] 100 p2_s1747 = true := by decide +kernel
theorem p2_s1747_s {X : Int → Int} {LX : Nat} : ck_Ok p2_O X LX 340 p2_s1747 := ck_ok_s ⟨p2_nmu, ck_E1 (ck_S1 p2_s453_s ck_S0) (ck_E1 (ck_S1 p2_s268_s ck_S0) ck_E0)⟩ ck_X0 ck_l0 p2_s1747_e
set_option maxRecDepth 100000 in
/-- GlacierMailModel.wrote -/
def p2_s1748 : ck_Sum := ((2, 0, 0), 245, [.inr (.inr (.inl 226)), .inl (8, 2147483647, []), .inl ((-2147483648), 2147483647, []), .inl ((-2147483648), 2147483647, []), .inl ((-2147483648), 2147483647, [])], ([], [], [(227, 3, 3, (0, 8, [(21, 0)]))]), ([(226, 0, 0)], []), [(.inr (some (.inl (ck_one 0))), 245, ([], [], [(226, 0, 0, ck_one 1)]))])
set_option maxRecDepth 100000 in
theorem p2_s1748_e : ck_ok p2_O none [] [(298, [p2_s456]), (282, [p2_s268])] 340 [] 100 p2_s1748 = true := by decide +kernel
theorem p2_s1748_s {X : Int → Int} {LX : Nat} : ck_Ok p2_O X LX 340 p2_s1748 := ck_ok_s ⟨p2_nmu, ck_E1 (ck_S1 p2_s456_s ck_S0) (ck_E1 (ck_S1 p2_s268_s ck_S0) ck_E0)⟩ ck_X0 ck_l0 p2_s1748_e
set_option maxRecDepth 100000 in
/-- GlacierMailModel.wrote -/
def p2_s1749 : ck_Sum := ((2, 0, 0), 245, [.inr (.inr (.inl 226)), .inl (0, 7, []), .inl ((-2147483648), (-1), []), .inl ((-2147483648), 2147483647, []), .inl ((-2147483648), 2147483647, [])], ([], [], [(227, 3, 3, (0, 8, [(21, 0)]))]), ([(226, 0, 0)], []), [(.inr (some (.inl (ck_one 0))), 245, ([], [], [(226, 0, 0, ck_one 1)]))])
set_option maxRecDepth 100000 in
theorem p2_s1749_e : ck_ok p2_O none [] [(298, [p2_s459]), (282, [p2_s268]), (288, [p2_s311])] 340 [] 108 p2_s1749 = true := by decide +kernel
theorem p2_s1749_s {X : Int → Int} {LX : Nat} : ck_Ok p2_O X LX 340 p2_s1749 := ck_ok_s ⟨p2_nmu, ck_E1 (ck_S1 p2_s459_s ck_S0) (ck_E1 (ck_S1 p2_s268_s ck_S0) (ck_E1 (ck_S1 p2_s311_s ck_S0) ck_E0))⟩ ck_X0 ck_l0 p2_s1749_e
set_option maxRecDepth 100000 in
/-- GlacierMailModel.wrote -/
def p2_s1750 : ck_Sum := ((2, 0, 0), 245, [.inr (.inr (.inl 226)), .inl (0, 7, []), .inl (6, 2147483647, []), .inl ((-2147483648), 2147483647, []), .inl ((-2147483648), 2147483647, [])], ([], [], [(227, 3, 3, (0, 8, [(21, 0)]))]), ([(226, 0, 0)], []), [(.inr (some (.inl (ck_one 0))), 245, ([], [], [(226, 0, 0, ck_one 1)]))])
set_option maxRecDepth 100000 in
theorem p2_s1750_e : ck_ok p2_O none [] [(298, [p2_s459]), (282, [p2_s268]), (288, [p2_s314])] 340 [] 108 p2_s1750 = true := by decide +kernel
theorem p2_s1750_s {X : Int → Int} {LX : Nat} : ck_Ok p2_O X LX 340 p2_s1750 := ck_ok_s ⟨p2_nmu, ck_E1 (ck_S1 p2_s459_s ck_S0) (ck_E1 (ck_S1 p2_s268_s ck_S0) (ck_E1 (ck_S1 p2_s314_s ck_S0) ck_E0))⟩ ck_X0 ck_l0 p2_s1750_e
set_option maxRecDepth 100000 in
/-- GlacierMailModel.wrote -/
def p2_s1751 : ck_Sum := ((2, 0, 0), 245, [.inr (.inr (.inl 226)), .inl (0, 7, []), .inl (0, 5, []), .inl ((-2147483648), (-1), []), .inl ((-2147483648), 2147483647, [])], ([], [], [(227, 3, 3, (0, 8, [(21, 0)]))]), ([(226, 0, 0)], []), [(.inr (some (.inl (ck_one 0))), 245, ([], [], [(226, 0, 0, (1, 2, []))]))])
set_option maxRecDepth 100000 in
theorem p2_s1751_e : ck_ok p2_O none [] [(298, [p2_s459]), (282, [p2_s268, p2_s269, p2_s272]), (288, [p2_s317]), (285, [p2_s284])] 340 [] 124 p2_s1751 = true := by decide +kernel
theorem p2_s1751_s {X : Int → Int} {LX : Nat} : ck_Ok p2_O X LX 340 p2_s1751 := ck_ok_s ⟨p2_nmu, ck_E1 (ck_S1 p2_s459_s ck_S0) (ck_E1 (ck_S1 p2_s268_s (ck_S1 p2_s269_s (ck_S1 p2_s272_s ck_S0))) (ck_E1 (ck_S1 p2_s317_s ck_S0) (ck_E1 (ck_S1 p2_s284_s ck_S0) ck_E0)))⟩ ck_X0 ck_l0 p2_s1751_e
set_option maxRecDepth 100000 in
/-- GlacierMailModel.wrote -/
def p2_s1752 : ck_Sum := ((2, 0, 0), 245, [.inr (.inr (.inl 226)), .inl (0, 7, []), .inl (0, 5, []), .inl (300, 2147483647, []), .inl ((-2147483648), 2147483647, [])], ([], [], [(227, 3, 3, (0, 8, [(21, 0)]))]), ([(226, 0, 0)], []), [(.inr (some (.inl (ck_one 0))), 245, ([], [], [(226, 0, 0, (1, 2, []))]))])
set_option maxRecDepth 100000 in
theorem p2_s1752_e : ck_ok p2_O none [] [(298, [p2_s459]), (282, [p2_s268, p2_s269, p2_s272]), (288, [p2_s317]), (285, [p2_s287])] 340 [] 124 p2_s1752 = true := by decide +kernel
theorem p2_s1752_s {X : Int → Int} {LX : Nat} : ck_Ok p2_O X LX 340 p2_s1752 := ck_ok_s ⟨p2_nmu, ck_E1 (ck_S1 p2_s459_s ck_S0) (ck_E1 (ck_S1 p2_s268_s (ck_S1 p2_s269_s (ck_S1 p2_s272_s ck_S0))) (ck_E1 (ck_S1 p2_s317_s ck_S0) (ck_E1 (ck_S1 p2_s287_s ck_S0) ck_E0)))⟩ ck_X0 ck_l0 p2_s1752_e
set_option maxRecDepth 100000 in
/-- GlacierMailModel.wrote -/
def p2_s1753 : ck_Sum := ((2, 0, 0), 245, [.inr (.inr (.inl 226)), .inl (0, 7, []), .inl (0, 5, []), .inl (0, 299, []), .inl ((-2147483648), (-1), [])], ([], [], [(227, 3, 3, (0, 8, [(21, 0)]))]), ([(226, 0, 0)], []), [(.inr (some (.inl (ck_one 0))), 245, ([], [], [(226, 0, 0, (1, 2, []))]))])
set_option maxRecDepth 100000 in
theorem p2_s1753_e : ck_ok p2_O none [] [(298, [p2_s459]), (282, [p2_s268, p2_s269, p2_s272]), (288, [p2_s317]), (285, [p2_s290]), (286, [p2_s1724])] 340 [] 134 p2_s1753 = true := by decide +kernel
theorem p2_s1753_s {X : Int → Int} {LX : Nat} : ck_Ok p2_O X LX 340 p2_s1753 := ck_ok_s ⟨p2_nmu, ck_E1 (ck_S1 p2_s459_s ck_S0) (ck_E1 (ck_S1 p2_s268_s (ck_S1 p2_s269_s (ck_S1 p2_s272_s ck_S0))) (ck_E1 (ck_S1 p2_s317_s ck_S0) (ck_E1 (ck_S1 p2_s290_s ck_S0) (ck_E1 (ck_S1 p2_s1724_s ck_S0) ck_E0))))⟩ ck_X0 ck_l0 p2_s1753_e
set_option maxRecDepth 100000 in
/-- GlacierMailModel.wrote -/
def p2_s1754 : ck_Sum := ((2, 0, 0), 245, [.inr (.inr (.inl 226)), .inl (0, 7, []), .inl (0, 5, []), .inl (0, 299, []), .inl (100, 2147483647, [])], ([], [], [(227, 3, 3, (0, 8, [(21, 0)]))]), ([(226, 0, 0)], []), [(.inr (some (.inl (ck_one 0))), 245, ([], [], [(226, 0, 0, (1, 2, []))]))])
set_option maxRecDepth 100000 in
theorem p2_s1754_e : ck_ok p2_O none [] [(298, [p2_s459]), (282, [p2_s268, p2_s269, p2_s272]), (288, [p2_s317]), (285, [p2_s290]), (286, [p2_s1726])] 340 [] 134 p2_s1754 = true := by decide +kernel
theorem p2_s1754_s {X : Int → Int} {LX : Nat} : ck_Ok p2_O X LX 340 p2_s1754 := ck_ok_s ⟨p2_nmu, ck_E1 (ck_S1 p2_s459_s ck_S0) (ck_E1 (ck_S1 p2_s268_s (ck_S1 p2_s269_s (ck_S1 p2_s272_s ck_S0))) (ck_E1 (ck_S1 p2_s317_s ck_S0) (ck_E1 (ck_S1 p2_s290_s ck_S0) (ck_E1 (ck_S1 p2_s1726_s ck_S0) ck_E0))))⟩ ck_X0 ck_l0 p2_s1754_e
set_option maxRecDepth 100000 in
/-- GlacierMail$Rows.size -/
def p2_s1756 : ck_Sum := ((0, 0, 0), 245, [.inr (.inr (.inl 12))], ([], [], []), ([], []), [(.inr (some (.inl (0, 6, []))), 245, ([], [], []))])
set_option maxRecDepth 100000 in
theorem p2_s1756_e : ck_ok p2_O none [] [] 9 [] 76 p2_s1756 = true := by decide +kernel
theorem p2_s1756_s {X : Int → Int} {LX : Nat} : ck_Ok p2_O X LX 9 p2_s1756 := ck_ok_s ⟨p2_nmu, ck_E0⟩ ck_X0 ck_l0 p2_s1756_e
set_option maxRecDepth 100000 in
/-- GlacierMail.need -/
def p2_s1757 : ck_Sum := ((6, 1, 6), 245, [.inr (.inr (.inl 1)), .inl ((-2147483648), (-1), []), .inl (0, 6, [])], ([], [], []), ([], []), [(.inl 3, 245, ([], [], []))])
set_option maxRecDepth 100000 in
theorem p2_s1757_e : ck_ok p2_O none [] [] 133 [] 76 p2_s1757 = true := by decide +kernel
theorem p2_s1757_s {X : Int → Int} {LX : Nat} : ck_Ok p2_O X LX 133 p2_s1757 := ck_ok_s ⟨p2_nmu, ck_E0⟩ ck_X0 ck_l0 p2_s1757_e
set_option maxRecDepth 100000 in
/-- GlacierMail.needTable -/
def p2_s1758 : ck_Sum := ((7, 1, 6), 245, [.inr (.inr (.inl 1)), .inl ((-2147483648), (-1), [])], ([], [], []), ([], []), [(.inl 3, 245, ([], [], []))])
set_option maxRecDepth 100000 in
theorem p2_s1758_e : ck_ok p2_O none [] [(9, [p2_s1756]), (133, [p2_s1757])] 193 [] 84 p2_s1758 = true := by decide +kernel
theorem p2_s1758_s {X : Int → Int} {LX : Nat} : ck_Ok p2_O X LX 193 p2_s1758 := ck_ok_s ⟨p2_nmu, ck_E1 (ck_S1 p2_s1756_s ck_S0) (ck_E1 (ck_S1 p2_s1757_s ck_S0) ck_E0)⟩ ck_X0 ck_l0 p2_s1758_e
set_option maxRecDepth 100000 in
/-- GlacierMail.table -/
def p2_s1759 : ck_Sum := ((8, 1, 6), 245, [.inr (.inr (.inl 1)), .inl ((-2147483648), (-1), []), .inl ((-2147483648), 2147483647, [])], ([], [], []), ([], []), [(.inl 3, 245, ([], [], []))])
set_option maxRecDepth 100000 in
theorem p2_s1759_e : ck_ok p2_O none [] [(193, [p2_s1758])] 192 [] 76 p2_s1759 = true := by decide +kernel
theorem p2_s1759_s {X : Int → Int} {LX : Nat} : ck_Ok p2_O X LX 192 p2_s1759 := ck_ok_s ⟨p2_nmu, ck_E1 (ck_S1 p2_s1758_s ck_S0) ck_E0⟩ ck_X0 ck_l0 p2_s1759_e
set_option maxRecDepth 100000 in
/-- GlacierMail.need -/
def p2_s1760 : ck_Sum := ((6, 1, 6), 245, [.inr (.inr (.inl 1)), .inl (6, 2147483647, []), .inl (0, 6, [])], ([], [], []), ([], []), [(.inl 3, 245, ([], [], []))])
set_option maxRecDepth 100000 in
theorem p2_s1760_e : ck_ok p2_O none [] [] 133 [] 82 p2_s1760 = true := by decide +kernel
theorem p2_s1760_s {X : Int → Int} {LX : Nat} : ck_Ok p2_O X LX 133 p2_s1760 := ck_ok_s ⟨p2_nmu, ck_E0⟩ ck_X0 ck_l0 p2_s1760_e
set_option maxRecDepth 100000 in
/-- GlacierMail.needTable -/
def p2_s1761 : ck_Sum := ((7, 1, 6), 245, [.inr (.inr (.inl 1)), .inl (6, 2147483647, [])], ([], [], []), ([], []), [(.inl 3, 245, ([], [], []))])
set_option maxRecDepth 100000 in
theorem p2_s1761_e : ck_ok p2_O none [] [(9, [p2_s1756]), (133, [p2_s1760])] 193 [] 84 p2_s1761 = true := by decide +kernel
theorem p2_s1761_s {X : Int → Int} {LX : Nat} : ck_Ok p2_O X LX 193 p2_s1761 := ck_ok_s ⟨p2_nmu, ck_E1 (ck_S1 p2_s1756_s ck_S0) (ck_E1 (ck_S1 p2_s1760_s ck_S0) ck_E0)⟩ ck_X0 ck_l0 p2_s1761_e
set_option maxRecDepth 100000 in
/-- GlacierMail.table -/
def p2_s1762 : ck_Sum := ((8, 1, 6), 245, [.inr (.inr (.inl 1)), .inl (6, 2147483647, []), .inl ((-2147483648), 2147483647, [])], ([], [], []), ([], []), [(.inl 3, 245, ([], [], []))])
set_option maxRecDepth 100000 in
theorem p2_s1762_e : ck_ok p2_O none [] [(193, [p2_s1761])] 192 [] 76 p2_s1762 = true := by decide +kernel
theorem p2_s1762_s {X : Int → Int} {LX : Nat} : ck_Ok p2_O X LX 192 p2_s1762 := ck_ok_s ⟨p2_nmu, ck_E1 (ck_S1 p2_s1761_s ck_S0) ck_E0⟩ ck_X0 ck_l0 p2_s1762_e
set_option maxRecDepth 100000 in
/-- GlacierMail.need -/
def p2_s1763 : ck_Sum := ((6, 1, 6), 245, [.inr (.inr (.inl 1)), .inl (0, 5, []), .inl (0, 6, [])], ([], [], []), ([], []), [(.inr none, 245, ([], [], [])), (.inl 3, 245, ([], [], []))])
set_option maxRecDepth 100000 in
theorem p2_s1763_e : ck_ok p2_O none [] [] 133 [] 82 p2_s1763 = true := by decide +kernel
theorem p2_s1763_s {X : Int → Int} {LX : Nat} : ck_Ok p2_O X LX 133 p2_s1763 := ck_ok_s ⟨p2_nmu, ck_E0⟩ ck_X0 ck_l0 p2_s1763_e
set_option maxRecDepth 100000 in
/-- GlacierMail.needTable -/
def p2_s1764 : ck_Sum := ((7, 1, 6), 245, [.inr (.inr (.inl 1)), .inl (0, 5, [])], ([], [], []), ([], []), [(.inl 3, 245, ([], [], [])), (.inr none, 245, ([], [], []))])
set_option maxRecDepth 100000 in
theorem p2_s1764_e : ck_ok p2_O none [] [(9, [p2_s1756]), (133, [p2_s1763])] 193 [] 86 p2_s1764 = true := by decide +kernel
theorem p2_s1764_s {X : Int → Int} {LX : Nat} : ck_Ok p2_O X LX 193 p2_s1764 := ck_ok_s ⟨p2_nmu, ck_E1 (ck_S1 p2_s1756_s ck_S0) (ck_E1 (ck_S1 p2_s1763_s ck_S0) ck_E0)⟩ ck_X0 ck_l0 p2_s1764_e
set_option maxRecDepth 100000 in
/-- GlacierMail.table -/
def p2_s1765 : ck_Sum := ((8, 2, 12), 245, [.inr (.inr (.inl 1)), .inl (0, 5, []), .inl ((-2147483648), (-1), [])], ([], [], []), ([], []), [(.inl 3, 245, ([], [], []))])
set_option maxRecDepth 100000 in
theorem p2_s1765_e : ck_ok p2_O none [] [(193, [p2_s1764]), (132, [p2_s293])] 192 [] 82 p2_s1765 = true := by decide +kernel
theorem p2_s1765_s {X : Int → Int} {LX : Nat} : ck_Ok p2_O X LX 192 p2_s1765 := ck_ok_s ⟨p2_nmu, ck_E1 (ck_S1 p2_s1764_s ck_S0) (ck_E1 (ck_S1 p2_s293_s ck_S0) ck_E0)⟩ ck_X0 ck_l0 p2_s1765_e
set_option maxRecDepth 100000 in
/-- GlacierMail.table -/
def p2_s1766 : ck_Sum := ((8, 2, 12), 245, [.inr (.inr (.inl 1)), .inl (0, 5, []), .inl (6, 2147483647, [])], ([], [], []), ([], []), [(.inl 3, 245, ([], [], []))])
set_option maxRecDepth 100000 in
theorem p2_s1766_e : ck_ok p2_O none [] [(193, [p2_s1764]), (132, [p2_s296])] 192 [] 82 p2_s1766 = true := by decide +kernel
theorem p2_s1766_s {X : Int → Int} {LX : Nat} : ck_Ok p2_O X LX 192 p2_s1766 := ck_ok_s ⟨p2_nmu, ck_E1 (ck_S1 p2_s1764_s ck_S0) (ck_E1 (ck_S1 p2_s296_s ck_S0) ck_E0)⟩ ck_X0 ck_l0 p2_s1766_e
set_option maxRecDepth 100000 in
/-- GlacierMail$Rows.get -/
def p2_s1767 : ck_Sum := ((0, 0, 0), 245, [.inr (.inr (.inl 12)), .inl ((-2147483648), 2147483647, []), .inl ((-2147483648), 2147483647, [])], ([], [], []), ([], []), [(.inr (some (.inl (ck_one (-1)))), 245, ([], [], [])), (.inr (some (.inl (0, 20, []))), 245, ([], [], [(12, 3, 3, (1, 6, []))]))])
set_option maxRecDepth 100000 in
theorem p2_s1767_e : ck_ok p2_O none [] [] 10 [] 114 p2_s1767 = true := by decide +kernel
theorem p2_s1767_s {X : Int → Int} {LX : Nat} : ck_Ok p2_O X LX 10 p2_s1767 := ck_ok_s ⟨p2_nmu, ck_E0⟩ ck_X0 ck_l0 p2_s1767_e
set_option maxRecDepth 100000 in
/-- GlacierMail.table -/
def p2_s1768 : ck_Sum := ((8, 2, 12), 245, [.inr (.inr (.inl 1)), .inl (0, 5, []), .inl (0, 5, [])], ([], [], []), ([], []), [(.inl 3, 245, ([], [], [])), (.inr (some (.inl (ck_one (-1)))), 245, ([], [], [])), (.inr (some (.inl (0, 20, []))), 245, ([], [], [(12, 3, 3, (1, 6, []))]))])
set_option maxRecDepth 100000 in
theorem p2_s1768_e : ck_ok p2_O none [] [(193, [p2_s1764]), (132, [p2_s299]), (10, [p2_s1767])] 192 [] 96 p2_s1768 = true := by decide +kernel
theorem p2_s1768_s {X : Int → Int} {LX : Nat} : ck_Ok p2_O X LX 192 p2_s1768 := ck_ok_s ⟨p2_nmu, ck_E1 (ck_S1 p2_s1764_s ck_S0) (ck_E1 (ck_S1 p2_s299_s ck_S0) (ck_E1 (ck_S1 p2_s1767_s ck_S0) ck_E0))⟩ ck_X0 ck_l0 p2_s1768_e
set_option maxRecDepth 100000 in
/-- GlacierMailModel.noTable -/
def p2_s1769 : ck_Sum := ((1, 0, 0), 245, [.inr (.inr (.inl 226)), .inl ((-2147483648), (-1), [])], ([], [], [(227, 6, 6, (0, 6, [(24, 0)]))]), ([], []), [(.inr (some (.inl (ck_one 1))), 245, ([], [], []))])
set_option maxRecDepth 100000 in
theorem p2_s1769_e : ck_ok p2_O none [] [(286, [p2_s310])] 342 [] 96 p2_s1769 = true := by decide +kernel
theorem p2_s1769_s {X : Int → Int} {LX : Nat} : ck_Ok p2_O X LX 342 p2_s1769 := ck_ok_s ⟨p2_nmu, ck_E1 (ck_S1 p2_s310_s ck_S0) ck_E0⟩ ck_X0 ck_l0 p2_s1769_e
set_option maxRecDepth 100000 in
/-- GlacierMailModel.table -/
def p2_s1770 : ck_Sum := ((2, 0, 0), 245, [.inr (.inr (.inl 226)), .inl ((-2147483648), (-1), []), .inl ((-2147483648), 2147483647, [])], ([], [], [(227, 6, 6, (0, 6, [(24, 0)]))]), ([(226, 0, 0)], []), [(.inr (some (.inl (ck_one 0))), 245, ([], [], [(226, 0, 0, ck_one 1)]))])
set_option maxRecDepth 100000 in
theorem p2_s1770_e : ck_ok p2_O none [] [(342, [p2_s1769]), (282, [p2_s268])] 341 [] 102 p2_s1770 = true := by decide +kernel
theorem p2_s1770_s {X : Int → Int} {LX : Nat} : ck_Ok p2_O X LX 341 p2_s1770 := ck_ok_s ⟨p2_nmu, ck_E1 (ck_S1 p2_s1769_s ck_S0) (ck_E1 (ck_S1 p2_s268_s ck_S0) ck_E0)⟩ ck_X0 ck_l0 p2_s1770_e
set_option maxRecDepth 100000 in
/-- GlacierMailModel.noTable -/
def p2_s1771 : ck_Sum := ((1, 0, 0), 245, [.inr (.inr (.inl 226)), .inl (6, 2147483647, [])], ([], [], [(227, 6, 6, (0, 6, [(24, 0)]))]), ([], []), [(.inr (some (.inl (ck_one 1))), 245, ([], [], []))])
set_option maxRecDepth 100000 in
theorem p2_s1771_e : ck_ok p2_O none [] [(286, [p2_s313])] 342 [] 96 p2_s1771 = true := by decide +kernel
theorem p2_s1771_s {X : Int → Int} {LX : Nat} : ck_Ok p2_O X LX 342 p2_s1771 := ck_ok_s ⟨p2_nmu, ck_E1 (ck_S1 p2_s313_s ck_S0) ck_E0⟩ ck_X0 ck_l0 p2_s1771_e
set_option maxRecDepth 100000 in
/-- GlacierMailModel.table -/
def p2_s1772 : ck_Sum := ((2, 0, 0), 245, [.inr (.inr (.inl 226)), .inl (6, 2147483647, []), .inl ((-2147483648), 2147483647, [])], ([], [], [(227, 6, 6, (0, 6, [(24, 0)]))]), ([(226, 0, 0)], []), [(.inr (some (.inl (ck_one 0))), 245, ([], [], [(226, 0, 0, ck_one 1)]))])
set_option maxRecDepth 100000 in
theorem p2_s1772_e : ck_ok p2_O none [] [(342, [p2_s1771]), (282, [p2_s268])] 341 [] 102 p2_s1772 = true := by decide +kernel
theorem p2_s1772_s {X : Int → Int} {LX : Nat} : ck_Ok p2_O X LX 341 p2_s1772 := ck_ok_s ⟨p2_nmu, ck_E1 (ck_S1 p2_s1771_s ck_S0) (ck_E1 (ck_S1 p2_s268_s ck_S0) ck_E0)⟩ ck_X0 ck_l0 p2_s1772_e
set_option maxRecDepth 100000 in
/-- GlacierMailModel.noTable -/
def p2_s1773 : ck_Sum := ((1, 0, 0), 245, [.inr (.inr (.inl 226)), .inl (0, 5, [])], ([], [], [(227, 6, 6, (0, 6, [(24, 0)]))]), ([], []), [(.inr (some (.inl (ck_one 1))), 245, ([], [], [])), (.inr (some (.inl (ck_one 0))), 245, ([], [], []))])
set_option maxRecDepth 100000 in
theorem p2_s1773_e : ck_ok p2_O none [] [(286, [p2_s316])] 342 [] 96 p2_s1773 = true := by decide +kernel
theorem p2_s1773_s {X : Int → Int} {LX : Nat} : ck_Ok p2_O X LX 342 p2_s1773 := ck_ok_s ⟨p2_nmu, ck_E1 (ck_S1 p2_s316_s ck_S0) ck_E0⟩ ck_X0 ck_l0 p2_s1773_e
set_option maxRecDepth 100000 in
/-- GlacierMailModel.table -/
def p2_s1774 : ck_Sum := ((2, 0, 0), 245, [.inr (.inr (.inl 226)), .inl (0, 5, []), .inl ((-2147483648), (-1), [])], ([], [], [(227, 6, 6, (0, 6, [(24, 0)]))]), ([(226, 0, 0)], []), [(.inr (some (.inl (ck_one 0))), 245, ([], [], [(226, 0, 0, ck_one 1)]))])
set_option maxRecDepth 100000 in
theorem p2_s1774_e : ck_ok p2_O none [] [(342, [p2_s1773]), (282, [p2_s268]), (288, [p2_s311])] 341 [] 110 p2_s1774 = true := by decide +kernel
theorem p2_s1774_s {X : Int → Int} {LX : Nat} : ck_Ok p2_O X LX 341 p2_s1774 := ck_ok_s ⟨p2_nmu, ck_E1 (ck_S1 p2_s1773_s ck_S0) (ck_E1 (ck_S1 p2_s268_s ck_S0) (ck_E1 (ck_S1 p2_s311_s ck_S0) ck_E0))⟩ ck_X0 ck_l0 p2_s1774_e
set_option maxRecDepth 100000 in
/-- GlacierMailModel.table -/
def p2_s1775 : ck_Sum := ((2, 0, 0), 245, [.inr (.inr (.inl 226)), .inl (0, 5, []), .inl (6, 2147483647, [])], ([], [], [(227, 6, 6, (0, 6, [(24, 0)]))]), ([(226, 0, 0)], []), [(.inr (some (.inl (ck_one 0))), 245, ([], [], [(226, 0, 0, ck_one 1)]))])
set_option maxRecDepth 100000 in
theorem p2_s1775_e : ck_ok p2_O none [] [(342, [p2_s1773]), (282, [p2_s268]), (288, [p2_s314])] 341 [] 110 p2_s1775 = true := by decide +kernel
theorem p2_s1775_s {X : Int → Int} {LX : Nat} : ck_Ok p2_O X LX 341 p2_s1775 := ck_ok_s ⟨p2_nmu, ck_E1 (ck_S1 p2_s1773_s ck_S0) (ck_E1 (ck_S1 p2_s268_s ck_S0) (ck_E1 (ck_S1 p2_s314_s ck_S0) ck_E0))⟩ ck_X0 ck_l0 p2_s1775_e
set_option maxRecDepth 100000 in
/-- GlacierMailModel.ofTable -/
def p2_s1776 : ck_Sum := ((0, 0, 0), 245, [.inr (.inr (.inl 226)), .inl (0, 5, []), .inl (0, 5, [])], ([], [], []), ([], []), [(.inr (some (.inl (0, 20, []))), 245, ([], [], []))])
set_option maxRecDepth 100000 in
theorem p2_s1776_e : ck_ok p2_O none [] [] 343 [] 92 p2_s1776 = true := by decide +kernel
theorem p2_s1776_s {X : Int → Int} {LX : Nat} : ck_Ok p2_O X LX 343 p2_s1776 := ck_ok_s ⟨p2_nmu, ck_E0⟩ ck_X0 ck_l0 p2_s1776_e
set_option maxRecDepth 100000 in
/-- GlacierMailModel.table -/
def p2_s1777 : ck_Sum := ((2, 0, 0), 245, [.inr (.inr (.inl 226)), .inl (0, 5, []), .inl (0, 5, [])], ([], [], [(227, 6, 6, (0, 6, [(24, 0)]))]), ([(226, 0, 0)], []), [(.inr (some (.inl (0, 20, []))), 245, ([], [], [(226, 0, 0, (0, 1, []))]))])
set_option maxRecDepth 100000 in
theorem p2_s1777_e : ck_ok p2_O none [] [(342, [p2_s1773]), (282, [p2_s268, p2_s269]), (288, [p2_s317]), (343, [p2_s1776])] 341 [] 112 p2_s1777 = true := by decide +kernel
theorem p2_s1777_s {X : Int → Int} {LX : Nat} : ck_Ok p2_O X LX 341 p2_s1777 := ck_ok_s ⟨p2_nmu, ck_E1 (ck_S1 p2_s1773_s ck_S0) (ck_E1 (ck_S1 p2_s268_s (ck_S1 p2_s269_s ck_S0)) (ck_E1 (ck_S1 p2_s317_s ck_S0) (ck_E1 (ck_S1 p2_s1776_s ck_S0) ck_E0)))⟩ ck_X0 ck_l0 p2_s1777_e
set_option maxRecDepth 100000 in
/-- GlacierMail.apart -/
def p2_s1778 : ck_Sum := ((8, 1, 6), 245, [.inr (.inr (.inl 1)), .inl ((-2147483648), (-1), []), .inl ((-2147483648), 2147483647, []), .inl ((-2147483648), 2147483647, [])], ([], [], []), ([], []), [(.inl 3, 245, ([], [], []))])
set_option maxRecDepth 100000 in
theorem p2_s1778_e : ck_ok p2_O none [] [(193, [p2_s1758])] 195 [] 76 p2_s1778 = true := by decide +kernel
theorem p2_s1778_s {X : Int → Int} {LX : Nat} : ck_Ok p2_O X LX 195 p2_s1778 := ck_ok_s ⟨p2_nmu, ck_E1 (ck_S1 p2_s1758_s ck_S0) ck_E0⟩ ck_X0 ck_l0 p2_s1778_e
set_option maxRecDepth 100000 in
/-- GlacierMail.apart -/
def p2_s1779 : ck_Sum := ((8, 1, 6), 245, [.inr (.inr (.inl 1)), .inl (6, 2147483647, []), .inl ((-2147483648), 2147483647, []), .inl ((-2147483648), 2147483647, [])], ([], [], []), ([], []), [(.inl 3, 245, ([], [], []))])
set_option maxRecDepth 100000 in
theorem p2_s1779_e : ck_ok p2_O none [] [(193, [p2_s1761])] 195 [] 76 p2_s1779 = true := by decide +kernel
theorem p2_s1779_s {X : Int → Int} {LX : Nat} : ck_Ok p2_O X LX 195 p2_s1779 := ck_ok_s ⟨p2_nmu, ck_E1 (ck_S1 p2_s1761_s ck_S0) ck_E0⟩ ck_X0 ck_l0 p2_s1779_e
set_option maxRecDepth 100000 in
/-- GlacierMail.apart -/
def p2_s1780 : ck_Sum := ((8, 2, 12), 245, [.inr (.inr (.inl 1)), .inl (0, 5, []), .inl ((-2147483648), (-1), []), .inl ((-2147483648), 2147483647, [])], ([], [], []), ([], []), [(.inl 3, 245, ([], [], []))])
set_option maxRecDepth 100000 in
theorem p2_s1780_e : ck_ok p2_O none [] [(193, [p2_s1764, p2_s1758])] 195 [] 82 p2_s1780 = true := by decide +kernel
theorem p2_s1780_s {X : Int → Int} {LX : Nat} : ck_Ok p2_O X LX 195 p2_s1780 := ck_ok_s ⟨p2_nmu, ck_E1 (ck_S1 p2_s1764_s (ck_S1 p2_s1758_s ck_S0)) ck_E0⟩ ck_X0 ck_l0 p2_s1780_e
set_option maxRecDepth 100000 in
/-- GlacierMail.apart -/
def p2_s1781 : ck_Sum := ((8, 2, 12), 245, [.inr (.inr (.inl 1)), .inl (0, 5, []), .inl (6, 2147483647, []), .inl ((-2147483648), 2147483647, [])], ([], [], []), ([], []), [(.inl 3, 245, ([], [], []))])
set_option maxRecDepth 100000 in
theorem p2_s1781_e : ck_ok p2_O none [] [(193, [p2_s1764, p2_s1761])] 195 [] 82 p2_s1781 = true := by decide +kernel
theorem p2_s1781_s {X : Int → Int} {LX : Nat} : ck_Ok p2_O X LX 195 p2_s1781 := ck_ok_s ⟨p2_nmu, ck_E1 (ck_S1 p2_s1764_s (ck_S1 p2_s1761_s ck_S0)) ck_E0⟩ ck_X0 ck_l0 p2_s1781_e
set_option maxRecDepth 100000 in
/-- GlacierMail.toldApart -/
def p2_s1782 : ck_Sum := ((1, 0, 0), 245, [.inr (.inr (.inl 1)), .inl (0, 5, []), .inl (0, 5, []), .inl ((-2147483648), 2147483647, [])], ([], [], []), ([], []), [(.inr (some (.inl (ck_one 0))), 245, ([], [], [])), (.inr (some (.inl (ck_one 1))), 245, ([], [], [(12, 3, 3, (1, 6, []))]))])
set_option maxRecDepth 100000 in
theorem p2_s1782_e : ck_ok p2_O none [] [(10, [p2_s1767])] 51 [(3, [some (.inr (.inr (.inl 1))), some (.inl (0, 5, [])), some (.inl (0, 5, [])), some (.inl ((-2147483648), 2147483647, [])), some (.inl (0, 6, []))], ([], [], []), 100, .inl 4, true)] 202 p2_s1782 = true := by decide +kernel
theorem p2_s1782_s {X : Int → Int} {LX : Nat} : ck_Ok p2_O X LX 51 p2_s1782 := ck_ok_s ⟨p2_nmu, ck_E1 (ck_S1 p2_s1767_s ck_S0) ck_E0⟩ ck_X0 ck_l0 p2_s1782_e
set_option maxRecDepth 100000 in
/-- GlacierMail.apart -/
def p2_s1783 : ck_Sum := ((8, 2, 12), 245, [.inr (.inr (.inl 1)), .inl (0, 5, []), .inl (0, 5, []), .inl ((-2147483648), 2147483647, [])], ([], [], []), ([], []), [(.inl 3, 245, ([], [], [])), (.inr (some (.inl (ck_one 0))), 245, ([], [], [])), (.inr (some (.inl (ck_one 1))), 245, ([], [], [(12, 3, 3, (1, 6, []))]))])
set_option maxRecDepth 100000 in
theorem p2_s1783_e : ck_ok p2_O none [] [(193, [p2_s1764]), (51, [p2_s1782])] 195 [] 94 p2_s1783 = true := by decide +kernel
theorem p2_s1783_s {X : Int → Int} {LX : Nat} : ck_Ok p2_O X LX 195 p2_s1783 := ck_ok_s ⟨p2_nmu, ck_E1 (ck_S1 p2_s1764_s ck_S0) (ck_E1 (ck_S1 p2_s1782_s ck_S0) ck_E0)⟩ ck_X0 ck_l0 p2_s1783_e
set_option maxRecDepth 100000 in
/-- GlacierMailModel.apart -/
def p2_s1784 : ck_Sum := ((2, 0, 0), 245, [.inr (.inr (.inl 226)), .inl ((-2147483648), (-1), []), .inl ((-2147483648), 2147483647, []), .inl ((-2147483648), 2147483647, [])], ([], [], [(227, 6, 6, (0, 6, [(24, 0)]))]), ([(226, 0, 0)], []), [(.inr (some (.inl (ck_one 0))), 245, ([], [], [(226, 0, 0, ck_one 1)]))])
set_option maxRecDepth 100000 in
theorem p2_s1784_e : ck_ok p2_O none [] [(342, [p2_s1769]), (282, [p2_s268])] 344 [] 100 p2_s1784 = true := by decide +kernel
theorem p2_s1784_s {X : Int → Int} {LX : Nat} : ck_Ok p2_O X LX 344 p2_s1784 := ck_ok_s ⟨p2_nmu, ck_E1 (ck_S1 p2_s1769_s ck_S0) (ck_E1 (ck_S1 p2_s268_s ck_S0) ck_E0)⟩ ck_X0 ck_l0 p2_s1784_e
set_option maxRecDepth 100000 in
/-- GlacierMailModel.apart -/
def p2_s1785 : ck_Sum := ((2, 0, 0), 245, [.inr (.inr (.inl 226)), .inl (6, 2147483647, []), .inl ((-2147483648), 2147483647, []), .inl ((-2147483648), 2147483647, [])], ([], [], [(227, 6, 6, (0, 6, [(24, 0)]))]), ([(226, 0, 0)], []), [(.inr (some (.inl (ck_one 0))), 245, ([], [], [(226, 0, 0, ck_one 1)]))])
set_option maxRecDepth 100000 in
theorem p2_s1785_e : ck_ok p2_O none [] [(342, [p2_s1771]), (282, [p2_s268])] 344 [] 100 p2_s1785 = true := by decide +kernel
theorem p2_s1785_s {X : Int → Int} {LX : Nat} : ck_Ok p2_O X LX 344 p2_s1785 := ck_ok_s ⟨p2_nmu, ck_E1 (ck_S1 p2_s1771_s ck_S0) (ck_E1 (ck_S1 p2_s268_s ck_S0) ck_E0)⟩ ck_X0 ck_l0 p2_s1785_e
set_option maxRecDepth 100000 in
/-- GlacierMailModel.apart -/
def p2_s1786 : ck_Sum := ((2, 0, 0), 245, [.inr (.inr (.inl 226)), .inl (0, 5, []), .inl ((-2147483648), (-1), []), .inl ((-2147483648), 2147483647, [])], ([], [], [(227, 6, 6, (0, 6, [(24, 0)]))]), ([(226, 0, 0)], []), [(.inr (some (.inl (ck_one 0))), 245, ([], [], [(226, 0, 0, ck_one 1)]))])
set_option maxRecDepth 100000 in
theorem p2_s1786_e : ck_ok p2_O none [] [(342, [p2_s1773, p2_s1769]), (282, [p2_s268])] 344 [] 108 p2_s1786 = true := by decide +kernel
theorem p2_s1786_s {X : Int → Int} {LX : Nat} : ck_Ok p2_O X LX 344 p2_s1786 := ck_ok_s ⟨p2_nmu, ck_E1 (ck_S1 p2_s1773_s (ck_S1 p2_s1769_s ck_S0)) (ck_E1 (ck_S1 p2_s268_s ck_S0) ck_E0)⟩ ck_X0 ck_l0 p2_s1786_e
set_option maxRecDepth 100000 in
/-- GlacierMailModel.apart -/
def p2_s1787 : ck_Sum := ((2, 0, 0), 245, [.inr (.inr (.inl 226)), .inl (0, 5, []), .inl (6, 2147483647, []), .inl ((-2147483648), 2147483647, [])], ([], [], [(227, 6, 6, (0, 6, [(24, 0)]))]), ([(226, 0, 0)], []), [(.inr (some (.inl (ck_one 0))), 245, ([], [], [(226, 0, 0, ck_one 1)]))])
set_option maxRecDepth 100000 in
theorem p2_s1787_e : ck_ok p2_O none [] [(342, [p2_s1773, p2_s1771]), (282, [p2_s268])] 344 [] 108 p2_s1787 = true := by decide +kernel
theorem p2_s1787_s {X : Int → Int} {LX : Nat} : ck_Ok p2_O X LX 344 p2_s1787 := ck_ok_s ⟨p2_nmu, ck_E1 (ck_S1 p2_s1773_s (ck_S1 p2_s1771_s ck_S0)) (ck_E1 (ck_S1 p2_s268_s ck_S0) ck_E0)⟩ ck_X0 ck_l0 p2_s1787_e
