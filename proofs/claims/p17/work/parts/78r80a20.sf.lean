/-! 78r80a20.sf -/
section
/-! EVERY CALL ENDS, whatever was done before (laid by wip/am/p2k.py). -/
set_option maxRecDepth 100000 in
/-- GlacierMailModel.outsIn -/
def p2_s1578 : ck_Sum := ((2, 0, 0), 245, [.inr (.inr (.inl 226)), .inl (0, 327, []), .inl (ck_one 0), .inl (ck_one 0)], ([], [], [(227, 4, 4, (0, 24, [(22, 0)]))]), ([], []), [(.inr (some (.inl ((-2147483648), 2147483647, []))), 245, ([], [], []))])
set_option maxRecDepth 100000 in
theorem p2_s1578_e : ck_ok p2_O none [] [(254, [p2_s176]), (301, [p2_s375]), (303, [p2_s374])] 333 [(6, [some (.inr (.inr (.inl 226))), some (.inl (0, 327, [])), some (.inl (ck_one 0)), some (.inl (ck_one 0)), some (.inl ((-2147483648), 2147483647, [])), some (.inl (0, 24, []))], ([], [], [(227, 4, 4, (0, 24, [(22, 0)]))]), 100, .inl 5, true)] 218 p2_s1578 = true := by decide +kernel
theorem p2_s1578_s {X : Int → Int} {LX : Nat} : ck_Ok p2_O X LX 333 p2_s1578 := ck_ok_s ⟨p2_nmu, ck_E1 (ck_S1 p2_s176_s ck_S0) (ck_E1 (ck_S1 p2_s375_s ck_S0) (ck_E1 (ck_S1 p2_s374_s ck_S0) ck_E0))⟩ ck_X0 ck_l0 p2_s1578_e
set_option maxRecDepth 100000 in
/-- GlacierMailModel.outsIn -/
def p2_s1579 : ck_Sum := ((2, 0, 0), 245, [.inr (.inr (.inl 226)), .inl (0, 327, []), .inl (1, 5, []), .inl (ck_one 0)], ([], [], [(227, 4, 4, (0, 24, [(22, 0)]))]), ([], []), [(.inr (some (.inl ((-2147483648), 2147483647, []))), 245, ([], [], []))])
set_option maxRecDepth 100000 in
theorem p2_s1579_e : ck_ok p2_O none [] [(254, [p2_s176]), (301, [p2_s375]), (303, [p2_s374])] 333 [(6, [some (.inr (.inr (.inl 226))), some (.inl (0, 327, [])), some (.inl (1, 5, [])), some (.inl (ck_one 0)), some (.inl ((-2147483648), 2147483647, [])), some (.inl (0, 24, []))], ([], [], [(227, 4, 4, (0, 24, [(22, 0)]))]), 100, .inl 5, true)] 218 p2_s1579 = true := by decide +kernel
theorem p2_s1579_s {X : Int → Int} {LX : Nat} : ck_Ok p2_O X LX 333 p2_s1579 := ck_ok_s ⟨p2_nmu, ck_E1 (ck_S1 p2_s176_s ck_S0) (ck_E1 (ck_S1 p2_s375_s ck_S0) (ck_E1 (ck_S1 p2_s374_s ck_S0) ck_E0))⟩ ck_X0 ck_l0 p2_s1579_e
set_option maxRecDepth 100000 in
/-- GlacierMailModel.outsIn -/
def p2_s1580 : ck_Sum := ((2, 0, 0), 245, [.inr (.inr (.inl 226)), .inl (0, 327, []), .inl (1, 4, []), .inl (ck_one 0)], ([], [], [(227, 4, 4, (0, 24, [(22, 0)]))]), ([], []), [(.inr (some (.inl ((-2147483648), 2147483647, []))), 245, ([], [], []))])
set_option maxRecDepth 100000 in
theorem p2_s1580_e : ck_ok p2_O none [] [(254, [p2_s176]), (301, [p2_s375]), (303, [p2_s374])] 333 [(6, [some (.inr (.inr (.inl 226))), some (.inl (0, 327, [])), some (.inl (1, 4, [])), some (.inl (ck_one 0)), some (.inl ((-2147483648), 2147483647, [])), some (.inl (0, 24, []))], ([], [], [(227, 4, 4, (0, 24, [(22, 0)]))]), 100, .inl 5, true)] 218 p2_s1580 = true := by decide +kernel
theorem p2_s1580_s {X : Int → Int} {LX : Nat} : ck_Ok p2_O X LX 333 p2_s1580 := ck_ok_s ⟨p2_nmu, ck_E1 (ck_S1 p2_s176_s ck_S0) (ck_E1 (ck_S1 p2_s375_s ck_S0) (ck_E1 (ck_S1 p2_s374_s ck_S0) ck_E0))⟩ ck_X0 ck_l0 p2_s1580_e
set_option maxRecDepth 100000 in
/-- GlacierMailModel.steals -/
def p2_s1581 : ck_Sum := ((9, 0, 0), 245, [.inr (.inr (.inl 226)), .inl (0, 30, [])], ([], [], zl84), ([(226, 17, 23), (226, 26, 26), (226, 29, 30), (233, 0, 399), (235, 0, 29699), (236, 0, 299), (237, 0, 299), (238, 0, 23), (243, 0, 5), (244, 0, 5)], []), [(.inr none, 245, ([], [], []))])
set_option maxRecDepth 100000 in
theorem p2_s1581_e : ck_ok p2_O none [] [(332, [p2_s1373]), (266, [p2_s190]), (261, [p2_s166]), (333, [p2_s1575, p2_s1576, p2_s1577, p2_s1578, p2_s1579, p2_s1580])] 358 [(6, [some (.inr (.inr (.inl 226))), some (.inl (0, 30, [])), some (.inl (0, 6, [])), none, none], ([], [], [(227, 2, 2, (0, 8, [(20, 0)])), (227, 4, 4, (0, 24, [(22, 0)])), (227, 5, 5, (0, 8, [(23, 0)])), (227, 9, 9, (0, 299, [(11, 0)]))]), 100, .inl 2, true), (34, [some (.inr (.inr (.inl 226))), some (.inl (0, 30, [])), some (.inl ((-1), 328, [])), none, none], ([], [], [(227, 2, 2, (0, 8, [(20, 0)])), (227, 4, 4, (0, 24, [(22, 0)])), (227, 5, 5, (0, 8, [(23, 0)])), (227, 9, 9, (0, 299, [(11, 0)]))]), 300, .inl 2, false), (44, [some (.inr (.inr (.inl 226))), some (.inl (0, 30, [])), some (.inl (0, 328, [(300, 0)])), some (.inl (0, 6, [])), none], ([], [], [(227, 2, 2, (0, 8, [(20, 0)])), (227, 4, 4, (0, 24, [(22, 0)])), (227, 5, 5, (0, 8, [(23, 0)])), (227, 9, 9, (0, 299, [(11, 0)]))]), 500, .inl 3, true), (152, [some (.inr (.inr (.inl 226))), some (.inl (0, 30, [])), some (.inl (0, 328, [(300, 0)])), some (.inl (0, 6, [])), none], ([], [], [(227, 2, 2, (0, 8, [(20, 0)])), (227, 4, 4, (0, 24, [(22, 0)])), (227, 5, 5, (0, 8, [(23, 0)])), (227, 9, 9, (0, 299, [(11, 0)]))]), 700, .inl 3, true)] 800 p2_s1581 = true := by decide +kernel
theorem p2_s1581_s {X : Int → Int} {LX : Nat} : ck_Ok p2_O X LX 358 p2_s1581 := ck_ok_s ⟨p2_nmu, ck_E1 (ck_S1 p2_s1373_s ck_S0) (ck_E1 (ck_S1 p2_s190_s ck_S0) (ck_E1 (ck_S1 p2_s166_s ck_S0) (ck_E1 (ck_S1 p2_s1575_s (ck_S1 p2_s1576_s (ck_S1 p2_s1577_s (ck_S1 p2_s1578_s (ck_S1 p2_s1579_s (ck_S1 p2_s1580_s ck_S0)))))) ck_E0)))⟩ ck_X0 ck_l0 p2_s1581_e
set_option maxRecDepth 100000 in
/-- GlacierMailModel.thieves -/
def p2_s1582 : ck_Sum := ((10, 0, 0), 245, [.inr (.inr (.inl 226)), .inl (0, 30, []), .inl (0, 1, [])], ([], [], zl84), ([(226, 0, 0), (226, 17, 23), (226, 26, 26), (226, 29, 30), (233, 0, 399), (235, 0, 29699), (236, 0, 299), (237, 0, 299), (238, 0, 23), (243, 0, 5), (244, 0, 5)], []), [(.inr (some (.inl (0, 5, []))), 245, ([], [], [(226, 0, 0, (0, 1, []))])), (.inr (some (.inl ((-2147483648), 2147483647, []))), 245, ([], [], [(226, 0, 0, ck_one 0)]))])
set_option maxRecDepth 100000 in
theorem p2_s1582_e : ck_ok p2_O none [] [(286, [p2_s1574]), (282, [p2_s241, p2_s242]), (358, [p2_s1581]), (261, [p2_s166])] 357 [(40, [some (.inr (.inr (.inl 226))), some (.inl (0, 30, [])), some (.inl (0, 1, [])), some (.inl (0, 5, [])), some (.inl (1, 6, []))], ([], [], [(226, 0, 0, ck_one 0), (227, 2, 2, (0, 8, [(20, 0)])), (227, 4, 4, (0, 24, [(22, 0)])), (227, 5, 5, (0, 8, [(23, 0)])), (227, 9, 9, (0, 299, [(11, 0)]))]), 100, .inl 4, true)] 174 p2_s1582 = true := by decide +kernel
theorem p2_s1582_s {X : Int → Int} {LX : Nat} : ck_Ok p2_O X LX 357 p2_s1582 := ck_ok_s ⟨p2_nmu, ck_E1 (ck_S1 p2_s1574_s ck_S0) (ck_E1 (ck_S1 p2_s241_s (ck_S1 p2_s242_s ck_S0)) (ck_E1 (ck_S1 p2_s1581_s ck_S0) (ck_E1 (ck_S1 p2_s166_s ck_S0) ck_E0)))⟩ ck_X0 ck_l0 p2_s1582_e
set_option maxRecDepth 100000 in
/-- GlacierMail.watchman -/
def p2_s1583 : ck_Sum := ((7, 1, 6), 245, [.inr (.inr (.inl 1)), .inl ((-2147483648), (-1), []), .inl (0, 1, [])], ([], [], []), ([], []), [(.inl 0, 245, ([], [], []))])
set_option maxRecDepth 100000 in
theorem p2_s1583_e : ck_ok p2_O none [] [(214, [p2_s1554])] 218 [] 76 p2_s1583 = true := by decide +kernel
theorem p2_s1583_s {X : Int → Int} {LX : Nat} : ck_Ok p2_O X LX 218 p2_s1583 := ck_ok_s ⟨p2_nmu, ck_E1 (ck_S1 p2_s1554_s ck_S0) ck_E0⟩ ck_X0 ck_l0 p2_s1583_e
set_option maxRecDepth 100000 in
/-- GlacierMail.watchman -/
def p2_s1584 : ck_Sum := ((7, 1, 6), 245, [.inr (.inr (.inl 1)), .inl (31, 2147483647, []), .inl (0, 1, [])], ([], [], []), ([], []), [(.inl 0, 245, ([], [], []))])
set_option maxRecDepth 100000 in
theorem p2_s1584_e : ck_ok p2_O none [] [(214, [p2_s1556])] 218 [] 76 p2_s1584 = true := by decide +kernel
theorem p2_s1584_s {X : Int → Int} {LX : Nat} : ck_Ok p2_O X LX 218 p2_s1584 := ck_ok_s ⟨p2_nmu, ck_E1 (ck_S1 p2_s1556_s ck_S0) ck_E0⟩ ck_X0 ck_l0 p2_s1584_e
set_option maxRecDepth 100000 in
/-- GlacierMail.mostBeside -/
def p2_s1585 : ck_Sum := ((1, 0, 0), 245, [.inr (.inr (.inl 1)), .inl (0, 5, []), .inl (0, 30, [])], ([], [], []), ([], []), [(.inr (some (.inl (0, 2147483647, []))), 245, ([], [], []))])
set_option maxRecDepth 100000 in
theorem p2_s1585_e : ck_ok p2_O none [] [(10, [p2_s1561])] 219 [(5, [some (.inr (.inr (.inl 1))), some (.inl (0, 5, [])), some (.inl (0, 30, [])), some (.inl (0, 2147483647, [])), some (.inl (0, 6, [])), none, none], ([], [], []), 100, .inl 4, true), (23, [some (.inr (.inr (.inl 1))), some (.inl (0, 5, [])), some (.inl (0, 30, [])), some (.inl (0, 2147483647, [])), some (.inl (0, 5, [(100, 0)])), some (.inl ((-2147483648), 2147483647, [])), some (.inl (0, 30, []))], ([], [], []), 300, .inl 6, true)] 194 p2_s1585 = true := by decide +kernel
theorem p2_s1585_s {X : Int → Int} {LX : Nat} : ck_Ok p2_O X LX 219 p2_s1585 := ck_ok_s ⟨p2_nmu, ck_E1 (ck_S1 p2_s1561_s ck_S0) ck_E0⟩ ck_X0 ck_l0 p2_s1585_e
set_option maxRecDepth 100000 in
/-- GlacierMail.mostBeside -/
def p2_s1586 : ck_Sum := ((1, 0, 0), 245, [.inr (.inr (.inl 1)), .inl (1, 5, []), .inl (0, 30, [])], ([], [], []), ([], []), [(.inr (some (.inl (0, 2147483647, []))), 245, ([], [], []))])
set_option maxRecDepth 100000 in
theorem p2_s1586_e : ck_ok p2_O none [] [(10, [p2_s1561])] 219 [(5, [some (.inr (.inr (.inl 1))), some (.inl (1, 5, [])), some (.inl (0, 30, [])), some (.inl (0, 2147483647, [])), some (.inl (0, 6, [])), none, none], ([], [], []), 100, .inl 4, true), (23, [some (.inr (.inr (.inl 1))), some (.inl (1, 5, [])), some (.inl (0, 30, [])), some (.inl (0, 2147483647, [])), some (.inl (0, 5, [(100, 0)])), some (.inl ((-2147483648), 2147483647, [])), some (.inl (0, 30, []))], ([], [], []), 300, .inl 6, true)] 194 p2_s1586 = true := by decide +kernel
theorem p2_s1586_s {X : Int → Int} {LX : Nat} : ck_Ok p2_O X LX 219 p2_s1586 := ck_ok_s ⟨p2_nmu, ck_E1 (ck_S1 p2_s1561_s ck_S0) ck_E0⟩ ck_X0 ck_l0 p2_s1586_e
set_option maxRecDepth 100000 in
/-- GlacierMail.watchman -/
def p2_s1587 : ck_Sum := ((7, 1, 6), 245, [.inr (.inr (.inl 1)), .inl (0, 30, []), .inl (0, 1, [])], ([], [(3, 8, 0)], [(3, 6, 6, (0, 299, [(10, 0)]))]), ([(1, 15, 15), (206, 2, 8), (220, 3, 3), (221, 0, 47), (222, 3, 3), (223, 0, 179)], []), [(.inl 0, 245, ([], [], [])), (.inr (some (.inl (0, 2147483647, []))), 245, ([], [], [(1, 15, 15, ck_one 1)]))])
set_option maxRecDepth 100000 in
theorem p2_s1587_e : ck_ok p2_O none [] [(214, [p2_s1558]), (24, [p2_s349]), (215, [p2_s1563]), (219, [p2_s1585, p2_s1586])] 218 [(19, [some (.inr (.inr (.inl 1))), some (.inl (0, 30, [])), some (.inl (0, 1, [])), some (.inl (0, 5, [])), some (.inl (1, 6, []))], ([], [(3, 8, 0)], [(1, 15, 15, ck_one 1), (3, 6, 6, (0, 299, [(10, 0)]))]), 100, .inl 4, true)] 166 p2_s1587 = true := by decide +kernel
theorem p2_s1587_s {X : Int → Int} {LX : Nat} : ck_Ok p2_O X LX 218 p2_s1587 := ck_ok_s ⟨p2_nmu, ck_E1 (ck_S1 p2_s1558_s ck_S0) (ck_E1 (ck_S1 p2_s349_s ck_S0) (ck_E1 (ck_S1 p2_s1563_s ck_S0) (ck_E1 (ck_S1 p2_s1585_s (ck_S1 p2_s1586_s ck_S0)) ck_E0)))⟩ ck_X0 ck_l0 p2_s1587_e
set_option maxRecDepth 100000 in
/-- GlacierMailModel.watchman -/
def p2_s1588 : ck_Sum := ((1, 0, 0), 245, [.inr (.inr (.inl 226)), .inl ((-2147483648), (-1), []), .inl (0, 1, [])], ([], [], []), ([(226, 0, 0)], []), [(.inr (some (.inl (ck_one 0))), 245, ([], [], [(226, 0, 0, ck_one 1)]))])
set_option maxRecDepth 100000 in
theorem p2_s1588_e : ck_ok p2_O none [] [(286, [p2_s1570]), (282, [p2_s241])] 359 [] 102 p2_s1588 = true := by decide +kernel
theorem p2_s1588_s {X : Int → Int} {LX : Nat} : ck_Ok p2_O X LX 359 p2_s1588 := ck_ok_s ⟨p2_nmu, ck_E1 (ck_S1 p2_s1570_s ck_S0) (ck_E1 (ck_S1 p2_s241_s ck_S0) ck_E0)⟩ ck_X0 ck_l0 p2_s1588_e
set_option maxRecDepth 100000 in
/-- GlacierMailModel.watchman -/
def p2_s1589 : ck_Sum := ((1, 0, 0), 245, [.inr (.inr (.inl 226)), .inl (31, 2147483647, []), .inl (0, 1, [])], ([], [], []), ([(226, 0, 0)], []), [(.inr (some (.inl (ck_one 0))), 245, ([], [], [(226, 0, 0, ck_one 1)]))])
set_option maxRecDepth 100000 in
theorem p2_s1589_e : ck_ok p2_O none [] [(286, [p2_s1572]), (282, [p2_s241])] 359 [] 102 p2_s1589 = true := by decide +kernel
theorem p2_s1589_s {X : Int → Int} {LX : Nat} : ck_Ok p2_O X LX 359 p2_s1589 := ck_ok_s ⟨p2_nmu, ck_E1 (ck_S1 p2_s1572_s ck_S0) (ck_E1 (ck_S1 p2_s241_s ck_S0) ck_E0)⟩ ck_X0 ck_l0 p2_s1589_e
set_option maxRecDepth 100000 in
/-- GlacierMailModel.watchman -/
def p2_s1590 : ck_Sum := ((9, 0, 0), 245, [.inr (.inr (.inl 226)), .inl (0, 30, []), .inl (0, 1, [])], ([], [], zl84), ([(226, 0, 0), (226, 17, 23), (226, 26, 26), (226, 29, 30), (233, 0, 399), (235, 0, 29699), (236, 0, 299), (237, 0, 299), (238, 0, 23), (243, 0, 5)], []), [(.inr (some (.inl (0, 2147483647, []))), 245, ([], [], [(226, 0, 0, (0, 1, []))])), (.inr (some (.inl ((-1), 5, []))), 245, ([], [], [(226, 0, 0, ck_one 0)]))])
set_option maxRecDepth 100000 in
theorem p2_s1590_e : ck_ok p2_O none [] [(286, [p2_s1574]), (282, [p2_s241, p2_s242]), (332, [p2_s1373]), (261, [p2_s166]), (266, [p2_s190]), (333, [p2_s1575])] 359 [(36, [some (.inr (.inr (.inl 226))), some (.inl (0, 30, [])), some (.inl (0, 1, [])), some (.inl (0, 6, [])), none, none, none, none], ([], [], [(226, 0, 0, ck_one 0), (227, 2, 2, (0, 8, [(20, 0)])), (227, 4, 4, (0, 24, [(22, 0)])), (227, 5, 5, (0, 8, [(23, 0)])), (227, 9, 9, (0, 299, [(11, 0)]))]), 100, .inl 3, true), (105, [some (.inr (.inr (.inl 226))), some (.inl (0, 30, [])), some (.inl (0, 1, [])), some (.inl ((-1), 5, [])), some (.inl (0, 2147483647, [])), some (.inl (0, 6, [])), none, none], ([], [], [(226, 0, 0, ck_one 0), (227, 2, 2, (0, 8, [(20, 0)])), (227, 4, 4, (0, 24, [(22, 0)])), (227, 5, 5, (0, 8, [(23, 0)])), (227, 9, 9, (0, 299, [(11, 0)]))]), 300, .inl 5, true), (57, [some (.inr (.inr (.inl 226))), some (.inl (0, 30, [])), some (.inl (0, 1, [])), some (.inl (0, 5, [(100, 0)])), some (.inl (0, 399, [(1000011, 0)])), none, none, none], ([], [], [(226, 0, 0, ck_one 0), (227, 2, 2, (0, 8, [(20, 0)])), (227, 4, 4, (0, 24, [(22, 0)])), (227, 5, 5, (0, 8, [(23, 0)])), (227, 9, 9, (0, 299, [(11, 0)]))]), 500, .inl 4, true), (120, [some (.inr (.inr (.inl 226))), some (.inl (0, 30, [])), some (.inl (0, 1, [])), some (.inl ((-1), 5, [])), some (.inl (0, 2147483647, [])), some (.inl (0, 5, [(300, 0)])), some (.inl (0, 2147483647, [])), some (.inl (0, 6, []))], ([], [], [(226, 0, 0, ck_one 0), (227, 2, 2, (0, 8, [(20, 0)])), (227, 4, 4, (0, 24, [(22, 0)])), (227, 5, 5, (0, 8, [(23, 0)])), (227, 9, 9, (0, 299, [(11, 0)]))]), 700, .inl 7, true)] 360 p2_s1590 = true := by decide +kernel
theorem p2_s1590_s {X : Int → Int} {LX : Nat} : ck_Ok p2_O X LX 359 p2_s1590 := ck_ok_s ⟨p2_nmu, ck_E1 (ck_S1 p2_s1574_s ck_S0) (ck_E1 (ck_S1 p2_s241_s (ck_S1 p2_s242_s ck_S0)) (ck_E1 (ck_S1 p2_s1373_s ck_S0) (ck_E1 (ck_S1 p2_s166_s ck_S0) (ck_E1 (ck_S1 p2_s190_s ck_S0) (ck_E1 (ck_S1 p2_s1575_s ck_S0) ck_E0)))))⟩ ck_X0 ck_l0 p2_s1590_e
set_option maxRecDepth 100000 in
/-- GlacierMail.meeting -/
def p2_s1591 : ck_Sum := ((8, 1, 6), 245, [.inr (.inr (.inl 1)), .inl ((-2147483648), (-1), []), .inl ((-2147483648), 2147483647, [])], ([], [], []), ([], []), [(.inl 3, 245, ([], [], []))])
set_option maxRecDepth 100000 in
theorem p2_s1591_e : ck_ok p2_O none [] [(143, [p2_s387])] 221 [] 76 p2_s1591 = true := by decide +kernel
theorem p2_s1591_s {X : Int → Int} {LX : Nat} : ck_Ok p2_O X LX 221 p2_s1591 := ck_ok_s ⟨p2_nmu, ck_E1 (ck_S1 p2_s387_s ck_S0) ck_E0⟩ ck_X0 ck_l0 p2_s1591_e
set_option maxRecDepth 100000 in
/-- GlacierMail.meeting -/
def p2_s1592 : ck_Sum := ((8, 1, 6), 245, [.inr (.inr (.inl 1)), .inl (24, 2147483647, []), .inl ((-2147483648), 2147483647, [])], ([], [], []), ([], []), [(.inl 3, 245, ([], [], []))])
set_option maxRecDepth 100000 in
theorem p2_s1592_e : ck_ok p2_O none [] [(143, [p2_s390])] 221 [] 76 p2_s1592 = true := by decide +kernel
theorem p2_s1592_s {X : Int → Int} {LX : Nat} : ck_Ok p2_O X LX 221 p2_s1592 := ck_ok_s ⟨p2_nmu, ck_E1 (ck_S1 p2_s390_s ck_S0) ck_E0⟩ ck_X0 ck_l0 p2_s1592_e
set_option maxRecDepth 100000 in
/-- GlacierMail.meeting -/
def p2_s1593 : ck_Sum := ((8, 2, 12), 245, [.inr (.inr (.inl 1)), .inl (0, 23, []), .inl ((-2147483648), (-1), [])], ([], [], []), ([], []), [(.inl 3, 245, ([], [], []))])
set_option maxRecDepth 100000 in
theorem p2_s1593_e : ck_ok p2_O none [] [(143, [p2_s393, p2_s387])] 221 [] 82 p2_s1593 = true := by decide +kernel
theorem p2_s1593_s {X : Int → Int} {LX : Nat} : ck_Ok p2_O X LX 221 p2_s1593 := ck_ok_s ⟨p2_nmu, ck_E1 (ck_S1 p2_s393_s (ck_S1 p2_s387_s ck_S0)) ck_E0⟩ ck_X0 ck_l0 p2_s1593_e
set_option maxRecDepth 100000 in
/-- GlacierMail.meeting -/
def p2_s1594 : ck_Sum := ((8, 2, 12), 245, [.inr (.inr (.inl 1)), .inl (0, 23, []), .inl (24, 2147483647, [])], ([], [], []), ([], []), [(.inl 3, 245, ([], [], []))])
set_option maxRecDepth 100000 in
theorem p2_s1594_e : ck_ok p2_O none [] [(143, [p2_s393, p2_s390])] 221 [] 82 p2_s1594 = true := by decide +kernel
theorem p2_s1594_s {X : Int → Int} {LX : Nat} : ck_Ok p2_O X LX 221 p2_s1594 := ck_ok_s ⟨p2_nmu, ck_E1 (ck_S1 p2_s393_s (ck_S1 p2_s390_s ck_S0)) ck_E0⟩ ck_X0 ck_l0 p2_s1594_e
set_option maxRecDepth 100000 in
/-- GlacierMail.needUnlike -/
def p2_s1595 : ck_Sum := ((6, 1, 6), 245, [.inr (.inr (.inl 1)), .inl (0, 23, []), .inl (0, 23, [])], ([], [], []), ([], []), [(.inr none, 245, ([], [], [])), (.inl 0, 245, ([], [], []))])
set_option maxRecDepth 100000 in
theorem p2_s1595_e : ck_ok p2_O none [] [] 153 [] 78 p2_s1595 = true := by decide +kernel
theorem p2_s1595_s {X : Int → Int} {LX : Nat} : ck_Ok p2_O X LX 153 p2_s1595 := ck_ok_s ⟨p2_nmu, ck_E0⟩ ck_X0 ck_l0 p2_s1595_e
set_option maxRecDepth 100000 in
/-- GlacierMail.startBoth -/
def p2_s1596 : ck_Sum := ((4, 0, 0), 245, [.inr (.inr (.inl 1)), .inl (0, 23, []), .inl (0, 23, []), .inl (0, 299, [])], ([], [(3, 8, 0)], []), ([(206, 2, 8), (207, 2, 8)], []), [(.inr (some (.inl (0, 299, []))), 245, ([], [], zl86))])
set_option maxRecDepth 100000 in
theorem p2_s1596_e : ck_ok p2_O none [] [(27, [p2_s339, p2_s1381]), (148, [p2_s421, p2_s1386])] 182 [] 126 p2_s1596 = true := by decide +kernel
theorem p2_s1596_s {X : Int → Int} {LX : Nat} : ck_Ok p2_O X LX 182 p2_s1596 := ck_ok_s ⟨p2_nmu, ck_E1 (ck_S1 p2_s339_s (ck_S1 p2_s1381_s ck_S0)) (ck_E1 (ck_S1 p2_s421_s (ck_S1 p2_s1386_s ck_S0)) ck_E0)⟩ ck_X0 ck_l0 p2_s1596_e
set_option maxRecDepth 100000 in
/-- GlacierMail.meeting -/
def p2_s1597 : ck_Sum := ((8, 3, 18), 245, [.inr (.inr (.inl 1)), .inl (0, 23, []), .inl (0, 23, [])], ([], [(3, 8, 0)], [(3, 6, 6, (0, 299, [(10, 0)]))]), ([(206, 2, 8), (207, 2, 8)], []), [(.inl 3, 245, ([], [], [])), (.inl 0, 245, ([], [], [])), (.inr (some (.inl (ck_one (-1)))), 245, ([], [], [])), (.inr (some (.inl (0, 299, []))), 245, ([], [], zl207))])
set_option maxRecDepth 100000 in
theorem p2_s1597_e : ck_ok p2_O none [] [(143, [p2_s393]), (153, [p2_s1595]), (180, [p2_s1378]), (182, [p2_s1596]), (183, [p2_s1388]), (184, [p2_s1389])] 221 [(44, [some (.inr (.inr (.inl 1))), some (.inl (0, 23, [])), some (.inl (0, 23, [])), some (.inl (0, 299, [])), some (.inl (0, 300, []))], ([], [(3, 8, 0)], [(206, 4, 4, ck_one (-1)), (206, 2, 2, ((-1), 299, [])), (3, 6, 6, (0, 299, [(10, 0)]))]), 100, .inl 4, true)] 194 p2_s1597 = true := by decide +kernel
theorem p2_s1597_s {X : Int → Int} {LX : Nat} : ck_Ok p2_O X LX 221 p2_s1597 := ck_ok_s ⟨p2_nmu, ck_E1 (ck_S1 p2_s393_s ck_S0) (ck_E1 (ck_S1 p2_s1595_s ck_S0) (ck_E1 (ck_S1 p2_s1378_s ck_S0) (ck_E1 (ck_S1 p2_s1596_s ck_S0) (ck_E1 (ck_S1 p2_s1388_s ck_S0) (ck_E1 (ck_S1 p2_s1389_s ck_S0) ck_E0)))))⟩ ck_X0 ck_l0 p2_s1597_e
set_option maxRecDepth 100000 in
/-- GlacierMailModel.meeting -/
def p2_s1598 : ck_Sum := ((2, 0, 0), 245, [.inr (.inr (.inl 226)), .inl ((-2147483648), (-1), []), .inl ((-2147483648), 2147483647, [])], ([], [], [(227, 4, 4, (0, 24, [(22, 0)]))]), ([(226, 0, 0)], []), [(.inr (some (.inl (ck_one 0))), 245, ([], [], [(226, 0, 0, ck_one 1)]))])
set_option maxRecDepth 100000 in
theorem p2_s1598_e : ck_ok p2_O none [] [(309, [p2_s400]), (282, [p2_s241])] 360 [] 100 p2_s1598 = true := by decide +kernel
theorem p2_s1598_s {X : Int → Int} {LX : Nat} : ck_Ok p2_O X LX 360 p2_s1598 := ck_ok_s ⟨p2_nmu, ck_E1 (ck_S1 p2_s400_s ck_S0) (ck_E1 (ck_S1 p2_s241_s ck_S0) ck_E0)⟩ ck_X0 ck_l0 p2_s1598_e
set_option maxRecDepth 100000 in
/-- GlacierMailModel.meeting -/
def p2_s1599 : ck_Sum := ((2, 0, 0), 245, [.inr (.inr (.inl 226)), .inl (24, 2147483647, []), .inl ((-2147483648), 2147483647, [])], ([], [], [(227, 4, 4, (0, 24, [(22, 0)]))]), ([(226, 0, 0)], []), [(.inr (some (.inl (ck_one 0))), 245, ([], [], [(226, 0, 0, ck_one 1)]))])
set_option maxRecDepth 100000 in
theorem p2_s1599_e : ck_ok p2_O none [] [(309, [p2_s403]), (282, [p2_s241])] 360 [] 100 p2_s1599 = true := by decide +kernel
theorem p2_s1599_s {X : Int → Int} {LX : Nat} : ck_Ok p2_O X LX 360 p2_s1599 := ck_ok_s ⟨p2_nmu, ck_E1 (ck_S1 p2_s403_s ck_S0) (ck_E1 (ck_S1 p2_s241_s ck_S0) ck_E0)⟩ ck_X0 ck_l0 p2_s1599_e
set_option maxRecDepth 100000 in
/-- GlacierMailModel.meeting -/
def p2_s1600 : ck_Sum := ((2, 0, 0), 245, [.inr (.inr (.inl 226)), .inl (0, 23, []), .inl ((-2147483648), (-1), [])], ([], [], [(227, 4, 4, (0, 24, [(22, 0)]))]), ([(226, 0, 0)], []), [(.inr (some (.inl (ck_one 0))), 245, ([], [], [(226, 0, 0, ck_one 1)]))])
set_option maxRecDepth 100000 in
theorem p2_s1600_e : ck_ok p2_O none [] [(309, [p2_s406, p2_s400]), (282, [p2_s241])] 360 [] 108 p2_s1600 = true := by decide +kernel
theorem p2_s1600_s {X : Int → Int} {LX : Nat} : ck_Ok p2_O X LX 360 p2_s1600 := ck_ok_s ⟨p2_nmu, ck_E1 (ck_S1 p2_s406_s (ck_S1 p2_s400_s ck_S0)) (ck_E1 (ck_S1 p2_s241_s ck_S0) ck_E0)⟩ ck_X0 ck_l0 p2_s1600_e
set_option maxRecDepth 100000 in
/-- GlacierMailModel.meeting -/
def p2_s1601 : ck_Sum := ((2, 0, 0), 245, [.inr (.inr (.inl 226)), .inl (0, 23, []), .inl (24, 2147483647, [])], ([], [], [(227, 4, 4, (0, 24, [(22, 0)]))]), ([(226, 0, 0)], []), [(.inr (some (.inl (ck_one 0))), 245, ([], [], [(226, 0, 0, ck_one 1)]))])
set_option maxRecDepth 100000 in
theorem p2_s1601_e : ck_ok p2_O none [] [(309, [p2_s406, p2_s403]), (282, [p2_s241])] 360 [] 108 p2_s1601 = true := by decide +kernel
theorem p2_s1601_s {X : Int → Int} {LX : Nat} : ck_Ok p2_O X LX 360 p2_s1601 := ck_ok_s ⟨p2_nmu, ck_E1 (ck_S1 p2_s406_s (ck_S1 p2_s403_s ck_S0)) (ck_E1 (ck_S1 p2_s241_s ck_S0) ck_E0)⟩ ck_X0 ck_l0 p2_s1601_e
set_option maxRecDepth 100000 in
/-- GlacierMailModel.meeting -/
def p2_s1602 : ck_Sum := ((7, 0, 0), 245, [.inr (.inr (.inl 226)), .inl (0, 23, []), .inl (0, 23, [])], ([], [], zl84), (zl195, []), [(.inr (some (.inl (0, 299, []))), 245, ([], [], [(226, 0, 0, (0, 2, []))])), (.inr (some (.inl (ck_one (-1)))), 245, ([], [], [(226, 0, 0, ck_one 0)]))])
set_option maxRecDepth 100000 in
theorem p2_s1602_e : ck_ok p2_O none [] [(309, [p2_s406]), (282, [p2_s241, p2_s242, p2_s243, p2_s244]), (301, [p2_s375]), (305, [p2_s380]), (335, [p2_s1394]), (266, [p2_s190]), (312, [p2_s412]), (337, [p2_s1395])] 360 [(92, [some (.inr (.inr (.inl 226))), some (.inl (0, 23, [])), some (.inl (0, 23, [])), some (.inl (0, 300, [(1000011, 0)]))], ([], [], [(226, 0, 0, ck_one 0), (227, 2, 2, (0, 8, [(20, 0)])), (227, 4, 4, (0, 24, [(22, 0)])), (227, 5, 5, (0, 8, [(23, 0)])), (227, 9, 9, (0, 299, [(11, 0)]))]), 100, .inl 3, true)] 278 p2_s1602 = true := by decide +kernel
theorem p2_s1602_s {X : Int → Int} {LX : Nat} : ck_Ok p2_O X LX 360 p2_s1602 := ck_ok_s ⟨p2_nmu, ck_E1 (ck_S1 p2_s406_s ck_S0) (ck_E1 (ck_S1 p2_s241_s (ck_S1 p2_s242_s (ck_S1 p2_s243_s (ck_S1 p2_s244_s ck_S0)))) (ck_E1 (ck_S1 p2_s375_s ck_S0) (ck_E1 (ck_S1 p2_s380_s ck_S0) (ck_E1 (ck_S1 p2_s1394_s ck_S0) (ck_E1 (ck_S1 p2_s190_s ck_S0) (ck_E1 (ck_S1 p2_s412_s ck_S0) (ck_E1 (ck_S1 p2_s1395_s ck_S0) ck_E0)))))))⟩ ck_X0 ck_l0 p2_s1602_e
set_option maxRecDepth 100000 in
/-- GlacierMail.outs -/
def p2_s1603 : ck_Sum := ((7, 1, 6), 245, [.inr (.inr (.inl 1)), .inl ((-2147483648), (-1), [])], ([], [], []), ([], []), [(.inl 0, 245, ([], [], []))])
set_option maxRecDepth 100000 in
theorem p2_s1603_e : ck_ok p2_O none [] [(129, [p2_s249])] 223 [] 76 p2_s1603 = true := by decide +kernel
theorem p2_s1603_s {X : Int → Int} {LX : Nat} : ck_Ok p2_O X LX 223 p2_s1603 := ck_ok_s ⟨p2_nmu, ck_E1 (ck_S1 p2_s249_s ck_S0) ck_E0⟩ ck_X0 ck_l0 p2_s1603_e
set_option maxRecDepth 100000 in
/-- GlacierMail.outs -/
def p2_s1604 : ck_Sum := ((7, 1, 6), 245, [.inr (.inr (.inl 1)), .inl (300, 2147483647, [])], ([], [], []), ([], []), [(.inl 0, 245, ([], [], []))])
set_option maxRecDepth 100000 in
theorem p2_s1604_e : ck_ok p2_O none [] [(129, [p2_s251])] 223 [] 76 p2_s1604 = true := by decide +kernel
theorem p2_s1604_s {X : Int → Int} {LX : Nat} : ck_Ok p2_O X LX 223 p2_s1604 := ck_ok_s ⟨p2_nmu, ck_E1 (ck_S1 p2_s251_s ck_S0) ck_E0⟩ ck_X0 ck_l0 p2_s1604_e
set_option maxRecDepth 100000 in
/-- GlacierMail.outIn -/
def p2_s1605 : ck_Sum := ((1, 0, 0), 245, [.inr (.inr (.inl 1)), .inl (0, 299, []), .inl (ck_one 1)], ([], [], []), ([], []), [(.inr (some (.inl ((-2147483648), 2147483647, []))), 245, ([], [], []))])
set_option maxRecDepth 100000 in
theorem p2_s1605_e : ck_ok p2_O none [] [(9, [p2_s332]), (10, [p2_s350])] 47 [(5, [some (.inr (.inr (.inl 1))), some (.inl (0, 299, [])), some (.inl (ck_one 1)), some (.inl ((-2147483648), 2147483647, [])), some (.inl (0, 24, []))], ([], [], []), 100, .inl 4, true)] 162 p2_s1605 = true := by decide +kernel
theorem p2_s1605_s {X : Int → Int} {LX : Nat} : ck_Ok p2_O X LX 47 p2_s1605 := ck_ok_s ⟨p2_nmu, ck_E1 (ck_S1 p2_s332_s ck_S0) (ck_E1 (ck_S1 p2_s350_s ck_S0) ck_E0)⟩ ck_X0 ck_l0 p2_s1605_e
set_option maxRecDepth 100000 in
/-- GlacierMail.outs -/
def p2_s1606 : ck_Sum := ((5, 0, 0), 245, [.inr (.inr (.inl 1)), .inl (0, 299, [])], ([], [(3, 8, 0)], []), (zl79, []), [(.inr (some (.inl ((-2147483648), 2147483647, []))), 245, ([], [], [(1, 15, 15, ck_one 1)]))])
set_option maxRecDepth 100000 in
theorem p2_s1606_e : ck_ok p2_O none [] [(129, [p2_s253]), (24, [p2_s349]), (47, [p2_s1605])] 223 [] 90 p2_s1606 = true := by decide +kernel
theorem p2_s1606_s {X : Int → Int} {LX : Nat} : ck_Ok p2_O X LX 223 p2_s1606 := ck_ok_s ⟨p2_nmu, ck_E1 (ck_S1 p2_s253_s ck_S0) (ck_E1 (ck_S1 p2_s349_s ck_S0) (ck_E1 (ck_S1 p2_s1605_s ck_S0) ck_E0))⟩ ck_X0 ck_l0 p2_s1606_e
set_option maxRecDepth 100000 in
/-- GlacierMailModel.outs -/
def p2_s1607 : ck_Sum := ((2, 0, 0), 245, [.inr (.inr (.inl 226)), .inl ((-2147483648), (-1), [])], ([], [], []), ([(226, 0, 0)], []), [(.inr (some (.inl (ck_one 0))), 245, ([], [], [(226, 0, 0, ck_one 1)]))])
set_option maxRecDepth 100000 in
theorem p2_s1607_e : ck_ok p2_O none [] [(285, [p2_s257]), (282, [p2_s241])] 361 [] 92 p2_s1607 = true := by decide +kernel
theorem p2_s1607_s {X : Int → Int} {LX : Nat} : ck_Ok p2_O X LX 361 p2_s1607 := ck_ok_s ⟨p2_nmu, ck_E1 (ck_S1 p2_s257_s ck_S0) (ck_E1 (ck_S1 p2_s241_s ck_S0) ck_E0)⟩ ck_X0 ck_l0 p2_s1607_e
set_option maxRecDepth 100000 in
/-- GlacierMailModel.outs -/
def p2_s1608 : ck_Sum := ((2, 0, 0), 245, [.inr (.inr (.inl 226)), .inl (300, 2147483647, [])], ([], [], []), ([(226, 0, 0)], []), [(.inr (some (.inl (ck_one 0))), 245, ([], [], [(226, 0, 0, ck_one 1)]))])
set_option maxRecDepth 100000 in
theorem p2_s1608_e : ck_ok p2_O none [] [(285, [p2_s260]), (282, [p2_s241])] 361 [] 92 p2_s1608 = true := by decide +kernel
theorem p2_s1608_s {X : Int → Int} {LX : Nat} : ck_Ok p2_O X LX 361 p2_s1608 := ck_ok_s ⟨p2_nmu, ck_E1 (ck_S1 p2_s260_s ck_S0) (ck_E1 (ck_S1 p2_s241_s ck_S0) ck_E0)⟩ ck_X0 ck_l0 p2_s1608_e
set_option maxRecDepth 100000 in
/-- GlacierMailModel.outs -/
def p2_s1609 : ck_Sum := ((9, 0, 0), 245, [.inr (.inr (.inl 226)), .inl (0, 299, [])], ([], [], zl88), (zl189, []), [(.inr (some (.inl ((-2147483648), 2147483647, []))), 245, ([], [], [(226, 0, 0, ck_one 0)]))])
set_option maxRecDepth 100000 in
theorem p2_s1609_e : ck_ok p2_O none [] [(285, [p2_s263]), (282, [p2_s242]), (332, [p2_s1373]), (333, [p2_s1374])] 361 [] 104 p2_s1609 = true := by decide +kernel
theorem p2_s1609_s {X : Int → Int} {LX : Nat} : ck_Ok p2_O X LX 361 p2_s1609 := ck_ok_s ⟨p2_nmu, ck_E1 (ck_S1 p2_s263_s ck_S0) (ck_E1 (ck_S1 p2_s242_s ck_S0) (ck_E1 (ck_S1 p2_s1373_s ck_S0) (ck_E1 (ck_S1 p2_s1374_s ck_S0) ck_E0)))⟩ ck_X0 ck_l0 p2_s1609_e
set_option maxRecDepth 100000 in
/-- GlacierMail.outAheadOf -/
def p2_s1610 : ck_Sum := ((1, 0, 0), 245, [.inr (.inr (.inl 1)), .inl (0, 23, [])], ([], [], []), ([], []), [(.inr (some (.inl ((-2147483648), 2147483647, []))), 245, ([], [], []))])
set_option maxRecDepth 100000 in
theorem p2_s1610_e : ck_ok p2_O none [] [(10, [p2_s350]), (9, [p2_s332])] 53 [(15, [some (.inr (.inr (.inl 1))), some (.inl (0, 23, [])), some (.inl ((-2147483648), 299, [])), some (.inl ((-2147483648), 2147483647, [])), some (.inl (0, 24, [])), none, none], ([], [], []), 100, .inl 4, true)] 214 p2_s1610 = true := by decide +kernel
theorem p2_s1610_s {X : Int → Int} {LX : Nat} : ck_Ok p2_O X LX 53 p2_s1610 := ck_ok_s ⟨p2_nmu, ck_E1 (ck_S1 p2_s350_s ck_S0) (ck_E1 (ck_S1 p2_s332_s ck_S0) ck_E0)⟩ ck_X0 ck_l0 p2_s1610_e
set_option maxRecDepth 100000 in
/-- GlacierMail.order -/
def p2_s1611 : ck_Sum := ((5, 0, 0), 245, [.inr (.inr (.inl 1)), .inl ((-2147483648), 2147483647, [])], ([], [(3, 8, 0)], []), (zl79, []), [(.inr (some (.inl (ck_one (-1)))), 245, ([], [], [(1, 15, 15, ck_one 1)])), (.inr (some (.inl (0, 23, []))), 245, ([], [], [(1, 15, 15, ck_one 1)]))])
set_option maxRecDepth 100000 in
theorem p2_s1611_e : ck_ok p2_O none [] [(24, [p2_s349]), (9, [p2_s332]), (10, [p2_s350]), (53, [p2_s1610])] 52 [(6, [some (.inr (.inr (.inl 1))), some (.inl ((-2147483648), 2147483647, [])), some (.inl (0, 24, []))], ([], [(3, 8, 0)], [(1, 15, 15, ck_one 1)]), 100, .inl 2, true)] 170 p2_s1611 = true := by decide +kernel
theorem p2_s1611_s {X : Int → Int} {LX : Nat} : ck_Ok p2_O X LX 52 p2_s1611 := ck_ok_s ⟨p2_nmu, ck_E1 (ck_S1 p2_s349_s ck_S0) (ck_E1 (ck_S1 p2_s332_s ck_S0) (ck_E1 (ck_S1 p2_s350_s ck_S0) (ck_E1 (ck_S1 p2_s1610_s ck_S0) ck_E0)))⟩ ck_X0 ck_l0 p2_s1611_e
set_option maxRecDepth 100000 in
/-- GlacierMailModel.order -/
def p2_s1612 : ck_Sum := ((9, 0, 0), 245, [.inr (.inr (.inl 226)), .inl ((-2147483648), 2147483647, [])], ([], [], zl88), (zl189, []), [(.inr (some (.inl (ck_one (-1)))), 245, ([], [], [(226, 0, 0, ck_one 0)])), (.inr (some (.inl (0, 23, []))), 245, ([], [], [(226, 0, 0, ck_one 0), (227, 4, 4, (1, 24, [(22, 0)]))]))])
set_option maxRecDepth 100000 in
theorem p2_s1612_e : ck_ok p2_O none [] [(332, [p2_s1373]), (254, [p2_s176])] 362 [(13, [some (.inr (.inr (.inl 226))), some (.inl ((-2147483648), 2147483647, [])), some (.inl ((-2147483648), 2147483647, [])), some (.inl (0, 300, [])), none], ([], [], [(226, 0, 0, ck_one 0), (227, 2, 2, (0, 8, [(20, 0)])), (227, 4, 4, (0, 24, [(22, 0)])), (227, 5, 5, (0, 8, [(23, 0)]))]), 100, .inl 3, true), (27, [some (.inr (.inr (.inl 226))), some (.inl (0, 2147483647, [])), some (.inl ((-2147483648), 2147483647, [])), some (.inl (0, 299, [(100, 0)])), some (.inl (0, 24, []))], ([], [], [(226, 0, 0, ck_one 0), (227, 2, 2, (0, 8, [(20, 0)])), (227, 4, 4, (0, 24, [(22, 0)])), (227, 5, 5, (0, 8, [(23, 0)]))]), 300, .inl 4, true)] 206 p2_s1612 = true := by decide +kernel
theorem p2_s1612_s {X : Int → Int} {LX : Nat} : ck_Ok p2_O X LX 362 p2_s1612 := ck_ok_s ⟨p2_nmu, ck_E1 (ck_S1 p2_s1373_s ck_S0) (ck_E1 (ck_S1 p2_s176_s ck_S0) ck_E0)⟩ ck_X0 ck_l0 p2_s1612_e
set_option maxRecDepth 100000 in
/-- GlacierMail.streams -/
def p2_s1613 : ck_Sum := ((7, 1, 6), 245, [.inr (.inr (.inl 1)), .inl ((-2147483648), (-1), []), .inl (0, 1, [])], ([], [], []), ([], []), [(.inl 0, 245, ([], [], []))])
set_option maxRecDepth 100000 in
theorem p2_s1613_e : ck_ok p2_O none [] [(129, [p2_s249])] 225 [] 76 p2_s1613 = true := by decide +kernel
theorem p2_s1613_s {X : Int → Int} {LX : Nat} : ck_Ok p2_O X LX 225 p2_s1613 := ck_ok_s ⟨p2_nmu, ck_E1 (ck_S1 p2_s249_s ck_S0) ck_E0⟩ ck_X0 ck_l0 p2_s1613_e
set_option maxRecDepth 100000 in
/-- GlacierMail.streams -/
def p2_s1614 : ck_Sum := ((7, 1, 6), 245, [.inr (.inr (.inl 1)), .inl (300, 2147483647, []), .inl (0, 1, [])], ([], [], []), ([], []), [(.inl 0, 245, ([], [], []))])
set_option maxRecDepth 100000 in
theorem p2_s1614_e : ck_ok p2_O none [] [(129, [p2_s251])] 225 [] 76 p2_s1614 = true := by decide +kernel
theorem p2_s1614_s {X : Int → Int} {LX : Nat} : ck_Ok p2_O X LX 225 p2_s1614 := ck_ok_s ⟨p2_nmu, ck_E1 (ck_S1 p2_s251_s ck_S0) ck_E0⟩ ck_X0 ck_l0 p2_s1614_e
set_option maxRecDepth 100000 in
/-- GlacierMail.streams -/
def p2_s1615 : ck_Sum := ((5, 0, 0), 245, [.inr (.inr (.inl 1)), .inl (0, 299, []), .inl (0, 1, [])], ([], [(3, 8, 0)], []), (zl79, []), [(.inr (some (.inl ((-2147483648), 2147483647, []))), 245, ([], [], [(1, 15, 15, ck_one 1)]))])
set_option maxRecDepth 100000 in
theorem p2_s1615_e : ck_ok p2_O none [] [(129, [p2_s253]), (24, [p2_s349]), (9, [p2_s332]), (10, [p2_s335, p2_s350]), (67, [p2_s351])] 225 [(14, [some (.inr (.inr (.inl 1))), some (.inl (0, 299, [])), some (.inl (0, 1, [])), some (.inl ((-2147483648), 2147483647, [])), some (.inl (0, 24, [])), none], ([], [(3, 8, 0)], [(1, 15, 15, ck_one 1)]), 100, .inl 4, true)] 226 p2_s1615 = true := by decide +kernel
theorem p2_s1615_s {X : Int → Int} {LX : Nat} : ck_Ok p2_O X LX 225 p2_s1615 := ck_ok_s ⟨p2_nmu, ck_E1 (ck_S1 p2_s253_s ck_S0) (ck_E1 (ck_S1 p2_s349_s ck_S0) (ck_E1 (ck_S1 p2_s332_s ck_S0) (ck_E1 (ck_S1 p2_s335_s (ck_S1 p2_s350_s ck_S0)) (ck_E1 (ck_S1 p2_s351_s ck_S0) ck_E0))))⟩ ck_X0 ck_l0 p2_s1615_e
set_option maxRecDepth 100000 in
/-- GlacierMailModel.streams -/
def p2_s1616 : ck_Sum := ((2, 0, 0), 245, [.inr (.inr (.inl 226)), .inl ((-2147483648), (-1), []), .inl (0, 1, [])], ([], [], []), ([(226, 0, 0)], []), [(.inr (some (.inl (ck_one 0))), 245, ([], [], [(226, 0, 0, ck_one 1)]))])
set_option maxRecDepth 100000 in
theorem p2_s1616_e : ck_ok p2_O none [] [(285, [p2_s257]), (282, [p2_s241])] 363 [] 92 p2_s1616 = true := by decide +kernel
theorem p2_s1616_s {X : Int → Int} {LX : Nat} : ck_Ok p2_O X LX 363 p2_s1616 := ck_ok_s ⟨p2_nmu, ck_E1 (ck_S1 p2_s257_s ck_S0) (ck_E1 (ck_S1 p2_s241_s ck_S0) ck_E0)⟩ ck_X0 ck_l0 p2_s1616_e
set_option maxRecDepth 100000 in
/-- GlacierMailModel.streams -/
def p2_s1617 : ck_Sum := ((2, 0, 0), 245, [.inr (.inr (.inl 226)), .inl (300, 2147483647, []), .inl (0, 1, [])], ([], [], []), ([(226, 0, 0)], []), [(.inr (some (.inl (ck_one 0))), 245, ([], [], [(226, 0, 0, ck_one 1)]))])
set_option maxRecDepth 100000 in
theorem p2_s1617_e : ck_ok p2_O none [] [(285, [p2_s260]), (282, [p2_s241])] 363 [] 92 p2_s1617 = true := by decide +kernel
theorem p2_s1617_s {X : Int → Int} {LX : Nat} : ck_Ok p2_O X LX 363 p2_s1617 := ck_ok_s ⟨p2_nmu, ck_E1 (ck_S1 p2_s260_s ck_S0) (ck_E1 (ck_S1 p2_s241_s ck_S0) ck_E0)⟩ ck_X0 ck_l0 p2_s1617_e
set_option maxRecDepth 100000 in
/-- GlacierMailModel.streams -/
def p2_s1618 : ck_Sum := ((9, 0, 0), 245, [.inr (.inr (.inl 226)), .inl (0, 299, []), .inl (0, 1, [])], ([], [], zl88), (zl189, []), [(.inr (some (.inl ((-2147483648), 2147483647, []))), 245, ([], [], [(226, 0, 0, ck_one 0)]))])
set_option maxRecDepth 100000 in
theorem p2_s1618_e : ck_ok p2_O none [] [(285, [p2_s263]), (282, [p2_s242]), (332, [p2_s1373]), (254, [p2_s176]), (301, [p2_s375])] 363 [(28, [some (.inr (.inr (.inl 226))), some (.inl (0, 299, [])), some (.inl (0, 1, [])), some (.inl ((-2147483648), 2147483647, [])), some (.inl (0, 24, []))], ([], [], [(226, 0, 0, ck_one 0), (227, 2, 2, (0, 8, [(20, 0)])), (227, 4, 4, (0, 24, [(22, 0)])), (227, 5, 5, (0, 8, [(23, 0)]))]), 100, .inl 4, true)] 234 p2_s1618 = true := by decide +kernel
theorem p2_s1618_s {X : Int → Int} {LX : Nat} : ck_Ok p2_O X LX 363 p2_s1618 := ck_ok_s ⟨p2_nmu, ck_E1 (ck_S1 p2_s263_s ck_S0) (ck_E1 (ck_S1 p2_s242_s ck_S0) (ck_E1 (ck_S1 p2_s1373_s ck_S0) (ck_E1 (ck_S1 p2_s176_s ck_S0) (ck_E1 (ck_S1 p2_s375_s ck_S0) ck_E0))))⟩ ck_X0 ck_l0 p2_s1618_e
set_option maxRecDepth 100000 in
/-- GlacierMail.range -/
def p2_s1619 : ck_Sum := ((8, 1, 6), 245, [.inr (.inr (.inl 1)), .inl ((-2147483648), (-1), []), .inl ((-2147483648), 2147483647, [])], ([], [], []), ([], []), [(.inl 3, 245, ([], [], []))])
set_option maxRecDepth 100000 in
theorem p2_s1619_e : ck_ok p2_O none [] [(132, [p2_s266])] 227 [] 76 p2_s1619 = true := by decide +kernel
theorem p2_s1619_s {X : Int → Int} {LX : Nat} : ck_Ok p2_O X LX 227 p2_s1619 := ck_ok_s ⟨p2_nmu, ck_E1 (ck_S1 p2_s266_s ck_S0) ck_E0⟩ ck_X0 ck_l0 p2_s1619_e
set_option maxRecDepth 100000 in
/-- GlacierMail.range -/
def p2_s1620 : ck_Sum := ((8, 1, 6), 245, [.inr (.inr (.inl 1)), .inl (6, 2147483647, []), .inl ((-2147483648), 2147483647, [])], ([], [], []), ([], []), [(.inl 3, 245, ([], [], []))])
set_option maxRecDepth 100000 in
theorem p2_s1620_e : ck_ok p2_O none [] [(132, [p2_s269])] 227 [] 76 p2_s1620 = true := by decide +kernel
theorem p2_s1620_s {X : Int → Int} {LX : Nat} : ck_Ok p2_O X LX 227 p2_s1620 := ck_ok_s ⟨p2_nmu, ck_E1 (ck_S1 p2_s269_s ck_S0) ck_E0⟩ ck_X0 ck_l0 p2_s1620_e
set_option maxRecDepth 100000 in
/-- GlacierMail.range -/
def p2_s1621 : ck_Sum := ((8, 2, 12), 245, [.inr (.inr (.inl 1)), .inl (0, 5, []), .inl ((-2147483648), (-1), [])], ([], [], []), ([], []), [(.inl 3, 245, ([], [], [])), (.inl 0, 245, ([], [], []))])
set_option maxRecDepth 100000 in
theorem p2_s1621_e : ck_ok p2_O none [] [(132, [p2_s272]), (129, [p2_s249])] 227 [] 82 p2_s1621 = true := by decide +kernel
theorem p2_s1621_s {X : Int → Int} {LX : Nat} : ck_Ok p2_O X LX 227 p2_s1621 := ck_ok_s ⟨p2_nmu, ck_E1 (ck_S1 p2_s272_s ck_S0) (ck_E1 (ck_S1 p2_s249_s ck_S0) ck_E0)⟩ ck_X0 ck_l0 p2_s1621_e
set_option maxRecDepth 100000 in
/-- GlacierMail.range -/
def p2_s1622 : ck_Sum := ((8, 2, 12), 245, [.inr (.inr (.inl 1)), .inl (0, 5, []), .inl (300, 2147483647, [])], ([], [], []), ([], []), [(.inl 3, 245, ([], [], [])), (.inl 0, 245, ([], [], []))])
set_option maxRecDepth 100000 in
theorem p2_s1622_e : ck_ok p2_O none [] [(132, [p2_s272]), (129, [p2_s251])] 227 [] 82 p2_s1622 = true := by decide +kernel
theorem p2_s1622_s {X : Int → Int} {LX : Nat} : ck_Ok p2_O X LX 227 p2_s1622 := ck_ok_s ⟨p2_nmu, ck_E1 (ck_S1 p2_s272_s ck_S0) (ck_E1 (ck_S1 p2_s251_s ck_S0) ck_E0)⟩ ck_X0 ck_l0 p2_s1622_e
set_option maxRecDepth 100000 in
/-- GlacierMail.range -/
def p2_s1623 : ck_Sum := ((8, 1, 6), 245, [.inr (.inr (.inl 1)), .inl (0, 5, []), .inl (0, 299, [])], ([], [(3, 8, 0)], []), ([(206, 2, 8)], []), [(.inl 3, 245, ([], [], [])), (.inr (some (.inl ((-2147483648), 2147483647, []))), 245, ([], [], [(206, 4, 4, ck_one (-1))]))])
set_option maxRecDepth 100000 in
theorem p2_s1623_e : ck_ok p2_O none [] [(132, [p2_s272]), (129, [p2_s253]), (29, [p2_s1313]), (30, [p2_s346])] 227 [] 120 p2_s1623 = true := by decide +kernel
theorem p2_s1623_s {X : Int → Int} {LX : Nat} : ck_Ok p2_O X LX 227 p2_s1623 := ck_ok_s ⟨p2_nmu, ck_E1 (ck_S1 p2_s272_s ck_S0) (ck_E1 (ck_S1 p2_s253_s ck_S0) (ck_E1 (ck_S1 p2_s1313_s ck_S0) (ck_E1 (ck_S1 p2_s346_s ck_S0) ck_E0)))⟩ ck_X0 ck_l0 p2_s1623_e
set_option maxRecDepth 100000 in
/-- GlacierMailModel.range -/
def p2_s1624 : ck_Sum := ((2, 0, 0), 245, [.inr (.inr (.inl 226)), .inl ((-2147483648), (-1), []), .inl ((-2147483648), 2147483647, [])], ([], [], []), ([(226, 0, 0)], []), [(.inr (some (.inl (ck_one 0))), 245, ([], [], [(226, 0, 0, ck_one 1)]))])
set_option maxRecDepth 100000 in
theorem p2_s1624_e : ck_ok p2_O none [] [(288, [p2_s284]), (282, [p2_s241])] 364 [] 94 p2_s1624 = true := by decide +kernel
theorem p2_s1624_s {X : Int → Int} {LX : Nat} : ck_Ok p2_O X LX 364 p2_s1624 := ck_ok_s ⟨p2_nmu, ck_E1 (ck_S1 p2_s284_s ck_S0) (ck_E1 (ck_S1 p2_s241_s ck_S0) ck_E0)⟩ ck_X0 ck_l0 p2_s1624_e
set_option maxRecDepth 100000 in
/-- GlacierMailModel.range -/
def p2_s1625 : ck_Sum := ((2, 0, 0), 245, [.inr (.inr (.inl 226)), .inl (6, 2147483647, []), .inl ((-2147483648), 2147483647, [])], ([], [], []), ([(226, 0, 0)], []), [(.inr (some (.inl (ck_one 0))), 245, ([], [], [(226, 0, 0, ck_one 1)]))])
set_option maxRecDepth 100000 in
theorem p2_s1625_e : ck_ok p2_O none [] [(288, [p2_s287]), (282, [p2_s241])] 364 [] 94 p2_s1625 = true := by decide +kernel
theorem p2_s1625_s {X : Int → Int} {LX : Nat} : ck_Ok p2_O X LX 364 p2_s1625 := ck_ok_s ⟨p2_nmu, ck_E1 (ck_S1 p2_s287_s ck_S0) (ck_E1 (ck_S1 p2_s241_s ck_S0) ck_E0)⟩ ck_X0 ck_l0 p2_s1625_e
set_option maxRecDepth 100000 in
/-- GlacierMailModel.range -/
def p2_s1626 : ck_Sum := ((2, 0, 0), 245, [.inr (.inr (.inl 226)), .inl (0, 5, []), .inl ((-2147483648), (-1), [])], ([], [], []), ([(226, 0, 0)], []), [(.inr (some (.inl (ck_one 0))), 245, ([], [], [(226, 0, 0, (1, 2, []))]))])
set_option maxRecDepth 100000 in
theorem p2_s1626_e : ck_ok p2_O none [] [(288, [p2_s290]), (282, [p2_s241, p2_s242, p2_s244]), (285, [p2_s257])] 364 [] 106 p2_s1626 = true := by decide +kernel
theorem p2_s1626_s {X : Int → Int} {LX : Nat} : ck_Ok p2_O X LX 364 p2_s1626 := ck_ok_s ⟨p2_nmu, ck_E1 (ck_S1 p2_s290_s ck_S0) (ck_E1 (ck_S1 p2_s241_s (ck_S1 p2_s242_s (ck_S1 p2_s244_s ck_S0))) (ck_E1 (ck_S1 p2_s257_s ck_S0) ck_E0))⟩ ck_X0 ck_l0 p2_s1626_e
set_option maxRecDepth 100000 in
/-- GlacierMailModel.range -/
def p2_s1627 : ck_Sum := ((2, 0, 0), 245, [.inr (.inr (.inl 226)), .inl (0, 5, []), .inl (300, 2147483647, [])], ([], [], []), ([(226, 0, 0)], []), [(.inr (some (.inl (ck_one 0))), 245, ([], [], [(226, 0, 0, (1, 2, []))]))])
set_option maxRecDepth 100000 in
theorem p2_s1627_e : ck_ok p2_O none [] [(288, [p2_s290]), (282, [p2_s241, p2_s242, p2_s244]), (285, [p2_s260])] 364 [] 106 p2_s1627 = true := by decide +kernel
theorem p2_s1627_s {X : Int → Int} {LX : Nat} : ck_Ok p2_O X LX 364 p2_s1627 := ck_ok_s ⟨p2_nmu, ck_E1 (ck_S1 p2_s290_s ck_S0) (ck_E1 (ck_S1 p2_s241_s (ck_S1 p2_s242_s (ck_S1 p2_s244_s ck_S0))) (ck_E1 (ck_S1 p2_s260_s ck_S0) ck_E0))⟩ ck_X0 ck_l0 p2_s1627_e
set_option maxRecDepth 100000 in
/-- GlacierMailModel.range -/
def p2_s1628 : ck_Sum := ((7, 0, 0), 245, [.inr (.inr (.inl 226)), .inl (0, 5, []), .inl (0, 299, [])], ([], [], zl80), (zl85, []), [(.inr (some (.inl (ck_one 0))), 245, ([], [], [(226, 0, 0, ck_one 1)])), (.inr (some (.inl ((-299), 299, []))), 245, ([], [], [(226, 0, 0, ck_one 0)]))])
set_option maxRecDepth 100000 in
theorem p2_s1628_e : ck_ok p2_O none [] [(288, [p2_s290]), (282, [p2_s241, p2_s242, p2_s243]), (285, [p2_s263]), (325, [p2_s1326])] 364 [] 126 p2_s1628 = true := by decide +kernel
theorem p2_s1628_s {X : Int → Int} {LX : Nat} : ck_Ok p2_O X LX 364 p2_s1628 := ck_ok_s ⟨p2_nmu, ck_E1 (ck_S1 p2_s290_s ck_S0) (ck_E1 (ck_S1 p2_s241_s (ck_S1 p2_s242_s (ck_S1 p2_s243_s ck_S0))) (ck_E1 (ck_S1 p2_s263_s ck_S0) (ck_E1 (ck_S1 p2_s1326_s ck_S0) ck_E0)))⟩ ck_X0 ck_l0 p2_s1628_e
set_option maxRecDepth 100000 in
/-- GlacierMail.swiftest -/
def p2_s1629 : ck_Sum := ((8, 1, 6), 245, [.inr (.inr (.inl 1)), .inl ((-2147483648), (-1), []), .inl ((-2147483648), 2147483647, [])], ([], [], []), ([], []), [(.inl 3, 245, ([], [], []))])
set_option maxRecDepth 100000 in
theorem p2_s1629_e : ck_ok p2_O none [] [(134, [p2_s274])] 229 [] 76 p2_s1629 = true := by decide +kernel
theorem p2_s1629_s {X : Int → Int} {LX : Nat} : ck_Ok p2_O X LX 229 p2_s1629 := ck_ok_s ⟨p2_nmu, ck_E1 (ck_S1 p2_s274_s ck_S0) ck_E0⟩ ck_X0 ck_l0 p2_s1629_e
set_option maxRecDepth 100000 in
/-- GlacierMail.swiftest -/
def p2_s1630 : ck_Sum := ((8, 1, 6), 245, [.inr (.inr (.inl 1)), .inl (99, 2147483647, []), .inl ((-2147483648), 2147483647, [])], ([], [], []), ([], []), [(.inl 3, 245, ([], [], []))])
set_option maxRecDepth 100000 in
theorem p2_s1630_e : ck_ok p2_O none [] [(134, [p2_s277])] 229 [] 76 p2_s1630 = true := by decide +kernel
theorem p2_s1630_s {X : Int → Int} {LX : Nat} : ck_Ok p2_O X LX 229 p2_s1630 := ck_ok_s ⟨p2_nmu, ck_E1 (ck_S1 p2_s277_s ck_S0) ck_E0⟩ ck_X0 ck_l0 p2_s1630_e
set_option maxRecDepth 100000 in
/-- GlacierMail.swiftest -/
def p2_s1631 : ck_Sum := ((8, 2, 12), 245, [.inr (.inr (.inl 1)), .inl (0, 98, []), .inl ((-2147483648), (-1), [])], ([], [], []), ([], []), [(.inl 3, 245, ([], [], [])), (.inl 0, 245, ([], [], []))])
set_option maxRecDepth 100000 in
theorem p2_s1631_e : ck_ok p2_O none [] [(134, [p2_s280]), (129, [p2_s249])] 229 [] 82 p2_s1631 = true := by decide +kernel
theorem p2_s1631_s {X : Int → Int} {LX : Nat} : ck_Ok p2_O X LX 229 p2_s1631 := ck_ok_s ⟨p2_nmu, ck_E1 (ck_S1 p2_s280_s ck_S0) (ck_E1 (ck_S1 p2_s249_s ck_S0) ck_E0)⟩ ck_X0 ck_l0 p2_s1631_e
set_option maxRecDepth 100000 in
/-- GlacierMail.swiftest -/
def p2_s1632 : ck_Sum := ((8, 2, 12), 245, [.inr (.inr (.inl 1)), .inl (0, 98, []), .inl (300, 2147483647, [])], ([], [], []), ([], []), [(.inl 3, 245, ([], [], [])), (.inl 0, 245, ([], [], []))])
set_option maxRecDepth 100000 in
theorem p2_s1632_e : ck_ok p2_O none [] [(134, [p2_s280]), (129, [p2_s251])] 229 [] 82 p2_s1632 = true := by decide +kernel
theorem p2_s1632_s {X : Int → Int} {LX : Nat} : ck_Ok p2_O X LX 229 p2_s1632 := ck_ok_s ⟨p2_nmu, ck_E1 (ck_S1 p2_s280_s ck_S0) (ck_E1 (ck_S1 p2_s251_s ck_S0) ck_E0)⟩ ck_X0 ck_l0 p2_s1632_e
set_option maxRecDepth 100000 in
/-- GlacierMail.swiftest -/
def p2_s1633 : ck_Sum := ((8, 1, 6), 245, [.inr (.inr (.inl 1)), .inl (0, 98, []), .inl (0, 299, [])], ([], [(3, 8, 0)], []), ([(206, 2, 8)], []), [(.inl 3, 245, ([], [], [])), (.inr (some (.inl ((-1), 5, []))), 245, ([], [], []))])
set_option maxRecDepth 100000 in
theorem p2_s1633_e : ck_ok p2_O none [] [(134, [p2_s280]), (129, [p2_s253]), (29, [p2_s1313]), (30, [p2_s346])] 229 [(20, [some (.inr (.inr (.inl 1))), some (.inl (0, 98, [])), some (.inl (0, 299, [])), some (.inl ((-1), 5, [])), some (.inl ((-2147483648), 300, [])), some (.inl (0, 6, [])), none], ([], [(3, 8, 0)], []), 100, .inl 5, true)] 210 p2_s1633 = true := by decide +kernel
theorem p2_s1633_s {X : Int → Int} {LX : Nat} : ck_Ok p2_O X LX 229 p2_s1633 := ck_ok_s ⟨p2_nmu, ck_E1 (ck_S1 p2_s280_s ck_S0) (ck_E1 (ck_S1 p2_s253_s ck_S0) (ck_E1 (ck_S1 p2_s1313_s ck_S0) (ck_E1 (ck_S1 p2_s346_s ck_S0) ck_E0)))⟩ ck_X0 ck_l0 p2_s1633_e
set_option maxRecDepth 100000 in
/-- GlacierMailModel.swiftest -/
def p2_s1634 : ck_Sum := ((2, 0, 0), 245, [.inr (.inr (.inl 226)), .inl ((-2147483648), (-1), []), .inl ((-2147483648), 2147483647, [])], ([], [], []), ([(226, 0, 0)], []), [(.inr (some (.inl (ck_one 0))), 245, ([], [], [(226, 0, 0, ck_one 1)]))])
set_option maxRecDepth 100000 in
theorem p2_s1634_e : ck_ok p2_O none [] [(289, [p2_s292]), (282, [p2_s241])] 365 [] 94 p2_s1634 = true := by decide +kernel
theorem p2_s1634_s {X : Int → Int} {LX : Nat} : ck_Ok p2_O X LX 365 p2_s1634 := ck_ok_s ⟨p2_nmu, ck_E1 (ck_S1 p2_s292_s ck_S0) (ck_E1 (ck_S1 p2_s241_s ck_S0) ck_E0)⟩ ck_X0 ck_l0 p2_s1634_e
set_option maxRecDepth 100000 in
/-- GlacierMailModel.swiftest -/
def p2_s1635 : ck_Sum := ((2, 0, 0), 245, [.inr (.inr (.inl 226)), .inl (99, 2147483647, []), .inl ((-2147483648), 2147483647, [])], ([], [], []), ([(226, 0, 0)], []), [(.inr (some (.inl (ck_one 0))), 245, ([], [], [(226, 0, 0, ck_one 1)]))])
set_option maxRecDepth 100000 in
theorem p2_s1635_e : ck_ok p2_O none [] [(289, [p2_s295]), (282, [p2_s241])] 365 [] 94 p2_s1635 = true := by decide +kernel
theorem p2_s1635_s {X : Int → Int} {LX : Nat} : ck_Ok p2_O X LX 365 p2_s1635 := ck_ok_s ⟨p2_nmu, ck_E1 (ck_S1 p2_s295_s ck_S0) (ck_E1 (ck_S1 p2_s241_s ck_S0) ck_E0)⟩ ck_X0 ck_l0 p2_s1635_e
set_option maxRecDepth 100000 in
/-- GlacierMailModel.swiftest -/
def p2_s1636 : ck_Sum := ((2, 0, 0), 245, [.inr (.inr (.inl 226)), .inl (0, 98, []), .inl ((-2147483648), (-1), [])], ([], [], []), ([(226, 0, 0)], []), [(.inr (some (.inl (ck_one 0))), 245, ([], [], [(226, 0, 0, (1, 2, []))]))])
set_option maxRecDepth 100000 in
theorem p2_s1636_e : ck_ok p2_O none [] [(289, [p2_s298]), (282, [p2_s241, p2_s242, p2_s244]), (285, [p2_s257])] 365 [] 106 p2_s1636 = true := by decide +kernel
theorem p2_s1636_s {X : Int → Int} {LX : Nat} : ck_Ok p2_O X LX 365 p2_s1636 := ck_ok_s ⟨p2_nmu, ck_E1 (ck_S1 p2_s298_s ck_S0) (ck_E1 (ck_S1 p2_s241_s (ck_S1 p2_s242_s (ck_S1 p2_s244_s ck_S0))) (ck_E1 (ck_S1 p2_s257_s ck_S0) ck_E0))⟩ ck_X0 ck_l0 p2_s1636_e
set_option maxRecDepth 100000 in
/-- GlacierMailModel.swiftest -/
def p2_s1637 : ck_Sum := ((2, 0, 0), 245, [.inr (.inr (.inl 226)), .inl (0, 98, []), .inl (300, 2147483647, [])], ([], [], []), ([(226, 0, 0)], []), [(.inr (some (.inl (ck_one 0))), 245, ([], [], [(226, 0, 0, (1, 2, []))]))])
set_option maxRecDepth 100000 in
theorem p2_s1637_e : ck_ok p2_O none [] [(289, [p2_s298]), (282, [p2_s241, p2_s242, p2_s244]), (285, [p2_s260])] 365 [] 106 p2_s1637 = true := by decide +kernel
theorem p2_s1637_s {X : Int → Int} {LX : Nat} : ck_Ok p2_O X LX 365 p2_s1637 := ck_ok_s ⟨p2_nmu, ck_E1 (ck_S1 p2_s298_s ck_S0) (ck_E1 (ck_S1 p2_s241_s (ck_S1 p2_s242_s (ck_S1 p2_s244_s ck_S0))) (ck_E1 (ck_S1 p2_s260_s ck_S0) ck_E0))⟩ ck_X0 ck_l0 p2_s1637_e
set_option maxRecDepth 100000 in
/-- GlacierMailModel.swiftest -/
def p2_s1638 : ck_Sum := ((7, 0, 0), 245, [.inr (.inr (.inl 226)), .inl (0, 98, []), .inl (0, 299, [])], ([], [], zl80), (zl85, []), [(.inr (some (.inl (ck_one 0))), 245, ([], [], [(226, 0, 0, ck_one 1)])), (.inr (some (.inl ((-1), 5, []))), 245, ([], [], [(226, 0, 0, ck_one 0)]))])
set_option maxRecDepth 100000 in
theorem p2_s1638_e : ck_ok p2_O none [] [(289, [p2_s298]), (282, [p2_s241, p2_s242, p2_s243]), (285, [p2_s263]), (261, [p2_s166]), (325, [p2_s1326])] 365 [(42, [some (.inr (.inr (.inl 226))), some (.inl (0, 98, [])), some (.inl (0, 299, [])), some (.inl ((-1), 5, [])), some (.inl (0, 1000, [])), some (.inl (0, 6, [])), none], ([], [], [(226, 0, 0, ck_one 0), (227, 2, 2, (0, 8, [(20, 0)])), (227, 5, 5, (0, 8, [(23, 0)]))]), 100, .inl 5, true)] 182 p2_s1638 = true := by decide +kernel
theorem p2_s1638_s {X : Int → Int} {LX : Nat} : ck_Ok p2_O X LX 365 p2_s1638 := ck_ok_s ⟨p2_nmu, ck_E1 (ck_S1 p2_s298_s ck_S0) (ck_E1 (ck_S1 p2_s241_s (ck_S1 p2_s242_s (ck_S1 p2_s243_s ck_S0))) (ck_E1 (ck_S1 p2_s263_s ck_S0) (ck_E1 (ck_S1 p2_s166_s ck_S0) (ck_E1 (ck_S1 p2_s1326_s ck_S0) ck_E0))))⟩ ck_X0 ck_l0 p2_s1638_e
set_option maxRecDepth 100000 in
/-- GlacierMail.bare -/
def p2_s1639 : ck_Sum := ((7, 1, 6), 245, [.inr (.inr (.inl 1)), .inl ((-2147483648), (-1), [])], ([], [], []), ([], []), [(.inl 0, 245, ([], [], []))])
set_option maxRecDepth 100000 in
theorem p2_s1639_e : ck_ok p2_O none [] [(129, [p2_s249])] 231 [] 76 p2_s1639 = true := by decide +kernel
theorem p2_s1639_s {X : Int → Int} {LX : Nat} : ck_Ok p2_O X LX 231 p2_s1639 := ck_ok_s ⟨p2_nmu, ck_E1 (ck_S1 p2_s249_s ck_S0) ck_E0⟩ ck_X0 ck_l0 p2_s1639_e
set_option maxRecDepth 100000 in
/-- GlacierMail.bare -/
def p2_s1640 : ck_Sum := ((7, 1, 6), 245, [.inr (.inr (.inl 1)), .inl (300, 2147483647, [])], ([], [], []), ([], []), [(.inl 0, 245, ([], [], []))])
set_option maxRecDepth 100000 in
theorem p2_s1640_e : ck_ok p2_O none [] [(129, [p2_s251])] 231 [] 76 p2_s1640 = true := by decide +kernel
theorem p2_s1640_s {X : Int → Int} {LX : Nat} : ck_Ok p2_O X LX 231 p2_s1640 := ck_ok_s ⟨p2_nmu, ck_E1 (ck_S1 p2_s251_s ck_S0) ck_E0⟩ ck_X0 ck_l0 p2_s1640_e
set_option maxRecDepth 100000 in
/-- GlacierMail.bare -/
def p2_s1641 : ck_Sum := ((4, 0, 0), 245, [.inr (.inr (.inl 1)), .inl (0, 299, [])], ([], [(3, 8, 0)], []), ([(206, 2, 8)], []), [(.inr (some (.inl ((-2147483648), 2147483647, []))), 245, ([], [], []))])
set_option maxRecDepth 100000 in
theorem p2_s1641_e : ck_ok p2_O none [] [(129, [p2_s253]), (9, [p2_s331]), (10, [p2_s335]), (27, [p2_s339]), (148, [p2_s421]), (31, [p2_s340])] 231 [(9, [some (.inr (.inr (.inl 1))), some (.inl (0, 299, [])), some (.inl ((-2147483648), 2147483647, [])), some (.inl (0, 24, []))], ([], [(3, 8, 0)], []), 100, .inl 3, true)] 246 p2_s1641 = true := by decide +kernel
theorem p2_s1641_s {X : Int → Int} {LX : Nat} : ck_Ok p2_O X LX 231 p2_s1641 := ck_ok_s ⟨p2_nmu, ck_E1 (ck_S1 p2_s253_s ck_S0) (ck_E1 (ck_S1 p2_s331_s ck_S0) (ck_E1 (ck_S1 p2_s335_s ck_S0) (ck_E1 (ck_S1 p2_s339_s ck_S0) (ck_E1 (ck_S1 p2_s421_s ck_S0) (ck_E1 (ck_S1 p2_s340_s ck_S0) ck_E0)))))⟩ ck_X0 ck_l0 p2_s1641_e
set_option maxRecDepth 100000 in
/-- GlacierMailModel.bare -/
def p2_s1642 : ck_Sum := ((2, 0, 0), 245, [.inr (.inr (.inl 226)), .inl ((-2147483648), (-1), [])], ([], [], []), ([(226, 0, 0)], []), [(.inr (some (.inl (ck_one 0))), 245, ([], [], [(226, 0, 0, ck_one 1)]))])
set_option maxRecDepth 100000 in
theorem p2_s1642_e : ck_ok p2_O none [] [(285, [p2_s257]), (282, [p2_s241])] 366 [] 92 p2_s1642 = true := by decide +kernel
theorem p2_s1642_s {X : Int → Int} {LX : Nat} : ck_Ok p2_O X LX 366 p2_s1642 := ck_ok_s ⟨p2_nmu, ck_E1 (ck_S1 p2_s257_s ck_S0) (ck_E1 (ck_S1 p2_s241_s ck_S0) ck_E0)⟩ ck_X0 ck_l0 p2_s1642_e
set_option maxRecDepth 100000 in
/-- GlacierMailModel.bare -/
def p2_s1643 : ck_Sum := ((2, 0, 0), 245, [.inr (.inr (.inl 226)), .inl (300, 2147483647, [])], ([], [], []), ([(226, 0, 0)], []), [(.inr (some (.inl (ck_one 0))), 245, ([], [], [(226, 0, 0, ck_one 1)]))])
set_option maxRecDepth 100000 in
theorem p2_s1643_e : ck_ok p2_O none [] [(285, [p2_s260]), (282, [p2_s241])] 366 [] 92 p2_s1643 = true := by decide +kernel
theorem p2_s1643_s {X : Int → Int} {LX : Nat} : ck_Ok p2_O X LX 366 p2_s1643 := ck_ok_s ⟨p2_nmu, ck_E1 (ck_S1 p2_s260_s ck_S0) (ck_E1 (ck_S1 p2_s241_s ck_S0) ck_E0)⟩ ck_X0 ck_l0 p2_s1643_e
set_option maxRecDepth 100000 in
/-- GlacierMailModel.bare -/
def p2_s1644 : ck_Sum := ((7, 0, 0), 245, [.inr (.inr (.inl 226)), .inl (0, 299, [])], ([], [], zl88), (zl85, []), [(.inr (some (.inl ((-2147483648), 2147483647, []))), 245, ([], [], [(226, 0, 0, ck_one 0)]))])
set_option maxRecDepth 100000 in
theorem p2_s1644_e : ck_ok p2_O none [] [(285, [p2_s263]), (282, [p2_s242]), (254, [p2_s176]), (305, [p2_s380]), (311, [p2_s413])] 366 [(23, [some (.inr (.inr (.inl 226))), some (.inl (0, 299, [])), some (.inl ((-2147483648), 2147483647, [])), some (.inl (0, 24, []))], ([], [], [(226, 0, 0, ck_one 0), (227, 2, 2, (0, 8, [(20, 0)])), (227, 4, 4, (0, 24, [(22, 0)])), (227, 5, 5, (0, 8, [(23, 0)]))]), 100, .inl 3, true)] 182 p2_s1644 = true := by decide +kernel
theorem p2_s1644_s {X : Int → Int} {LX : Nat} : ck_Ok p2_O X LX 366 p2_s1644 := ck_ok_s ⟨p2_nmu, ck_E1 (ck_S1 p2_s263_s ck_S0) (ck_E1 (ck_S1 p2_s242_s ck_S0) (ck_E1 (ck_S1 p2_s176_s ck_S0) (ck_E1 (ck_S1 p2_s380_s ck_S0) (ck_E1 (ck_S1 p2_s413_s ck_S0) ck_E0))))⟩ ck_X0 ck_l0 p2_s1644_e
set_option maxRecDepth 100000 in
/-- GlacierMail$Rows.get -/
def p2_s1645 : ck_Sum := ((0, 0, 0), 245, [.inr (.inr (.inl 14)), .inl ((-2147483648), 2147483647, []), .inl ((-2147483648), 2147483647, [])], ([], [], []), ([], []), [(.inr (some (.inl ((-1), 299, []))), 245, ([], [], []))])
set_option maxRecDepth 100000 in
theorem p2_s1645_e : ck_ok p2_O none [] [] 10 [] 114 p2_s1645 = true := by decide +kernel
theorem p2_s1645_s {X : Int → Int} {LX : Nat} : ck_Ok p2_O X LX 10 p2_s1645 := ck_ok_s ⟨p2_nmu, ck_E0⟩ ck_X0 ck_l0 p2_s1645_e
set_option maxRecDepth 100000 in
/-- GlacierMail.log -/
def p2_s1646 : ck_Sum := ((6, 1, 6), 245, [.inr (.inr (.inl 1)), .inl ((-2147483648), (-1), []), .inl ((-2147483648), 2147483647, [])], ([], [], []), ([], []), [(.inl 4, 245, ([], [], [])), (.inr (some (.inl ((-1), 299, []))), 245, ([], [], []))])
set_option maxRecDepth 100000 in
theorem p2_s1646_e : ck_ok p2_O none [] [(10, [p2_s1645])] 233 [] 94 p2_s1646 = true := by decide +kernel
theorem p2_s1646_s {X : Int → Int} {LX : Nat} : ck_Ok p2_O X LX 233 p2_s1646 := ck_ok_s ⟨p2_nmu, ck_E1 (ck_S1 p2_s1645_s ck_S0) ck_E0⟩ ck_X0 ck_l0 p2_s1646_e
set_option maxRecDepth 100000 in
/-- GlacierMail.log -/
def p2_s1647 : ck_Sum := ((6, 1, 6), 245, [.inr (.inr (.inl 1)), .inl (24, 2147483647, []), .inl ((-2147483648), 2147483647, [])], ([], [], []), ([], []), [(.inl 4, 245, ([], [], [])), (.inr (some (.inl ((-1), 299, []))), 245, ([], [], []))])
set_option maxRecDepth 100000 in
theorem p2_s1647_e : ck_ok p2_O none [] [(10, [p2_s1645])] 233 [] 94 p2_s1647 = true := by decide +kernel
theorem p2_s1647_s {X : Int → Int} {LX : Nat} : ck_Ok p2_O X LX 233 p2_s1647 := ck_ok_s ⟨p2_nmu, ck_E1 (ck_S1 p2_s1645_s ck_S0) ck_E0⟩ ck_X0 ck_l0 p2_s1647_e
set_option maxRecDepth 100000 in
/-- GlacierMail.log -/
def p2_s1648 : ck_Sum := ((6, 1, 6), 245, [.inr (.inr (.inl 1)), .inl (0, 23, []), .inl ((-2147483648), (-1), [])], ([], [], []), ([], []), [(.inl 4, 245, ([], [], []))])
set_option maxRecDepth 100000 in
theorem p2_s1648_e : ck_ok p2_O none [] [] 233 [] 76 p2_s1648 = true := by decide +kernel
theorem p2_s1648_s {X : Int → Int} {LX : Nat} : ck_Ok p2_O X LX 233 p2_s1648 := ck_ok_s ⟨p2_nmu, ck_E0⟩ ck_X0 ck_l0 p2_s1648_e
set_option maxRecDepth 100000 in
/-- GlacierMail.log -/
def p2_s1649 : ck_Sum := ((6, 1, 6), 245, [.inr (.inr (.inl 1)), .inl (0, 23, []), .inl (10, 2147483647, [])], ([], [], []), ([], []), [(.inl 4, 245, ([], [], []))])
set_option maxRecDepth 100000 in
theorem p2_s1649_e : ck_ok p2_O none [] [] 233 [] 82 p2_s1649 = true := by decide +kernel
theorem p2_s1649_s {X : Int → Int} {LX : Nat} : ck_Ok p2_O X LX 233 p2_s1649 := ck_ok_s ⟨p2_nmu, ck_E0⟩ ck_X0 ck_l0 p2_s1649_e
set_option maxRecDepth 100000 in
/-- GlacierMail.log -/
def p2_s1650 : ck_Sum := ((6, 1, 6), 245, [.inr (.inr (.inl 1)), .inl (0, 23, []), .inl (0, 9, [])], ([], [], []), ([], []), [(.inr (some (.inl ((-1), 299, []))), 245, ([], [], [])), (.inl 4, 245, ([], [], []))])
set_option maxRecDepth 100000 in
theorem p2_s1650_e : ck_ok p2_O none [] [(10, [p2_s1645])] 233 [] 94 p2_s1650 = true := by decide +kernel
theorem p2_s1650_s {X : Int → Int} {LX : Nat} : ck_Ok p2_O X LX 233 p2_s1650 := ck_ok_s ⟨p2_nmu, ck_E1 (ck_S1 p2_s1645_s ck_S0) ck_E0⟩ ck_X0 ck_l0 p2_s1650_e
set_option maxRecDepth 100000 in
/-- GlacierMailModel.in -/
def p2_s1651 : ck_Sum := ((0, 0, 0), 245, [.inl ((-2147483648), 2147483647, []), .inl (ck_one 0), .inl (ck_one 2)], ([], [], []), ([], []), [(.inr (some (.inl (ck_one 0))), 245, ([], [], [])), (.inr (some (.inl (ck_one 1))), 245, ([], [], []))])
set_option maxRecDepth 100000 in
theorem p2_s1651_e : ck_ok p2_O none [] [] 286 [] 88 p2_s1651 = true := by decide +kernel
theorem p2_s1651_s {X : Int → Int} {LX : Nat} : ck_Ok p2_O X LX 286 p2_s1651 := ck_ok_s ⟨p2_nmu, ck_E0⟩ ck_X0 ck_l0 p2_s1651_e
set_option maxRecDepth 100000 in
/-- GlacierMailModel.log -/
def p2_s1652 : ck_Sum := ((1, 0, 0), 245, [.inr (.inr (.inl 226)), .inl ((-2147483648), (-1), []), .inl ((-2147483648), 2147483647, [])], ([], [], [(227, 14, 14, (0, 24, [(26, 0)]))]), ([(226, 0, 0)], []), [(.inr (some (.inl (ck_one 0))), 245, ([], [], [(226, 0, 0, ck_one 1)])), (.inr (some (.inl (ck_one (-1)))), 245, ([], [], [(226, 0, 0, ck_one 0)]))])
set_option maxRecDepth 100000 in
theorem p2_s1652_e : ck_ok p2_O none [] [(286, [p2_s1651, p2_s399]), (282, [p2_s241, p2_s242])] 367 [] 120 p2_s1652 = true := by decide +kernel
theorem p2_s1652_s {X : Int → Int} {LX : Nat} : ck_Ok p2_O X LX 367 p2_s1652 := ck_ok_s ⟨p2_nmu, ck_E1 (ck_S1 p2_s1651_s (ck_S1 p2_s399_s ck_S0)) (ck_E1 (ck_S1 p2_s241_s (ck_S1 p2_s242_s ck_S0)) ck_E0)⟩ ck_X0 ck_l0 p2_s1652_e
set_option maxRecDepth 100000 in
/-- GlacierMailModel.log -/
def p2_s1653 : ck_Sum := ((1, 0, 0), 245, [.inr (.inr (.inl 226)), .inl (24, 2147483647, []), .inl ((-2147483648), 2147483647, [])], ([], [], [(227, 14, 14, (0, 24, [(26, 0)]))]), ([(226, 0, 0)], []), [(.inr (some (.inl (ck_one 0))), 245, ([], [], [(226, 0, 0, ck_one 1)])), (.inr (some (.inl (ck_one (-1)))), 245, ([], [], [(226, 0, 0, ck_one 0)]))])
set_option maxRecDepth 100000 in
theorem p2_s1653_e : ck_ok p2_O none [] [(286, [p2_s1651, p2_s402]), (282, [p2_s241, p2_s242])] 367 [] 120 p2_s1653 = true := by decide +kernel
theorem p2_s1653_s {X : Int → Int} {LX : Nat} : ck_Ok p2_O X LX 367 p2_s1653 := ck_ok_s ⟨p2_nmu, ck_E1 (ck_S1 p2_s1651_s (ck_S1 p2_s402_s ck_S0)) (ck_E1 (ck_S1 p2_s241_s (ck_S1 p2_s242_s ck_S0)) ck_E0)⟩ ck_X0 ck_l0 p2_s1653_e
set_option maxRecDepth 100000 in
/-- GlacierMailModel.log -/
def p2_s1654 : ck_Sum := ((1, 0, 0), 245, [.inr (.inr (.inl 226)), .inl (0, 23, []), .inl ((-2147483648), (-1), [])], ([], [], []), ([(226, 0, 0)], []), [(.inr (some (.inl (ck_one 0))), 245, ([], [], [(226, 0, 0, ck_one 1)]))])
set_option maxRecDepth 100000 in
theorem p2_s1654_e : ck_ok p2_O none [] [(286, [p2_s1321]), (282, [p2_s241])] 367 [] 102 p2_s1654 = true := by decide +kernel
theorem p2_s1654_s {X : Int → Int} {LX : Nat} : ck_Ok p2_O X LX 367 p2_s1654 := ck_ok_s ⟨p2_nmu, ck_E1 (ck_S1 p2_s1321_s ck_S0) (ck_E1 (ck_S1 p2_s241_s ck_S0) ck_E0)⟩ ck_X0 ck_l0 p2_s1654_e
set_option maxRecDepth 100000 in
/-- GlacierMailModel.log -/
def p2_s1655 : ck_Sum := ((1, 0, 0), 245, [.inr (.inr (.inl 226)), .inl (0, 23, []), .inl (10, 2147483647, [])], ([], [], []), ([(226, 0, 0)], []), [(.inr (some (.inl (ck_one 0))), 245, ([], [], [(226, 0, 0, ck_one 1)]))])
set_option maxRecDepth 100000 in
theorem p2_s1655_e : ck_ok p2_O none [] [(286, [p2_s1323]), (282, [p2_s241])] 367 [] 102 p2_s1655 = true := by decide +kernel
theorem p2_s1655_s {X : Int → Int} {LX : Nat} : ck_Ok p2_O X LX 367 p2_s1655 := ck_ok_s ⟨p2_nmu, ck_E1 (ck_S1 p2_s1323_s ck_S0) (ck_E1 (ck_S1 p2_s241_s ck_S0) ck_E0)⟩ ck_X0 ck_l0 p2_s1655_e
set_option maxRecDepth 100000 in
/-- GlacierMailModel.log -/
def p2_s1656 : ck_Sum := ((1, 0, 0), 245, [.inr (.inr (.inl 226)), .inl (0, 23, []), .inl (0, 9, [])], ([], [], [(227, 14, 14, (0, 24, [(26, 0)]))]), ([(226, 0, 0)], []), [(.inr (some (.inl (ck_one 0))), 245, ([], [], [(226, 0, 0, ck_one 1)])), (.inr (some (.inl ((-1), 400, []))), 245, ([], [], [(226, 0, 0, ck_one 0)]))])
set_option maxRecDepth 100000 in
theorem p2_s1656_e : ck_ok p2_O none [] [(286, [p2_s1325, p2_s405]), (282, [p2_s241, p2_s242])] 367 [] 140 p2_s1656 = true := by decide +kernel
theorem p2_s1656_s {X : Int → Int} {LX : Nat} : ck_Ok p2_O X LX 367 p2_s1656 := ck_ok_s ⟨p2_nmu, ck_E1 (ck_S1 p2_s1325_s (ck_S1 p2_s405_s ck_S0)) (ck_E1 (ck_S1 p2_s241_s (ck_S1 p2_s242_s ck_S0)) ck_E0)⟩ ck_X0 ck_l0 p2_s1656_e
set_option maxRecDepth 100000 in
/-- GlacierMail$History.at -/
def p2_s1657 : ck_Sum := ((0, 0, 0), 245, [.inr (.inr (.inl 42)), .inl (0, 11, [])], ([], [], []), ([], []), [(.inr (some (.inr (.inr (.inl 44)))), 245, ([], [], [])), (.inr (some (.inr (.inr (.inl 187)))), 245, ([], [], [])), (.inr (some (.inr (.inr (.inl 174)))), 245, ([], [], [])), (.inr (some (.inr (.inr (.inl 161)))), 245, ([], [], [])), (.inr (some (.inr (.inr (.inl 148)))), 245, ([], [], [])), (.inr (some (.inr (.inr (.inl 135)))), 245, ([], [], [])), (.inr (some (.inr (.inr (.inl 122)))), 245, ([], [], [])), (.inr (some (.inr (.inr (.inl 109)))), 245, ([], [], [])), (.inr (some (.inr (.inr (.inl 96)))), 245, ([], [], [])), (.inr (some (.inr (.inr (.inl 83)))), 245, ([], [], [])), (.inr (some (.inr (.inr (.inl 70)))), 245, ([], [], [])), (.inr (some (.inr (.inr (.inl 57)))), 245, ([], [], []))])
set_option maxRecDepth 100000 in
theorem p2_s1657_e : ck_ok p2_O none [] [] 56 [] 96 p2_s1657 = true := by decide +kernel
theorem p2_s1657_s {X : Int → Int} {LX : Nat} : ck_Ok p2_O X LX 56 p2_s1657 := ck_ok_s ⟨p2_nmu, ck_E0⟩ ck_X0 ck_l0 p2_s1657_e
set_option maxRecDepth 100000 in
/-- GlacierMail$Rows.copyFrom -/
def p2_s1658 : ck_Sum := ((1, 0, 0), 245, [.inr (.inr (.inl 4)), .inr (.inr (.inl 45))], ([], [], []), ([(4, 3, 3), (5, 0, 55)], []), [(.inr none, 245, ([], [], []))])
set_option maxRecDepth 100000 in
theorem p2_s1658_e : ck_ok p2_O none [] [] 58 [] 114 p2_s1658 = true := by decide +kernel
theorem p2_s1658_s {X : Int → Int} {LX : Nat} : ck_Ok p2_O X LX 58 p2_s1658 := ck_ok_s ⟨p2_nmu, ck_E0⟩ ck_X0 ck_l0 p2_s1658_e
set_option maxRecDepth 100000 in
/-- GlacierMail$Rows.copyFrom -/
def p2_s1659 : ck_Sum := ((1, 0, 0), 245, [.inr (.inr (.inl 6)), .inr (.inr (.inl 47))], ([], [], []), ([(6, 3, 3), (7, 0, 23)], []), [(.inr none, 245, ([], [], []))])
set_option maxRecDepth 100000 in
theorem p2_s1659_e : ck_ok p2_O none [] [] 58 [] 114 p2_s1659 = true := by decide +kernel
theorem p2_s1659_s {X : Int → Int} {LX : Nat} : ck_Ok p2_O X LX 58 p2_s1659 := ck_ok_s ⟨p2_nmu, ck_E0⟩ ck_X0 ck_l0 p2_s1659_e
set_option maxRecDepth 100000 in
/-- GlacierMail$Rows.copyFrom -/
def p2_s1660 : ck_Sum := ((1, 0, 0), 245, [.inr (.inr (.inl 8)), .inr (.inr (.inl 49))], ([], [], []), ([(8, 3, 3), (9, 0, 23)], []), [(.inr none, 245, ([], [], []))])
set_option maxRecDepth 100000 in
theorem p2_s1660_e : ck_ok p2_O none [] [] 58 [] 114 p2_s1660 = true := by decide +kernel
theorem p2_s1660_s {X : Int → Int} {LX : Nat} : ck_Ok p2_O X LX 58 p2_s1660 := ck_ok_s ⟨p2_nmu, ck_E0⟩ ck_X0 ck_l0 p2_s1660_e
set_option maxRecDepth 100000 in
/-- GlacierMail$Rows.copyFrom -/
def p2_s1661 : ck_Sum := ((1, 0, 0), 245, [.inr (.inr (.inl 10)), .inr (.inr (.inl 51))], ([], [], []), ([(10, 3, 3), (11, 0, 167)], []), [(.inr none, 245, ([], [], []))])
set_option maxRecDepth 100000 in
theorem p2_s1661_e : ck_ok p2_O none [] [] 58 [] 114 p2_s1661 = true := by decide +kernel
theorem p2_s1661_s {X : Int → Int} {LX : Nat} : ck_Ok p2_O X LX 58 p2_s1661 := ck_ok_s ⟨p2_nmu, ck_E0⟩ ck_X0 ck_l0 p2_s1661_e
set_option maxRecDepth 100000 in
/-- GlacierMail$Rows.copyFrom -/
def p2_s1662 : ck_Sum := ((1, 0, 0), 245, [.inr (.inr (.inl 12)), .inr (.inr (.inl 53))], ([], [], []), ([(12, 3, 3), (13, 0, 35)], []), [(.inr none, 245, ([], [], []))])
set_option maxRecDepth 100000 in
theorem p2_s1662_e : ck_ok p2_O none [] [] 58 [] 114 p2_s1662 = true := by decide +kernel
theorem p2_s1662_s {X : Int → Int} {LX : Nat} : ck_Ok p2_O X LX 58 p2_s1662 := ck_ok_s ⟨p2_nmu, ck_E0⟩ ck_X0 ck_l0 p2_s1662_e
set_option maxRecDepth 100000 in
/-- GlacierMail$Rows.copyFrom -/
def p2_s1663 : ck_Sum := ((1, 0, 0), 245, [.inr (.inr (.inl 14)), .inr (.inr (.inl 55))], ([], [], []), ([(14, 3, 3), (15, 0, 71)], []), [(.inr none, 245, ([], [], []))])
set_option maxRecDepth 100000 in
theorem p2_s1663_e : ck_ok p2_O none [] [] 58 [] 114 p2_s1663 = true := by decide +kernel
theorem p2_s1663_s {X : Int → Int} {LX : Nat} : ck_Ok p2_O X LX 58 p2_s1663 := ck_ok_s ⟨p2_nmu, ck_E0⟩ ck_X0 ck_l0 p2_s1663_e
set_option maxRecDepth 100000 in
/-- GlacierMail$State.copyFrom -/
def p2_s1664 : ck_Sum := ((2, 0, 0), 245, [.inr (.inr (.inl 3)), .inr (.inr (.inl 44))], ([], [(3, 8, 0), (44, 8, 100044)], []), (zl1, [(3, 8)]), [(.inr none, 245, ([], [(3, 8, 100044)], []))])
set_option maxRecDepth 100000 in
theorem p2_s1664_e : ck_ok p2_O none [] [(58, [p2_s1658, p2_s1659, p2_s1660, p2_s1661, p2_s1662, p2_s1663])] 57 [] 204 p2_s1664 = true := by decide +kernel
theorem p2_s1664_s {X : Int → Int} {LX : Nat} : ck_Ok p2_O X LX 57 p2_s1664 := ck_ok_s ⟨p2_nmu, ck_E1 (ck_S1 p2_s1658_s (ck_S1 p2_s1659_s (ck_S1 p2_s1660_s (ck_S1 p2_s1661_s (ck_S1 p2_s1662_s (ck_S1 p2_s1663_s ck_S0)))))) ck_E0⟩ ck_X0 ck_l0 p2_s1664_e
set_option maxRecDepth 100000 in
/-- GlacierMail$Rows.copyFrom -/
def p2_s1665 : ck_Sum := ((1, 0, 0), 245, [.inr (.inr (.inl 4)), .inr (.inr (.inl 58))], ([], [], []), ([(4, 3, 3), (5, 0, 55)], []), [(.inr none, 245, ([], [], []))])
set_option maxRecDepth 100000 in
theorem p2_s1665_e : ck_ok p2_O none [] [] 58 [] 114 p2_s1665 = true := by decide +kernel
theorem p2_s1665_s {X : Int → Int} {LX : Nat} : ck_Ok p2_O X LX 58 p2_s1665 := ck_ok_s ⟨p2_nmu, ck_E0⟩ ck_X0 ck_l0 p2_s1665_e
set_option maxRecDepth 100000 in
/-- GlacierMail$Rows.copyFrom -/
def p2_s1666 : ck_Sum := ((1, 0, 0), 245, [.inr (.inr (.inl 6)), .inr (.inr (.inl 60))], ([], [], []), ([(6, 3, 3), (7, 0, 23)], []), [(.inr none, 245, ([], [], []))])
set_option maxRecDepth 100000 in
theorem p2_s1666_e : ck_ok p2_O none [] [] 58 [] 114 p2_s1666 = true := by decide +kernel
theorem p2_s1666_s {X : Int → Int} {LX : Nat} : ck_Ok p2_O X LX 58 p2_s1666 := ck_ok_s ⟨p2_nmu, ck_E0⟩ ck_X0 ck_l0 p2_s1666_e
set_option maxRecDepth 100000 in
/-- GlacierMail$Rows.copyFrom -/
def p2_s1667 : ck_Sum := ((1, 0, 0), 245, [.inr (.inr (.inl 8)), .inr (.inr (.inl 62))], ([], [], []), ([(8, 3, 3), (9, 0, 23)], []), [(.inr none, 245, ([], [], []))])
set_option maxRecDepth 100000 in
theorem p2_s1667_e : ck_ok p2_O none [] [] 58 [] 114 p2_s1667 = true := by decide +kernel
theorem p2_s1667_s {X : Int → Int} {LX : Nat} : ck_Ok p2_O X LX 58 p2_s1667 := ck_ok_s ⟨p2_nmu, ck_E0⟩ ck_X0 ck_l0 p2_s1667_e
end
/-! 78r80a21.sf -/
section
/-! EVERY CALL ENDS, whatever was done before (laid by wip/am/p2k.py). -/
set_option maxRecDepth 100000 in
/-- GlacierMail$Rows.copyFrom -/
def p2_s1668 : ck_Sum := ((1, 0, 0), 245, [.inr (.inr (.inl 10)), .inr (.inr (.inl 64))], ([], [], []), ([(10, 3, 3), (11, 0, 167)], []), [(.inr none, 245, ([], [], []))])
set_option maxRecDepth 100000 in
theorem p2_s1668_e : ck_ok p2_O none [] [] 58 [] 114 p2_s1668 = true := by decide +kernel
theorem p2_s1668_s {X : Int → Int} {LX : Nat} : ck_Ok p2_O X LX 58 p2_s1668 := ck_ok_s ⟨p2_nmu, ck_E0⟩ ck_X0 ck_l0 p2_s1668_e
set_option maxRecDepth 100000 in
/-- GlacierMail$Rows.copyFrom -/
def p2_s1669 : ck_Sum := ((1, 0, 0), 245, [.inr (.inr (.inl 12)), .inr (.inr (.inl 66))], ([], [], []), ([(12, 3, 3), (13, 0, 35)], []), [(.inr none, 245, ([], [], []))])
set_option maxRecDepth 100000 in
theorem p2_s1669_e : ck_ok p2_O none [] [] 58 [] 114 p2_s1669 = true := by decide +kernel
theorem p2_s1669_s {X : Int → Int} {LX : Nat} : ck_Ok p2_O X LX 58 p2_s1669 := ck_ok_s ⟨p2_nmu, ck_E0⟩ ck_X0 ck_l0 p2_s1669_e
set_option maxRecDepth 100000 in
/-- GlacierMail$Rows.copyFrom -/
def p2_s1670 : ck_Sum := ((1, 0, 0), 245, [.inr (.inr (.inl 14)), .inr (.inr (.inl 68))], ([], [], []), ([(14, 3, 3), (15, 0, 71)], []), [(.inr none, 245, ([], [], []))])
set_option maxRecDepth 100000 in
theorem p2_s1670_e : ck_ok p2_O none [] [] 58 [] 114 p2_s1670 = true := by decide +kernel
theorem p2_s1670_s {X : Int → Int} {LX : Nat} : ck_Ok p2_O X LX 58 p2_s1670 := ck_ok_s ⟨p2_nmu, ck_E0⟩ ck_X0 ck_l0 p2_s1670_e
set_option maxRecDepth 100000 in
/-- GlacierMail$State.copyFrom -/
def p2_s1671 : ck_Sum := ((2, 0, 0), 245, [.inr (.inr (.inl 3)), .inr (.inr (.inl 57))], ([], [(3, 8, 0), (57, 8, 100057)], []), (zl1, [(3, 8)]), [(.inr none, 245, ([], [(3, 8, 100057)], []))])
set_option maxRecDepth 100000 in
theorem p2_s1671_e : ck_ok p2_O none [] [(58, [p2_s1665, p2_s1666, p2_s1667, p2_s1668, p2_s1669, p2_s1670])] 57 [] 204 p2_s1671 = true := by decide +kernel
theorem p2_s1671_s {X : Int → Int} {LX : Nat} : ck_Ok p2_O X LX 57 p2_s1671 := ck_ok_s ⟨p2_nmu, ck_E1 (ck_S1 p2_s1665_s (ck_S1 p2_s1666_s (ck_S1 p2_s1667_s (ck_S1 p2_s1668_s (ck_S1 p2_s1669_s (ck_S1 p2_s1670_s ck_S0)))))) ck_E0⟩ ck_X0 ck_l0 p2_s1671_e
set_option maxRecDepth 100000 in
/-- GlacierMail$Rows.copyFrom -/
def p2_s1672 : ck_Sum := ((1, 0, 0), 245, [.inr (.inr (.inl 4)), .inr (.inr (.inl 71))], ([], [], []), ([(4, 3, 3), (5, 0, 55)], []), [(.inr none, 245, ([], [], []))])
set_option maxRecDepth 100000 in
theorem p2_s1672_e : ck_ok p2_O none [] [] 58 [] 114 p2_s1672 = true := by decide +kernel
theorem p2_s1672_s {X : Int → Int} {LX : Nat} : ck_Ok p2_O X LX 58 p2_s1672 := ck_ok_s ⟨p2_nmu, ck_E0⟩ ck_X0 ck_l0 p2_s1672_e
set_option maxRecDepth 100000 in
/-- GlacierMail$Rows.copyFrom -/
def p2_s1673 : ck_Sum := ((1, 0, 0), 245, [.inr (.inr (.inl 6)), .inr (.inr (.inl 73))], ([], [], []), ([(6, 3, 3), (7, 0, 23)], []), [(.inr none, 245, ([], [], []))])
set_option maxRecDepth 100000 in
theorem p2_s1673_e : ck_ok p2_O none [] [] 58 [] 114 p2_s1673 = true := by decide +kernel
theorem p2_s1673_s {X : Int → Int} {LX : Nat} : ck_Ok p2_O X LX 58 p2_s1673 := ck_ok_s ⟨p2_nmu, ck_E0⟩ ck_X0 ck_l0 p2_s1673_e
set_option maxRecDepth 100000 in
/-- GlacierMail$Rows.copyFrom -/
def p2_s1674 : ck_Sum := ((1, 0, 0), 245, [.inr (.inr (.inl 8)), .inr (.inr (.inl 75))], ([], [], []), ([(8, 3, 3), (9, 0, 23)], []), [(.inr none, 245, ([], [], []))])
set_option maxRecDepth 100000 in
theorem p2_s1674_e : ck_ok p2_O none [] [] 58 [] 114 p2_s1674 = true := by decide +kernel
theorem p2_s1674_s {X : Int → Int} {LX : Nat} : ck_Ok p2_O X LX 58 p2_s1674 := ck_ok_s ⟨p2_nmu, ck_E0⟩ ck_X0 ck_l0 p2_s1674_e
set_option maxRecDepth 100000 in
/-- GlacierMail$Rows.copyFrom -/
def p2_s1675 : ck_Sum := ((1, 0, 0), 245, [.inr (.inr (.inl 10)), .inr (.inr (.inl 77))], ([], [], []), ([(10, 3, 3), (11, 0, 167)], []), [(.inr none, 245, ([], [], []))])
set_option maxRecDepth 100000 in
theorem p2_s1675_e : ck_ok p2_O none [] [] 58 [] 114 p2_s1675 = true := by decide +kernel
theorem p2_s1675_s {X : Int → Int} {LX : Nat} : ck_Ok p2_O X LX 58 p2_s1675 := ck_ok_s ⟨p2_nmu, ck_E0⟩ ck_X0 ck_l0 p2_s1675_e
set_option maxRecDepth 100000 in
/-- GlacierMail$Rows.copyFrom -/
def p2_s1676 : ck_Sum := ((1, 0, 0), 245, [.inr (.inr (.inl 12)), .inr (.inr (.inl 79))], ([], [], []), ([(12, 3, 3), (13, 0, 35)], []), [(.inr none, 245, ([], [], []))])
set_option maxRecDepth 100000 in
theorem p2_s1676_e : ck_ok p2_O none [] [] 58 [] 114 p2_s1676 = true := by decide +kernel
theorem p2_s1676_s {X : Int → Int} {LX : Nat} : ck_Ok p2_O X LX 58 p2_s1676 := ck_ok_s ⟨p2_nmu, ck_E0⟩ ck_X0 ck_l0 p2_s1676_e
set_option maxRecDepth 100000 in
/-- GlacierMail$Rows.copyFrom -/
def p2_s1677 : ck_Sum := ((1, 0, 0), 245, [.inr (.inr (.inl 14)), .inr (.inr (.inl 81))], ([], [], []), ([(14, 3, 3), (15, 0, 71)], []), [(.inr none, 245, ([], [], []))])
set_option maxRecDepth 100000 in
theorem p2_s1677_e : ck_ok p2_O none [] [] 58 [] 114 p2_s1677 = true := by decide +kernel
theorem p2_s1677_s {X : Int → Int} {LX : Nat} : ck_Ok p2_O X LX 58 p2_s1677 := ck_ok_s ⟨p2_nmu, ck_E0⟩ ck_X0 ck_l0 p2_s1677_e
set_option maxRecDepth 100000 in
/-- GlacierMail$State.copyFrom -/
def p2_s1678 : ck_Sum := ((2, 0, 0), 245, [.inr (.inr (.inl 3)), .inr (.inr (.inl 70))], ([], [(3, 8, 0), (70, 8, 100070)], []), (zl1, [(3, 8)]), [(.inr none, 245, ([], [(3, 8, 100070)], []))])
set_option maxRecDepth 100000 in
theorem p2_s1678_e : ck_ok p2_O none [] [(58, [p2_s1672, p2_s1673, p2_s1674, p2_s1675, p2_s1676, p2_s1677])] 57 [] 204 p2_s1678 = true := by decide +kernel
theorem p2_s1678_s {X : Int → Int} {LX : Nat} : ck_Ok p2_O X LX 57 p2_s1678 := ck_ok_s ⟨p2_nmu, ck_E1 (ck_S1 p2_s1672_s (ck_S1 p2_s1673_s (ck_S1 p2_s1674_s (ck_S1 p2_s1675_s (ck_S1 p2_s1676_s (ck_S1 p2_s1677_s ck_S0)))))) ck_E0⟩ ck_X0 ck_l0 p2_s1678_e
set_option maxRecDepth 100000 in
/-- GlacierMail$Rows.copyFrom -/
def p2_s1679 : ck_Sum := ((1, 0, 0), 245, [.inr (.inr (.inl 4)), .inr (.inr (.inl 84))], ([], [], []), ([(4, 3, 3), (5, 0, 55)], []), [(.inr none, 245, ([], [], []))])
set_option maxRecDepth 100000 in
theorem p2_s1679_e : ck_ok p2_O none [] [] 58 [] 114 p2_s1679 = true := by decide +kernel
theorem p2_s1679_s {X : Int → Int} {LX : Nat} : ck_Ok p2_O X LX 58 p2_s1679 := ck_ok_s ⟨p2_nmu, ck_E0⟩ ck_X0 ck_l0 p2_s1679_e
set_option maxRecDepth 100000 in
/-- GlacierMail$Rows.copyFrom -/
def p2_s1680 : ck_Sum := ((1, 0, 0), 245, [.inr (.inr (.inl 6)), .inr (.inr (.inl 86))], ([], [], []), ([(6, 3, 3), (7, 0, 23)], []), [(.inr none, 245, ([], [], []))])
set_option maxRecDepth 100000 in
theorem p2_s1680_e : ck_ok p2_O none [] [] 58 [] 114 p2_s1680 = true := by decide +kernel
theorem p2_s1680_s {X : Int → Int} {LX : Nat} : ck_Ok p2_O X LX 58 p2_s1680 := ck_ok_s ⟨p2_nmu, ck_E0⟩ ck_X0 ck_l0 p2_s1680_e
set_option maxRecDepth 100000 in
/-- GlacierMail$Rows.copyFrom -/
def p2_s1681 : ck_Sum := ((1, 0, 0), 245, [.inr (.inr (.inl 8)), .inr (.inr (.inl 88))], ([], [], []), ([(8, 3, 3), (9, 0, 23)], []), [(.inr none, 245, ([], [], []))])
set_option maxRecDepth 100000 in
theorem p2_s1681_e : ck_ok p2_O none [] [] 58 [] 114 p2_s1681 = true := by decide +kernel
theorem p2_s1681_s {X : Int → Int} {LX : Nat} : ck_Ok p2_O X LX 58 p2_s1681 := ck_ok_s ⟨p2_nmu, ck_E0⟩ ck_X0 ck_l0 p2_s1681_e
set_option maxRecDepth 100000 in
/-- GlacierMail$Rows.copyFrom -/
def p2_s1682 : ck_Sum := ((1, 0, 0), 245, [.inr (.inr (.inl 10)), .inr (.inr (.inl 90))], ([], [], []), ([(10, 3, 3), (11, 0, 167)], []), [(.inr none, 245, ([], [], []))])
set_option maxRecDepth 100000 in
theorem p2_s1682_e : ck_ok p2_O none [] [] 58 [] 114 p2_s1682 = true := by decide +kernel
theorem p2_s1682_s {X : Int → Int} {LX : Nat} : ck_Ok p2_O X LX 58 p2_s1682 := ck_ok_s ⟨p2_nmu, ck_E0⟩ ck_X0 ck_l0 p2_s1682_e
set_option maxRecDepth 100000 in
/-- GlacierMail$Rows.copyFrom -/
def p2_s1683 : ck_Sum := ((1, 0, 0), 245, [.inr (.inr (.inl 12)), .inr (.inr (.inl 92))], ([], [], []), ([(12, 3, 3), (13, 0, 35)], []), [(.inr none, 245, ([], [], []))])
set_option maxRecDepth 100000 in
theorem p2_s1683_e : ck_ok p2_O none [] [] 58 [] 114 p2_s1683 = true := by decide +kernel
theorem p2_s1683_s {X : Int → Int} {LX : Nat} : ck_Ok p2_O X LX 58 p2_s1683 := ck_ok_s ⟨p2_nmu, ck_E0⟩ ck_X0 ck_l0 p2_s1683_e
set_option maxRecDepth 100000 in
/-- GlacierMail$Rows.copyFrom -/
def p2_s1684 : ck_Sum := ((1, 0, 0), 245, [.inr (.inr (.inl 14)), .inr (.inr (.inl 94))], ([], [], []), ([(14, 3, 3), (15, 0, 71)], []), [(.inr none, 245, ([], [], []))])
set_option maxRecDepth 100000 in
theorem p2_s1684_e : ck_ok p2_O none [] [] 58 [] 114 p2_s1684 = true := by decide +kernel
theorem p2_s1684_s {X : Int → Int} {LX : Nat} : ck_Ok p2_O X LX 58 p2_s1684 := ck_ok_s ⟨p2_nmu, ck_E0⟩ ck_X0 ck_l0 p2_s1684_e
set_option maxRecDepth 100000 in
/-- GlacierMail$State.copyFrom -/
def p2_s1685 : ck_Sum := ((2, 0, 0), 245, [.inr (.inr (.inl 3)), .inr (.inr (.inl 83))], ([], [(3, 8, 0), (83, 8, 100083)], []), (zl1, [(3, 8)]), [(.inr none, 245, ([], [(3, 8, 100083)], []))])
set_option maxRecDepth 100000 in
theorem p2_s1685_e : ck_ok p2_O none [] [(58, [p2_s1679, p2_s1680, p2_s1681, p2_s1682, p2_s1683, p2_s1684])] 57 [] 204 p2_s1685 = true := by decide +kernel
theorem p2_s1685_s {X : Int → Int} {LX : Nat} : ck_Ok p2_O X LX 57 p2_s1685 := ck_ok_s ⟨p2_nmu, ck_E1 (ck_S1 p2_s1679_s (ck_S1 p2_s1680_s (ck_S1 p2_s1681_s (ck_S1 p2_s1682_s (ck_S1 p2_s1683_s (ck_S1 p2_s1684_s ck_S0)))))) ck_E0⟩ ck_X0 ck_l0 p2_s1685_e
set_option maxRecDepth 100000 in
/-- GlacierMail$Rows.copyFrom -/
def p2_s1686 : ck_Sum := ((1, 0, 0), 245, [.inr (.inr (.inl 4)), .inr (.inr (.inl 97))], ([], [], []), ([(4, 3, 3), (5, 0, 55)], []), [(.inr none, 245, ([], [], []))])
set_option maxRecDepth 100000 in
theorem p2_s1686_e : ck_ok p2_O none [] [] 58 [] 114 p2_s1686 = true := by decide +kernel
theorem p2_s1686_s {X : Int → Int} {LX : Nat} : ck_Ok p2_O X LX 58 p2_s1686 := ck_ok_s ⟨p2_nmu, ck_E0⟩ ck_X0 ck_l0 p2_s1686_e
set_option maxRecDepth 100000 in
/-- GlacierMail$Rows.copyFrom -/
def p2_s1687 : ck_Sum := ((1, 0, 0), 245, [.inr (.inr (.inl 6)), .inr (.inr (.inl 99))], ([], [], []), ([(6, 3, 3), (7, 0, 23)], []), [(.inr none, 245, ([], [], []))])
set_option maxRecDepth 100000 in
theorem p2_s1687_e : ck_ok p2_O none [] [] 58 [] 114 p2_s1687 = true := by decide +kernel
theorem p2_s1687_s {X : Int → Int} {LX : Nat} : ck_Ok p2_O X LX 58 p2_s1687 := ck_ok_s ⟨p2_nmu, ck_E0⟩ ck_X0 ck_l0 p2_s1687_e
set_option maxRecDepth 100000 in
/-- GlacierMail$Rows.copyFrom -/
def p2_s1688 : ck_Sum := ((1, 0, 0), 245, [.inr (.inr (.inl 8)), .inr (.inr (.inl 101))], ([], [], []), ([(8, 3, 3), (9, 0, 23)], []), [(.inr none, 245, ([], [], []))])
set_option maxRecDepth 100000 in
theorem p2_s1688_e : ck_ok p2_O none [] [] 58 [] 114 p2_s1688 = true := by decide +kernel
theorem p2_s1688_s {X : Int → Int} {LX : Nat} : ck_Ok p2_O X LX 58 p2_s1688 := ck_ok_s ⟨p2_nmu, ck_E0⟩ ck_X0 ck_l0 p2_s1688_e
set_option maxRecDepth 100000 in
/-- GlacierMail$Rows.copyFrom -/
def p2_s1689 : ck_Sum := ((1, 0, 0), 245, [.inr (.inr (.inl 10)), .inr (.inr (.inl 103))], ([], [], []), ([(10, 3, 3), (11, 0, 167)], []), [(.inr none, 245, ([], [], []))])
set_option maxRecDepth 100000 in
theorem p2_s1689_e : ck_ok p2_O none [] [] 58 [] 114 p2_s1689 = true := by decide +kernel
theorem p2_s1689_s {X : Int → Int} {LX : Nat} : ck_Ok p2_O X LX 58 p2_s1689 := ck_ok_s ⟨p2_nmu, ck_E0⟩ ck_X0 ck_l0 p2_s1689_e
set_option maxRecDepth 100000 in
/-- GlacierMail$Rows.copyFrom -/
def p2_s1690 : ck_Sum := ((1, 0, 0), 245, [.inr (.inr (.inl 12)), .inr (.inr (.inl 105))], ([], [], []), ([(12, 3, 3), (13, 0, 35)], []), [(.inr none, 245, ([], [], []))])
set_option maxRecDepth 100000 in
theorem p2_s1690_e : ck_ok p2_O none [] [] 58 [] 114 p2_s1690 = true := by decide +kernel
theorem p2_s1690_s {X : Int → Int} {LX : Nat} : ck_Ok p2_O X LX 58 p2_s1690 := ck_ok_s ⟨p2_nmu, ck_E0⟩ ck_X0 ck_l0 p2_s1690_e
set_option maxRecDepth 100000 in
/-- GlacierMail$Rows.copyFrom -/
def p2_s1691 : ck_Sum := ((1, 0, 0), 245, [.inr (.inr (.inl 14)), .inr (.inr (.inl 107))], ([], [], []), ([(14, 3, 3), (15, 0, 71)], []), [(.inr none, 245, ([], [], []))])
set_option maxRecDepth 100000 in
theorem p2_s1691_e : ck_ok p2_O none [] [] 58 [] 114 p2_s1691 = true := by decide +kernel
theorem p2_s1691_s {X : Int → Int} {LX : Nat} : ck_Ok p2_O X LX 58 p2_s1691 := ck_ok_s ⟨p2_nmu, ck_E0⟩ ck_X0 ck_l0 p2_s1691_e
set_option maxRecDepth 100000 in
/-- GlacierMail$State.copyFrom -/
def p2_s1692 : ck_Sum := ((2, 0, 0), 245, [.inr (.inr (.inl 3)), .inr (.inr (.inl 96))], ([], [(3, 8, 0), (96, 8, 100096)], []), (zl1, [(3, 8)]), [(.inr none, 245, ([], [(3, 8, 100096)], []))])
set_option maxRecDepth 100000 in
theorem p2_s1692_e : ck_ok p2_O none [] [(58, [p2_s1686, p2_s1687, p2_s1688, p2_s1689, p2_s1690, p2_s1691])] 57 [] 204 p2_s1692 = true := by decide +kernel
theorem p2_s1692_s {X : Int → Int} {LX : Nat} : ck_Ok p2_O X LX 57 p2_s1692 := ck_ok_s ⟨p2_nmu, ck_E1 (ck_S1 p2_s1686_s (ck_S1 p2_s1687_s (ck_S1 p2_s1688_s (ck_S1 p2_s1689_s (ck_S1 p2_s1690_s (ck_S1 p2_s1691_s ck_S0)))))) ck_E0⟩ ck_X0 ck_l0 p2_s1692_e
set_option maxRecDepth 100000 in
/-- GlacierMail$Rows.copyFrom -/
def p2_s1693 : ck_Sum := ((1, 0, 0), 245, [.inr (.inr (.inl 4)), .inr (.inr (.inl 110))], ([], [], []), ([(4, 3, 3), (5, 0, 55)], []), [(.inr none, 245, ([], [], []))])
set_option maxRecDepth 100000 in
theorem p2_s1693_e : ck_ok p2_O none [] [] 58 [] 114 p2_s1693 = true := by decide +kernel
theorem p2_s1693_s {X : Int → Int} {LX : Nat} : ck_Ok p2_O X LX 58 p2_s1693 := ck_ok_s ⟨p2_nmu, ck_E0⟩ ck_X0 ck_l0 p2_s1693_e
set_option maxRecDepth 100000 in
/-- GlacierMail$Rows.copyFrom -/
def p2_s1694 : ck_Sum := ((1, 0, 0), 245, [.inr (.inr (.inl 6)), .inr (.inr (.inl 112))], ([], [], []), ([(6, 3, 3), (7, 0, 23)], []), [(.inr none, 245, ([], [], []))])
set_option maxRecDepth 100000 in
theorem p2_s1694_e : ck_ok p2_O none [] [] 58 [] 114 p2_s1694 = true := by decide +kernel
theorem p2_s1694_s {X : Int → Int} {LX : Nat} : ck_Ok p2_O X LX 58 p2_s1694 := ck_ok_s ⟨p2_nmu, ck_E0⟩ ck_X0 ck_l0 p2_s1694_e
set_option maxRecDepth 100000 in
/-- GlacierMail$Rows.copyFrom -/
def p2_s1695 : ck_Sum := ((1, 0, 0), 245, [.inr (.inr (.inl 8)), .inr (.inr (.inl 114))], ([], [], []), ([(8, 3, 3), (9, 0, 23)], []), [(.inr none, 245, ([], [], []))])
set_option maxRecDepth 100000 in
theorem p2_s1695_e : ck_ok p2_O none [] [] 58 [] 114 p2_s1695 = true := by decide +kernel
theorem p2_s1695_s {X : Int → Int} {LX : Nat} : ck_Ok p2_O X LX 58 p2_s1695 := ck_ok_s ⟨p2_nmu, ck_E0⟩ ck_X0 ck_l0 p2_s1695_e
set_option maxRecDepth 100000 in
/-- GlacierMail$Rows.copyFrom -/
def p2_s1696 : ck_Sum := ((1, 0, 0), 245, [.inr (.inr (.inl 10)), .inr (.inr (.inl 116))], ([], [], []), ([(10, 3, 3), (11, 0, 167)], []), [(.inr none, 245, ([], [], []))])
set_option maxRecDepth 100000 in
theorem p2_s1696_e : ck_ok p2_O none [] [] 58 [] 114 p2_s1696 = true := by decide +kernel
theorem p2_s1696_s {X : Int → Int} {LX : Nat} : ck_Ok p2_O X LX 58 p2_s1696 := ck_ok_s ⟨p2_nmu, ck_E0⟩ ck_X0 ck_l0 p2_s1696_e
set_option maxRecDepth 100000 in
/-- GlacierMail$Rows.copyFrom -/
def p2_s1697 : ck_Sum := ((1, 0, 0), 245, [.inr (.inr (.inl 12)), .inr (.inr (.inl 118))], ([], [], []), ([(12, 3, 3), (13, 0, 35)], []), [(.inr none, 245, ([], [], []))])
set_option maxRecDepth 100000 in
theorem p2_s1697_e : ck_ok p2_O none [] [] 58 [] 114 p2_s1697 = true := by decide +kernel
theorem p2_s1697_s {X : Int → Int} {LX : Nat} : ck_Ok p2_O X LX 58 p2_s1697 := ck_ok_s ⟨p2_nmu, ck_E0⟩ ck_X0 ck_l0 p2_s1697_e
set_option maxRecDepth 100000 in
/-- GlacierMail$Rows.copyFrom -/
def p2_s1698 : ck_Sum := ((1, 0, 0), 245, [.inr (.inr (.inl 14)), .inr (.inr (.inl 120))], ([], [], []), ([(14, 3, 3), (15, 0, 71)], []), [(.inr none, 245, ([], [], []))])
set_option maxRecDepth 100000 in
theorem p2_s1698_e : ck_ok p2_O none [] [] 58 [] 114 p2_s1698 = true := by decide +kernel
theorem p2_s1698_s {X : Int → Int} {LX : Nat} : ck_Ok p2_O X LX 58 p2_s1698 := ck_ok_s ⟨p2_nmu, ck_E0⟩ ck_X0 ck_l0 p2_s1698_e
set_option maxRecDepth 100000 in
/-- GlacierMail$State.copyFrom -/
def p2_s1699 : ck_Sum := ((2, 0, 0), 245, [.inr (.inr (.inl 3)), .inr (.inr (.inl 109))], ([], [(3, 8, 0), (109, 8, 100109)], []), (zl1, [(3, 8)]), [(.inr none, 245, ([], [(3, 8, 100109)], []))])
set_option maxRecDepth 100000 in
theorem p2_s1699_e : ck_ok p2_O none [] [(58, [p2_s1693, p2_s1694, p2_s1695, p2_s1696, p2_s1697, p2_s1698])] 57 [] 204 p2_s1699 = true := by decide +kernel
theorem p2_s1699_s {X : Int → Int} {LX : Nat} : ck_Ok p2_O X LX 57 p2_s1699 := ck_ok_s ⟨p2_nmu, ck_E1 (ck_S1 p2_s1693_s (ck_S1 p2_s1694_s (ck_S1 p2_s1695_s (ck_S1 p2_s1696_s (ck_S1 p2_s1697_s (ck_S1 p2_s1698_s ck_S0)))))) ck_E0⟩ ck_X0 ck_l0 p2_s1699_e
set_option maxRecDepth 100000 in
/-- GlacierMail$Rows.copyFrom -/
def p2_s1700 : ck_Sum := ((1, 0, 0), 245, [.inr (.inr (.inl 4)), .inr (.inr (.inl 123))], ([], [], []), ([(4, 3, 3), (5, 0, 55)], []), [(.inr none, 245, ([], [], []))])
set_option maxRecDepth 100000 in
theorem p2_s1700_e : ck_ok p2_O none [] [] 58 [] 114 p2_s1700 = true := by decide +kernel
theorem p2_s1700_s {X : Int → Int} {LX : Nat} : ck_Ok p2_O X LX 58 p2_s1700 := ck_ok_s ⟨p2_nmu, ck_E0⟩ ck_X0 ck_l0 p2_s1700_e
set_option maxRecDepth 100000 in
/-- GlacierMail$Rows.copyFrom -/
def p2_s1701 : ck_Sum := ((1, 0, 0), 245, [.inr (.inr (.inl 6)), .inr (.inr (.inl 125))], ([], [], []), ([(6, 3, 3), (7, 0, 23)], []), [(.inr none, 245, ([], [], []))])
set_option maxRecDepth 100000 in
theorem p2_s1701_e : ck_ok p2_O none [] [] 58 [] 114 p2_s1701 = true := by decide +kernel
theorem p2_s1701_s {X : Int → Int} {LX : Nat} : ck_Ok p2_O X LX 58 p2_s1701 := ck_ok_s ⟨p2_nmu, ck_E0⟩ ck_X0 ck_l0 p2_s1701_e
set_option maxRecDepth 100000 in
/-- GlacierMail$Rows.copyFrom -/
def p2_s1702 : ck_Sum := ((1, 0, 0), 245, [.inr (.inr (.inl 8)), .inr (.inr (.inl 127))], ([], [], []), ([(8, 3, 3), (9, 0, 23)], []), [(.inr none, 245, ([], [], []))])
set_option maxRecDepth 100000 in
theorem p2_s1702_e : ck_ok p2_O none [] [] 58 [] 114 p2_s1702 = true := by decide +kernel
theorem p2_s1702_s {X : Int → Int} {LX : Nat} : ck_Ok p2_O X LX 58 p2_s1702 := ck_ok_s ⟨p2_nmu, ck_E0⟩ ck_X0 ck_l0 p2_s1702_e
set_option maxRecDepth 100000 in
/-- GlacierMail$Rows.copyFrom -/
def p2_s1703 : ck_Sum := ((1, 0, 0), 245, [.inr (.inr (.inl 10)), .inr (.inr (.inl 129))], ([], [], []), ([(10, 3, 3), (11, 0, 167)], []), [(.inr none, 245, ([], [], []))])
set_option maxRecDepth 100000 in
theorem p2_s1703_e : ck_ok p2_O none [] [] 58 [] 114 p2_s1703 = true := by decide +kernel
theorem p2_s1703_s {X : Int → Int} {LX : Nat} : ck_Ok p2_O X LX 58 p2_s1703 := ck_ok_s ⟨p2_nmu, ck_E0⟩ ck_X0 ck_l0 p2_s1703_e
set_option maxRecDepth 100000 in
/-- GlacierMail$Rows.copyFrom -/
def p2_s1704 : ck_Sum := ((1, 0, 0), 245, [.inr (.inr (.inl 12)), .inr (.inr (.inl 131))], ([], [], []), ([(12, 3, 3), (13, 0, 35)], []), [(.inr none, 245, ([], [], []))])
set_option maxRecDepth 100000 in
theorem p2_s1704_e : ck_ok p2_O none [] [] 58 [] 114 p2_s1704 = true := by decide +kernel
theorem p2_s1704_s {X : Int → Int} {LX : Nat} : ck_Ok p2_O X LX 58 p2_s1704 := ck_ok_s ⟨p2_nmu, ck_E0⟩ ck_X0 ck_l0 p2_s1704_e
set_option maxRecDepth 100000 in
/-- GlacierMail$Rows.copyFrom -/
def p2_s1705 : ck_Sum := ((1, 0, 0), 245, [.inr (.inr (.inl 14)), .inr (.inr (.inl 133))], ([], [], []), ([(14, 3, 3), (15, 0, 71)], []), [(.inr none, 245, ([], [], []))])
set_option maxRecDepth 100000 in
theorem p2_s1705_e : ck_ok p2_O none [] [] 58 [] 114 p2_s1705 = true := by decide +kernel
theorem p2_s1705_s {X : Int → Int} {LX : Nat} : ck_Ok p2_O X LX 58 p2_s1705 := ck_ok_s ⟨p2_nmu, ck_E0⟩ ck_X0 ck_l0 p2_s1705_e
set_option maxRecDepth 100000 in
/-- GlacierMail$State.copyFrom -/
def p2_s1706 : ck_Sum := ((2, 0, 0), 245, [.inr (.inr (.inl 3)), .inr (.inr (.inl 122))], ([], [(3, 8, 0), (122, 8, 100122)], []), (zl1, [(3, 8)]), [(.inr none, 245, ([], [(3, 8, 100122)], []))])
set_option maxRecDepth 100000 in
theorem p2_s1706_e : ck_ok p2_O none [] [(58, [p2_s1700, p2_s1701, p2_s1702, p2_s1703, p2_s1704, p2_s1705])] 57 [] 204 p2_s1706 = true := by decide +kernel
theorem p2_s1706_s {X : Int → Int} {LX : Nat} : ck_Ok p2_O X LX 57 p2_s1706 := ck_ok_s ⟨p2_nmu, ck_E1 (ck_S1 p2_s1700_s (ck_S1 p2_s1701_s (ck_S1 p2_s1702_s (ck_S1 p2_s1703_s (ck_S1 p2_s1704_s (ck_S1 p2_s1705_s ck_S0)))))) ck_E0⟩ ck_X0 ck_l0 p2_s1706_e
set_option maxRecDepth 100000 in
/-- GlacierMail$Rows.copyFrom -/
def p2_s1707 : ck_Sum := ((1, 0, 0), 245, [.inr (.inr (.inl 4)), .inr (.inr (.inl 136))], ([], [], []), ([(4, 3, 3), (5, 0, 55)], []), [(.inr none, 245, ([], [], []))])
set_option maxRecDepth 100000 in
theorem p2_s1707_e : ck_ok p2_O none [] [] 58 [] 114 p2_s1707 = true := by decide +kernel
theorem p2_s1707_s {X : Int → Int} {LX : Nat} : ck_Ok p2_O X LX 58 p2_s1707 := ck_ok_s ⟨p2_nmu, ck_E0⟩ ck_X0 ck_l0 p2_s1707_e
set_option maxRecDepth 100000 in
/-- GlacierMail$Rows.copyFrom -/
def p2_s1708 : ck_Sum := ((1, 0, 0), 245, [.inr (.inr (.inl 6)), .inr (.inr (.inl 138))], ([], [], []), ([(6, 3, 3), (7, 0, 23)], []), [(.inr none, 245, ([], [], []))])
set_option maxRecDepth 100000 in
theorem p2_s1708_e : ck_ok p2_O none [] [] 58 [] 114 p2_s1708 = true := by decide +kernel
theorem p2_s1708_s {X : Int → Int} {LX : Nat} : ck_Ok p2_O X LX 58 p2_s1708 := ck_ok_s ⟨p2_nmu, ck_E0⟩ ck_X0 ck_l0 p2_s1708_e
set_option maxRecDepth 100000 in
/-- GlacierMail$Rows.copyFrom -/
def p2_s1709 : ck_Sum := ((1, 0, 0), 245, [.inr (.inr (.inl 8)), .inr (.inr (.inl 140))], ([], [], []), ([(8, 3, 3), (9, 0, 23)], []), [(.inr none, 245, ([], [], []))])
set_option maxRecDepth 100000 in
theorem p2_s1709_e : ck_ok p2_O none [] [] 58 [] 114 p2_s1709 = true := by decide +kernel
theorem p2_s1709_s {X : Int → Int} {LX : Nat} : ck_Ok p2_O X LX 58 p2_s1709 := ck_ok_s ⟨p2_nmu, ck_E0⟩ ck_X0 ck_l0 p2_s1709_e
set_option maxRecDepth 100000 in
/-- GlacierMail$Rows.copyFrom -/
def p2_s1710 : ck_Sum := ((1, 0, 0), 245, [.inr (.inr (.inl 10)), .inr (.inr (.inl 142))], ([], [], []), ([(10, 3, 3), (11, 0, 167)], []), [(.inr none, 245, ([], [], []))])
set_option maxRecDepth 100000 in
theorem p2_s1710_e : ck_ok p2_O none [] [] 58 [] 114 p2_s1710 = true := by decide +kernel
theorem p2_s1710_s {X : Int → Int} {LX : Nat} : ck_Ok p2_O X LX 58 p2_s1710 := ck_ok_s ⟨p2_nmu, ck_E0⟩ ck_X0 ck_l0 p2_s1710_e
set_option maxRecDepth 100000 in
/-- GlacierMail$Rows.copyFrom -/
def p2_s1711 : ck_Sum := ((1, 0, 0), 245, [.inr (.inr (.inl 12)), .inr (.inr (.inl 144))], ([], [], []), ([(12, 3, 3), (13, 0, 35)], []), [(.inr none, 245, ([], [], []))])
set_option maxRecDepth 100000 in
theorem p2_s1711_e : ck_ok p2_O none [] [] 58 [] 114 p2_s1711 = true := by decide +kernel
theorem p2_s1711_s {X : Int → Int} {LX : Nat} : ck_Ok p2_O X LX 58 p2_s1711 := ck_ok_s ⟨p2_nmu, ck_E0⟩ ck_X0 ck_l0 p2_s1711_e
set_option maxRecDepth 100000 in
/-- GlacierMail$Rows.copyFrom -/
def p2_s1712 : ck_Sum := ((1, 0, 0), 245, [.inr (.inr (.inl 14)), .inr (.inr (.inl 146))], ([], [], []), ([(14, 3, 3), (15, 0, 71)], []), [(.inr none, 245, ([], [], []))])
set_option maxRecDepth 100000 in
theorem p2_s1712_e : ck_ok p2_O none [] [] 58 [] 114 p2_s1712 = true := by decide +kernel
theorem p2_s1712_s {X : Int → Int} {LX : Nat} : ck_Ok p2_O X LX 58 p2_s1712 := ck_ok_s ⟨p2_nmu, ck_E0⟩ ck_X0 ck_l0 p2_s1712_e
set_option maxRecDepth 100000 in
/-- GlacierMail$State.copyFrom -/
def p2_s1713 : ck_Sum := ((2, 0, 0), 245, [.inr (.inr (.inl 3)), .inr (.inr (.inl 135))], ([], [(3, 8, 0), (135, 8, 100135)], []), (zl1, [(3, 8)]), [(.inr none, 245, ([], [(3, 8, 100135)], []))])
set_option maxRecDepth 100000 in
theorem p2_s1713_e : ck_ok p2_O none [] [(58, [p2_s1707, p2_s1708, p2_s1709, p2_s1710, p2_s1711, p2_s1712])] 57 [] 204 p2_s1713 = true := by decide +kernel
theorem p2_s1713_s {X : Int → Int} {LX : Nat} : ck_Ok p2_O X LX 57 p2_s1713 := ck_ok_s ⟨p2_nmu, ck_E1 (ck_S1 p2_s1707_s (ck_S1 p2_s1708_s (ck_S1 p2_s1709_s (ck_S1 p2_s1710_s (ck_S1 p2_s1711_s (ck_S1 p2_s1712_s ck_S0)))))) ck_E0⟩ ck_X0 ck_l0 p2_s1713_e
set_option maxRecDepth 100000 in
/-- GlacierMail$Rows.copyFrom -/
def p2_s1714 : ck_Sum := ((1, 0, 0), 245, [.inr (.inr (.inl 4)), .inr (.inr (.inl 149))], ([], [], []), ([(4, 3, 3), (5, 0, 55)], []), [(.inr none, 245, ([], [], []))])
set_option maxRecDepth 100000 in
theorem p2_s1714_e : ck_ok p2_O none [] [] 58 [] 114 p2_s1714 = true := by decide +kernel
theorem p2_s1714_s {X : Int → Int} {LX : Nat} : ck_Ok p2_O X LX 58 p2_s1714 := ck_ok_s ⟨p2_nmu, ck_E0⟩ ck_X0 ck_l0 p2_s1714_e
set_option maxRecDepth 100000 in
/-- GlacierMail$Rows.copyFrom -/
def p2_s1715 : ck_Sum := ((1, 0, 0), 245, [.inr (.inr (.inl 6)), .inr (.inr (.inl 151))], ([], [], []), ([(6, 3, 3), (7, 0, 23)], []), [(.inr none, 245, ([], [], []))])
set_option maxRecDepth 100000 in
theorem p2_s1715_e : ck_ok p2_O none [] [] 58 [] 114 p2_s1715 = true := by decide +kernel
theorem p2_s1715_s {X : Int → Int} {LX : Nat} : ck_Ok p2_O X LX 58 p2_s1715 := ck_ok_s ⟨p2_nmu, ck_E0⟩ ck_X0 ck_l0 p2_s1715_e
set_option maxRecDepth 100000 in
/-- GlacierMail$Rows.copyFrom -/
def p2_s1716 : ck_Sum := ((1, 0, 0), 245, [.inr (.inr (.inl 8)), .inr (.inr (.inl 153))], ([], [], []), ([(8, 3, 3), (9, 0, 23)], []), [(.inr none, 245, ([], [], []))])
set_option maxRecDepth 100000 in
theorem p2_s1716_e : ck_ok p2_O none [] [] 58 [] 114 p2_s1716 = true := by decide +kernel
theorem p2_s1716_s {X : Int → Int} {LX : Nat} : ck_Ok p2_O X LX 58 p2_s1716 := ck_ok_s ⟨p2_nmu, ck_E0⟩ ck_X0 ck_l0 p2_s1716_e
set_option maxRecDepth 100000 in
/-- GlacierMail$Rows.copyFrom -/
def p2_s1717 : ck_Sum := ((1, 0, 0), 245, [.inr (.inr (.inl 10)), .inr (.inr (.inl 155))], ([], [], []), ([(10, 3, 3), (11, 0, 167)], []), [(.inr none, 245, ([], [], []))])
set_option maxRecDepth 100000 in
theorem p2_s1717_e : ck_ok p2_O none [] [] 58 [] 114 p2_s1717 = true := by decide +kernel
theorem p2_s1717_s {X : Int → Int} {LX : Nat} : ck_Ok p2_O X LX 58 p2_s1717 := ck_ok_s ⟨p2_nmu, ck_E0⟩ ck_X0 ck_l0 p2_s1717_e
set_option maxRecDepth 100000 in
/-- GlacierMail$Rows.copyFrom -/
def p2_s1718 : ck_Sum := ((1, 0, 0), 245, [.inr (.inr (.inl 12)), .inr (.inr (.inl 157))], ([], [], []), ([(12, 3, 3), (13, 0, 35)], []), [(.inr none, 245, ([], [], []))])
set_option maxRecDepth 100000 in
theorem p2_s1718_e : ck_ok p2_O none [] [] 58 [] 114 p2_s1718 = true := by decide +kernel
theorem p2_s1718_s {X : Int → Int} {LX : Nat} : ck_Ok p2_O X LX 58 p2_s1718 := ck_ok_s ⟨p2_nmu, ck_E0⟩ ck_X0 ck_l0 p2_s1718_e
set_option maxRecDepth 100000 in
/-- GlacierMail$Rows.copyFrom -/
def p2_s1719 : ck_Sum := ((1, 0, 0), 245, [.inr (.inr (.inl 14)), .inr (.inr (.inl 159))], ([], [], []), ([(14, 3, 3), (15, 0, 71)], []), [(.inr none, 245, ([], [], []))])
set_option maxRecDepth 100000 in
theorem p2_s1719_e : ck_ok p2_O none [] [] 58 [] 114 p2_s1719 = true := by decide +kernel
theorem p2_s1719_s {X : Int → Int} {LX : Nat} : ck_Ok p2_O X LX 58 p2_s1719 := ck_ok_s ⟨p2_nmu, ck_E0⟩ ck_X0 ck_l0 p2_s1719_e
set_option maxRecDepth 100000 in
/-- GlacierMail$State.copyFrom -/
def p2_s1720 : ck_Sum := ((2, 0, 0), 245, [.inr (.inr (.inl 3)), .inr (.inr (.inl 148))], ([], [(3, 8, 0), (148, 8, 100148)], []), (zl1, [(3, 8)]), [(.inr none, 245, ([], [(3, 8, 100148)], []))])
set_option maxRecDepth 100000 in
theorem p2_s1720_e : ck_ok p2_O none [] [(58, [p2_s1714, p2_s1715, p2_s1716, p2_s1717, p2_s1718, p2_s1719])] 57 [] 204 p2_s1720 = true := by decide +kernel
theorem p2_s1720_s {X : Int → Int} {LX : Nat} : ck_Ok p2_O X LX 57 p2_s1720 := ck_ok_s ⟨p2_nmu, ck_E1 (ck_S1 p2_s1714_s (ck_S1 p2_s1715_s (ck_S1 p2_s1716_s (ck_S1 p2_s1717_s (ck_S1 p2_s1718_s (ck_S1 p2_s1719_s ck_S0)))))) ck_E0⟩ ck_X0 ck_l0 p2_s1720_e
set_option maxRecDepth 100000 in
/-- GlacierMail$Rows.copyFrom -/
def p2_s1721 : ck_Sum := ((1, 0, 0), 245, [.inr (.inr (.inl 4)), .inr (.inr (.inl 162))], ([], [], []), ([(4, 3, 3), (5, 0, 55)], []), [(.inr none, 245, ([], [], []))])
set_option maxRecDepth 100000 in
theorem p2_s1721_e : ck_ok p2_O none [] [] 58 [] 114 p2_s1721 = true := by decide +kernel
theorem p2_s1721_s {X : Int → Int} {LX : Nat} : ck_Ok p2_O X LX 58 p2_s1721 := ck_ok_s ⟨p2_nmu, ck_E0⟩ ck_X0 ck_l0 p2_s1721_e
set_option maxRecDepth 100000 in
/-- GlacierMail$Rows.copyFrom -/
def p2_s1722 : ck_Sum := ((1, 0, 0), 245, [.inr (.inr (.inl 6)), .inr (.inr (.inl 164))], ([], [], []), ([(6, 3, 3), (7, 0, 23)], []), [(.inr none, 245, ([], [], []))])
set_option maxRecDepth 100000 in
theorem p2_s1722_e : ck_ok p2_O none [] [] 58 [] 114 p2_s1722 = true := by decide +kernel
theorem p2_s1722_s {X : Int → Int} {LX : Nat} : ck_Ok p2_O X LX 58 p2_s1722 := ck_ok_s ⟨p2_nmu, ck_E0⟩ ck_X0 ck_l0 p2_s1722_e
set_option maxRecDepth 100000 in
/-- GlacierMail$Rows.copyFrom -/
def p2_s1723 : ck_Sum := ((1, 0, 0), 245, [.inr (.inr (.inl 8)), .inr (.inr (.inl 166))], ([], [], []), ([(8, 3, 3), (9, 0, 23)], []), [(.inr none, 245, ([], [], []))])
set_option maxRecDepth 100000 in
theorem p2_s1723_e : ck_ok p2_O none [] [] 58 [] 114 p2_s1723 = true := by decide +kernel
theorem p2_s1723_s {X : Int → Int} {LX : Nat} : ck_Ok p2_O X LX 58 p2_s1723 := ck_ok_s ⟨p2_nmu, ck_E0⟩ ck_X0 ck_l0 p2_s1723_e
set_option maxRecDepth 100000 in
/-- GlacierMail$Rows.copyFrom -/
def p2_s1724 : ck_Sum := ((1, 0, 0), 245, [.inr (.inr (.inl 10)), .inr (.inr (.inl 168))], ([], [], []), ([(10, 3, 3), (11, 0, 167)], []), [(.inr none, 245, ([], [], []))])
set_option maxRecDepth 100000 in
theorem p2_s1724_e : ck_ok p2_O none [] [] 58 [] 114 p2_s1724 = true := by decide +kernel
theorem p2_s1724_s {X : Int → Int} {LX : Nat} : ck_Ok p2_O X LX 58 p2_s1724 := ck_ok_s ⟨p2_nmu, ck_E0⟩ ck_X0 ck_l0 p2_s1724_e
set_option maxRecDepth 100000 in
/-- GlacierMail$Rows.copyFrom -/
def p2_s1725 : ck_Sum := ((1, 0, 0), 245, [.inr (.inr (.inl 12)), .inr (.inr (.inl 170))], ([], [], []), ([(12, 3, 3), (13, 0, 35)], []), [(.inr none, 245, ([], [], []))])
set_option maxRecDepth 100000 in
theorem p2_s1725_e : ck_ok p2_O none [] [] 58 [] 114 p2_s1725 = true := by decide +kernel
theorem p2_s1725_s {X : Int → Int} {LX : Nat} : ck_Ok p2_O X LX 58 p2_s1725 := ck_ok_s ⟨p2_nmu, ck_E0⟩ ck_X0 ck_l0 p2_s1725_e
set_option maxRecDepth 100000 in
/-- GlacierMail$Rows.copyFrom -/
def p2_s1726 : ck_Sum := ((1, 0, 0), 245, [.inr (.inr (.inl 14)), .inr (.inr (.inl 172))], ([], [], []), ([(14, 3, 3), (15, 0, 71)], []), [(.inr none, 245, ([], [], []))])
set_option maxRecDepth 100000 in
theorem p2_s1726_e : ck_ok p2_O none [] [] 58 [] 114 p2_s1726 = true := by decide +kernel
theorem p2_s1726_s {X : Int → Int} {LX : Nat} : ck_Ok p2_O X LX 58 p2_s1726 := ck_ok_s ⟨p2_nmu, ck_E0⟩ ck_X0 ck_l0 p2_s1726_e
set_option maxRecDepth 100000 in
/-- GlacierMail$State.copyFrom -/
def p2_s1727 : ck_Sum := ((2, 0, 0), 245, [.inr (.inr (.inl 3)), .inr (.inr (.inl 161))], ([], [(3, 8, 0), (161, 8, 100161)], []), (zl1, [(3, 8)]), [(.inr none, 245, ([], [(3, 8, 100161)], []))])
set_option maxRecDepth 100000 in
theorem p2_s1727_e : ck_ok p2_O none [] [(58, [p2_s1721, p2_s1722, p2_s1723, p2_s1724, p2_s1725, p2_s1726])] 57 [] 204 p2_s1727 = true := by decide +kernel
theorem p2_s1727_s {X : Int → Int} {LX : Nat} : ck_Ok p2_O X LX 57 p2_s1727 := ck_ok_s ⟨p2_nmu, ck_E1 (ck_S1 p2_s1721_s (ck_S1 p2_s1722_s (ck_S1 p2_s1723_s (ck_S1 p2_s1724_s (ck_S1 p2_s1725_s (ck_S1 p2_s1726_s ck_S0)))))) ck_E0⟩ ck_X0 ck_l0 p2_s1727_e
set_option maxRecDepth 100000 in
/-- GlacierMail$Rows.copyFrom -/
def p2_s1728 : ck_Sum := ((1, 0, 0), 245, [.inr (.inr (.inl 4)), .inr (.inr (.inl 175))], ([], [], []), ([(4, 3, 3), (5, 0, 55)], []), [(.inr none, 245, ([], [], []))])
set_option maxRecDepth 100000 in
theorem p2_s1728_e : ck_ok p2_O none [] [] 58 [] 114 p2_s1728 = true := by decide +kernel
theorem p2_s1728_s {X : Int → Int} {LX : Nat} : ck_Ok p2_O X LX 58 p2_s1728 := ck_ok_s ⟨p2_nmu, ck_E0⟩ ck_X0 ck_l0 p2_s1728_e
set_option maxRecDepth 100000 in
/-- GlacierMail$Rows.copyFrom -/
def p2_s1729 : ck_Sum := ((1, 0, 0), 245, [.inr (.inr (.inl 6)), .inr (.inr (.inl 177))], ([], [], []), ([(6, 3, 3), (7, 0, 23)], []), [(.inr none, 245, ([], [], []))])
set_option maxRecDepth 100000 in
theorem p2_s1729_e : ck_ok p2_O none [] [] 58 [] 114 p2_s1729 = true := by decide +kernel
theorem p2_s1729_s {X : Int → Int} {LX : Nat} : ck_Ok p2_O X LX 58 p2_s1729 := ck_ok_s ⟨p2_nmu, ck_E0⟩ ck_X0 ck_l0 p2_s1729_e
set_option maxRecDepth 100000 in
/-- GlacierMail$Rows.copyFrom -/
def p2_s1730 : ck_Sum := ((1, 0, 0), 245, [.inr (.inr (.inl 8)), .inr (.inr (.inl 179))], ([], [], []), ([(8, 3, 3), (9, 0, 23)], []), [(.inr none, 245, ([], [], []))])
set_option maxRecDepth 100000 in
theorem p2_s1730_e : ck_ok p2_O none [] [] 58 [] 114 p2_s1730 = true := by decide +kernel
theorem p2_s1730_s {X : Int → Int} {LX : Nat} : ck_Ok p2_O X LX 58 p2_s1730 := ck_ok_s ⟨p2_nmu, ck_E0⟩ ck_X0 ck_l0 p2_s1730_e
set_option maxRecDepth 100000 in
/-- GlacierMail$Rows.copyFrom -/
def p2_s1731 : ck_Sum := ((1, 0, 0), 245, [.inr (.inr (.inl 10)), .inr (.inr (.inl 181))], ([], [], []), ([(10, 3, 3), (11, 0, 167)], []), [(.inr none, 245, ([], [], []))])
set_option maxRecDepth 100000 in
theorem p2_s1731_e : ck_ok p2_O none [] [] 58 [] 114 p2_s1731 = true := by decide +kernel
theorem p2_s1731_s {X : Int → Int} {LX : Nat} : ck_Ok p2_O X LX 58 p2_s1731 := ck_ok_s ⟨p2_nmu, ck_E0⟩ ck_X0 ck_l0 p2_s1731_e
set_option maxRecDepth 100000 in
/-- GlacierMail$Rows.copyFrom -/
def p2_s1732 : ck_Sum := ((1, 0, 0), 245, [.inr (.inr (.inl 12)), .inr (.inr (.inl 183))], ([], [], []), ([(12, 3, 3), (13, 0, 35)], []), [(.inr none, 245, ([], [], []))])
set_option maxRecDepth 100000 in
theorem p2_s1732_e : ck_ok p2_O none [] [] 58 [] 114 p2_s1732 = true := by decide +kernel
theorem p2_s1732_s {X : Int → Int} {LX : Nat} : ck_Ok p2_O X LX 58 p2_s1732 := ck_ok_s ⟨p2_nmu, ck_E0⟩ ck_X0 ck_l0 p2_s1732_e
set_option maxRecDepth 100000 in
/-- GlacierMail$Rows.copyFrom -/
def p2_s1733 : ck_Sum := ((1, 0, 0), 245, [.inr (.inr (.inl 14)), .inr (.inr (.inl 185))], ([], [], []), ([(14, 3, 3), (15, 0, 71)], []), [(.inr none, 245, ([], [], []))])
set_option maxRecDepth 100000 in
theorem p2_s1733_e : ck_ok p2_O none [] [] 58 [] 114 p2_s1733 = true := by decide +kernel
theorem p2_s1733_s {X : Int → Int} {LX : Nat} : ck_Ok p2_O X LX 58 p2_s1733 := ck_ok_s ⟨p2_nmu, ck_E0⟩ ck_X0 ck_l0 p2_s1733_e
set_option maxRecDepth 100000 in
/-- GlacierMail$State.copyFrom -/
def p2_s1734 : ck_Sum := ((2, 0, 0), 245, [.inr (.inr (.inl 3)), .inr (.inr (.inl 174))], ([], [(3, 8, 0), (174, 8, 100174)], []), (zl1, [(3, 8)]), [(.inr none, 245, ([], [(3, 8, 100174)], []))])
set_option maxRecDepth 100000 in
theorem p2_s1734_e : ck_ok p2_O none [] [(58, [p2_s1728, p2_s1729, p2_s1730, p2_s1731, p2_s1732, p2_s1733])] 57 [] 204 p2_s1734 = true := by decide +kernel
theorem p2_s1734_s {X : Int → Int} {LX : Nat} : ck_Ok p2_O X LX 57 p2_s1734 := ck_ok_s ⟨p2_nmu, ck_E1 (ck_S1 p2_s1728_s (ck_S1 p2_s1729_s (ck_S1 p2_s1730_s (ck_S1 p2_s1731_s (ck_S1 p2_s1732_s (ck_S1 p2_s1733_s ck_S0)))))) ck_E0⟩ ck_X0 ck_l0 p2_s1734_e
set_option maxRecDepth 100000 in
/-- GlacierMail$Rows.copyFrom -/
def p2_s1735 : ck_Sum := ((1, 0, 0), 245, [.inr (.inr (.inl 4)), .inr (.inr (.inl 188))], ([], [], []), ([(4, 3, 3), (5, 0, 55)], []), [(.inr none, 245, ([], [], []))])
set_option maxRecDepth 100000 in
theorem p2_s1735_e : ck_ok p2_O none [] [] 58 [] 114 p2_s1735 = true := by decide +kernel
theorem p2_s1735_s {X : Int → Int} {LX : Nat} : ck_Ok p2_O X LX 58 p2_s1735 := ck_ok_s ⟨p2_nmu, ck_E0⟩ ck_X0 ck_l0 p2_s1735_e
set_option maxRecDepth 100000 in
/-- GlacierMail$Rows.copyFrom -/
def p2_s1736 : ck_Sum := ((1, 0, 0), 245, [.inr (.inr (.inl 6)), .inr (.inr (.inl 190))], ([], [], []), ([(6, 3, 3), (7, 0, 23)], []), [(.inr none, 245, ([], [], []))])
set_option maxRecDepth 100000 in
theorem p2_s1736_e : ck_ok p2_O none [] [] 58 [] 114 p2_s1736 = true := by decide +kernel
theorem p2_s1736_s {X : Int → Int} {LX : Nat} : ck_Ok p2_O X LX 58 p2_s1736 := ck_ok_s ⟨p2_nmu, ck_E0⟩ ck_X0 ck_l0 p2_s1736_e
set_option maxRecDepth 100000 in
/-- GlacierMail$Rows.copyFrom -/
def p2_s1737 : ck_Sum := ((1, 0, 0), 245, [.inr (.inr (.inl 8)), .inr (.inr (.inl 192))], ([], [], []), ([(8, 3, 3), (9, 0, 23)], []), [(.inr none, 245, ([], [], []))])
set_option maxRecDepth 100000 in
theorem p2_s1737_e : ck_ok p2_O none [] [] 58 [] 114 p2_s1737 = true := by decide +kernel
theorem p2_s1737_s {X : Int → Int} {LX : Nat} : ck_Ok p2_O X LX 58 p2_s1737 := ck_ok_s ⟨p2_nmu, ck_E0⟩ ck_X0 ck_l0 p2_s1737_e
set_option maxRecDepth 100000 in
/-- GlacierMail$Rows.copyFrom -/
def p2_s1738 : ck_Sum := ((1, 0, 0), 245, [.inr (.inr (.inl 10)), .inr (.inr (.inl 194))], ([], [], []), ([(10, 3, 3), (11, 0, 167)], []), [(.inr none, 245, ([], [], []))])
set_option maxRecDepth 100000 in
theorem p2_s1738_e : ck_ok p2_O none [] [] 58 [] 114 p2_s1738 = true := by decide +kernel
theorem p2_s1738_s {X : Int → Int} {LX : Nat} : ck_Ok p2_O X LX 58 p2_s1738 := ck_ok_s ⟨p2_nmu, ck_E0⟩ ck_X0 ck_l0 p2_s1738_e
set_option maxRecDepth 100000 in
/-- GlacierMail$Rows.copyFrom -/
def p2_s1739 : ck_Sum := ((1, 0, 0), 245, [.inr (.inr (.inl 12)), .inr (.inr (.inl 196))], ([], [], []), ([(12, 3, 3), (13, 0, 35)], []), [(.inr none, 245, ([], [], []))])
set_option maxRecDepth 100000 in
theorem p2_s1739_e : ck_ok p2_O none [] [] 58 [] 114 p2_s1739 = true := by decide +kernel
theorem p2_s1739_s {X : Int → Int} {LX : Nat} : ck_Ok p2_O X LX 58 p2_s1739 := ck_ok_s ⟨p2_nmu, ck_E0⟩ ck_X0 ck_l0 p2_s1739_e
set_option maxRecDepth 100000 in
/-- GlacierMail$Rows.copyFrom -/
def p2_s1740 : ck_Sum := ((1, 0, 0), 245, [.inr (.inr (.inl 14)), .inr (.inr (.inl 198))], ([], [], []), ([(14, 3, 3), (15, 0, 71)], []), [(.inr none, 245, ([], [], []))])
set_option maxRecDepth 100000 in
theorem p2_s1740_e : ck_ok p2_O none [] [] 58 [] 114 p2_s1740 = true := by decide +kernel
theorem p2_s1740_s {X : Int → Int} {LX : Nat} : ck_Ok p2_O X LX 58 p2_s1740 := ck_ok_s ⟨p2_nmu, ck_E0⟩ ck_X0 ck_l0 p2_s1740_e
set_option maxRecDepth 100000 in
/-- GlacierMail$State.copyFrom -/
def p2_s1741 : ck_Sum := ((2, 0, 0), 245, [.inr (.inr (.inl 3)), .inr (.inr (.inl 187))], ([], [(3, 8, 0), (187, 8, 100187)], []), (zl1, [(3, 8)]), [(.inr none, 245, ([], [(3, 8, 100187)], []))])
set_option maxRecDepth 100000 in
theorem p2_s1741_e : ck_ok p2_O none [] [(58, [p2_s1735, p2_s1736, p2_s1737, p2_s1738, p2_s1739, p2_s1740])] 57 [] 204 p2_s1741 = true := by decide +kernel
theorem p2_s1741_s {X : Int → Int} {LX : Nat} : ck_Ok p2_O X LX 57 p2_s1741 := ck_ok_s ⟨p2_nmu, ck_E1 (ck_S1 p2_s1735_s (ck_S1 p2_s1736_s (ck_S1 p2_s1737_s (ck_S1 p2_s1738_s (ck_S1 p2_s1739_s (ck_S1 p2_s1740_s ck_S0)))))) ck_E0⟩ ck_X0 ck_l0 p2_s1741_e
set_option maxRecDepth 100000 in
/-- GlacierMail$History.takeBack -/
def p2_s1742 : ck_Sum := ((3, 0, 0), 245, [.inr (.inr (.inl 42)), .inr (.inr (.inl 3))], ([], zl102, []), (zl208, [(3, 8)]), [(.inr (some (.inl (ck_one 1))), 245, ([], [(3, 8, 100044)], zl209)), (.inr (some (.inl (ck_one 1))), 245, ([], [(3, 8, 100057)], zl209)), (.inr (some (.inl (ck_one 1))), 245, ([], [(3, 8, 100070)], zl209)), (.inr (some (.inl (ck_one 1))), 245, ([], [(3, 8, 100083)], zl209)), (.inr (some (.inl (ck_one 1))), 245, ([], [(3, 8, 100096)], zl209)), (.inr (some (.inl (ck_one 1))), 245, ([], [(3, 8, 100109)], zl209)), (.inr (some (.inl (ck_one 1))), 245, ([], [(3, 8, 100122)], zl209)), (.inr (some (.inl (ck_one 1))), 245, ([], [(3, 8, 100135)], zl209)), (.inr (some (.inl (ck_one 1))), 245, ([], [(3, 8, 100148)], zl209)), (.inr (some (.inl (ck_one 1))), 245, ([], [(3, 8, 100161)], zl209)), (.inr (some (.inl (ck_one 1))), 245, ([], [(3, 8, 100174)], zl209)), (.inr (some (.inl (ck_one 1))), 245, ([], [(3, 8, 100187)], zl209)), (.inr (some (.inl (ck_one 0))), 245, ([], [(3, 8, 0)], [(42, 2, 2, ck_one 0)]))])
set_option maxRecDepth 100000 in
theorem p2_s1742_e : ck_ok p2_O none [] [(56, [p2_s1657]), (57, [p2_s1664, p2_s1671, p2_s1678, p2_s1685, p2_s1692, p2_s1699, p2_s1706, p2_s1713, p2_s1720, p2_s1727, p2_s1734, p2_s1741])] 55 [] 132 p2_s1742 = true := by decide +kernel
theorem p2_s1742_s {X : Int → Int} {LX : Nat} : ck_Ok p2_O X LX 55 p2_s1742 := ck_ok_s ⟨p2_nmu, ck_E1 (ck_S1 p2_s1657_s ck_S0) (ck_E1 (ck_S1 p2_s1664_s (ck_S1 p2_s1671_s (ck_S1 p2_s1678_s (ck_S1 p2_s1685_s (ck_S1 p2_s1692_s (ck_S1 p2_s1699_s (ck_S1 p2_s1706_s (ck_S1 p2_s1713_s (ck_S1 p2_s1720_s (ck_S1 p2_s1727_s (ck_S1 p2_s1734_s (ck_S1 p2_s1741_s ck_S0)))))))))))) ck_E0)⟩ ck_X0 ck_l0 p2_s1742_e
set_option maxRecDepth 100000 in
/-- GlacierMail.undo -/
def p2_s1743 : ck_Sum := ((4, 0, 0), 245, [.inr (.inr (.inl 1))], ([], zl102, []), (zl210, [(3, 8)]), [(.inr (some (.inl (ck_one 1))), 245, ([], [(3, 8, 100044)], zl211)), (.inr (some (.inl (ck_one 0))), 245, ([], [(3, 8, 0)], [(42, 2, 2, ck_one 0), (1, 15, 15, ck_one 0)])), (.inr (some (.inl (ck_one 1))), 245, ([], [(3, 8, 100187)], zl211)), (.inr (some (.inl (ck_one 1))), 245, ([], [(3, 8, 100174)], zl211)), (.inr (some (.inl (ck_one 1))), 245, ([], [(3, 8, 100161)], zl211)), (.inr (some (.inl (ck_one 1))), 245, ([], [(3, 8, 100148)], zl211)), (.inr (some (.inl (ck_one 1))), 245, ([], [(3, 8, 100135)], zl211)), (.inr (some (.inl (ck_one 1))), 245, ([], [(3, 8, 100122)], zl211)), (.inr (some (.inl (ck_one 1))), 245, ([], [(3, 8, 100109)], zl211)), (.inr (some (.inl (ck_one 1))), 245, ([], [(3, 8, 100096)], zl211)), (.inr (some (.inl (ck_one 1))), 245, ([], [(3, 8, 100083)], zl211)), (.inr (some (.inl (ck_one 1))), 245, ([], [(3, 8, 100070)], zl211)), (.inr (some (.inl (ck_one 1))), 245, ([], [(3, 8, 100057)], zl211))])
set_option maxRecDepth 100000 in
theorem p2_s1743_e : ck_ok p2_O none [] [(55, [p2_s1742])] 54 [] 88 p2_s1743 = true := by decide +kernel
theorem p2_s1743_s {X : Int → Int} {LX : Nat} : ck_Ok p2_O X LX 54 p2_s1743 := ck_ok_s ⟨p2_nmu, ck_E1 (ck_S1 p2_s1742_s ck_S0) ck_E0⟩ ck_X0 ck_l0 p2_s1743_e
set_option maxRecDepth 100000 in
/-- GlacierMailModel.undo -/
def p2_s1744 : ck_Sum := ((0, 0, 0), 245, [.inr (.inr (.inl 226))], ([], [], [(227, 2, 2, (0, 8, [(20, 0)])), (227, 3, 3, (0, 8, [(21, 0)])), (227, 4, 4, (0, 24, [(22, 0)])), (227, 5, 5, (0, 8, [(23, 0)])), (227, 6, 6, (0, 6, [(24, 0)])), (227, 7, 7, (0, 12, [(25, 0)])), (227, 14, 14, (0, 24, [(26, 0)])), (226, 6, 6, (0, 12, [(27, 0)])), (227, 9, 9, (0, 299, [(11, 0)]))]), ([(226, 0, 0), (226, 6, 6), (227, 0, 394)], []), [(.inr (some (.inl (ck_one 0))), 245, ([], [], [(226, 6, 6, (0, 0, [(27, 0)])), (226, 0, 0, ck_one 0), (227, 2, 2, (0, 8, [(20, 0)])), (227, 3, 3, (0, 8, [(21, 0)])), (227, 4, 4, (0, 24, [(22, 0)])), (227, 5, 5, (0, 8, [(23, 0)])), (227, 6, 6, (0, 6, [(24, 0)])), (227, 7, 7, (0, 12, [(25, 0)])), (227, 14, 14, (0, 24, [(26, 0)])), (227, 9, 9, (0, 299, [(11, 0)]))])), (.inr (some (.inl (ck_one 1))), 245, ([], [], [(226, 6, 6, (0, 11, [(27, (-1))])), (226, 0, 0, ck_one 0)]))])
def p2_s1744_E : List (Nat × List ck_Sum) := []
set_option maxRecDepth 100000 in
def p2_s1744_C26 : ck_C := ([some (.inr (.inr (.inl 226))), some (.inl (ck_one 0))], ([], [], [(226, 6, 6, (0, 11, [(27, (-1))])), (226, 0, 0, ck_one 0), (227, 2, 2, (0, 8, [(20, 0)])), (227, 3, 3, (0, 8, [(21, 0)])), (227, 4, 4, (0, 24, [(22, 0)])), (227, 5, 5, (0, 8, [(23, 0)])), (227, 6, 6, (0, 6, [(24, 0)])), (227, 7, 7, (0, 12, [(25, 0)])), (227, 14, 14, (0, 24, [(26, 0)])), (227, 9, 9, (0, 299, [(11, 0)]))]), 0, .inl 1, true)
set_option maxRecDepth 100000 in
def p2_s1744_Z : List (Nat × ck_C) := [(26, p2_s1744_C26)]
set_option maxRecDepth 100000 in
theorem p2_s1744_a : (decide (p2_s1744.2.2.1.length ≤ gm_ml 238) && ck_go p2_O none [] p2_s1744_E 238 p2_s1744.1.1 p2_s1744.2.1 p2_s1744.2.2.2.2.1 p2_s1744.2.2.2.2.2 p2_s1744_Z 150 false [(26, p2_s1744_C26, 0, 0, 245)] p2_s1744.1.2.1 p2_s1744.1.2.2 0 (p2_s1744.2.2.1.map some ++ List.replicate (gm_ml 238 - p2_s1744.2.2.1.length) none) [] p2_s1744.2.1 p2_s1744.2.2.2.1) = true := by decide +kernel
theorem p2_s1744_u : ck_cu p2_s1744_Z = true := by decide +kernel
theorem p2_s1744_h {X : Int → Int} {LX : Nat} : ck_nmu p2_O ∧ ck_OkE p2_O X LX p2_s1744_E := ⟨p2_nmu, ck_E0⟩
set_option maxRecDepth 100000 in
theorem p2_s1744_g26 : ck_go p2_O none [] p2_s1744_E 238 p2_s1744.1.1 p2_s1744.2.1 p2_s1744.2.2.2.2.1 p2_s1744.2.2.2.2.2 p2_s1744_Z 150 false [] 0 0 60 (p2_s1744_C26.1.set 1 (some (.inl (ck_one 395)))) [] 245 (p2_s1744_C26.2.1.1, p2_s1744_C26.2.1.2.1, ck_cws [(227, 0, 394)] p2_s1744_C26.2.1.2.2) = true := by decide +kernel
theorem p2_s1744_y26 {X : Int → Int} {LX : Nat} {σ σ0 : Nat → Int} {K0 : gm_K} {R0 : gm_R} {M0 : gm_M} (hσ : ∀ s, s < 100 → σ s = σ0 s) : ck_Hy p2_O X LX 238 p2_s1744.1.1 p2_s1744.2.2.2.2.1 p2_s1744.2.1 K0 R0 M0 (ck_Q p2_O σ0 p2_s1744.2.2.2.2.1 p2_s1744.2.1 K0 R0 M0 p2_s1744.2.2.2.2.2) σ (26, p2_s1744_C26, 0, 0, 245) := by
  refine ck_cpH (v := 1) (A := 227) (B := 230) (N := 395) (wa := 0) (wb := 394) (pc' := 60) p2_s1744_u p2_s1744_h hσ ⟨by decide, by decide⟩ (by decide +kernel) (fun bc bs L K R M hS => ?_) p2_s1744_g26 (fun _ h => nomatch h)
  · obtain ⟨hF, hl, -, hf, -⟩ := hS
    obtain ⟨u0, l0, g0⟩ := hl.2 0 (.inr (.inr (.inl 226))) rfl
    cases g0
    obtain ⟨u1, lv, x1, rfl, -, e1, e2, -⟩ := hl.2 1 (.inl (ck_one 0)) rfl
    have e1 : (0 : Int) ≤ x1 := e1
    have e2 : x1 ≤ (0 : Int) := e2
    have e3 : x1 = 0 := by omega
    subst e3
    have h6 := (ck_fi_s hf (show ck_fi p2_s1744_C26.2.1 226 6 6 = some (0, 11, [(27, (-1))]) by decide +kernel)).2 6 (Int.le_refl _) (Int.le_refl _)
    have h61 : (0 : Int) ≤ M 226 6 := h6.2.1
    have h62 : M 226 6 ≤ (11 : Int) := h6.2.2.1
    have h63 : M 226 ((6 : Nat) : Int) = M 226 6 := rfl
    have kA : (K 227).2 = 2093 := (md_kd hF md_o.1.2).2
    have kB : (K 230).2 = 4740 := (md_kd hF md_o.2.2).2
    refine ⟨0, 395 * M 226 ((6 : Nat) : Int), ⟨by omega, by omega⟩, gm_Fx_cpy hF (md_un hF ⟨by omega, by omega⟩) (jj_undo (K := K) hF.2.2.2.2 ⟨by omega, by omega⟩), fun Q hx => ?_⟩
    exact cp_lp (iv := .iload_n 1) (v := 1) (ixA := 13) (ixB := 23) (jA := 1) (jB := 4) (A := 227) (B := 230) (mo := 226) (p := 26) (qA := 38) (qB := 52) (N := 395) (offe := 30) (offb := (-31)) (by decide) (md_mo hF) (md_kd hF md_o.1.2).1 (md_kd hF md_o.2.2).1 (md_rf hF md_r.1.1) (md_rf hF md_r.2.2) (by decide +kernel) (by decide +kernel) (by decide +kernel) (by decide +kernel) ⟨by omega, ⟨by omega, by omega⟩, ⟨by omega, by omega⟩, by omega, by omega⟩ (fun e => absurd e (by decide)) (by decide) (by decide +kernel) l0 lv ⟨rfl, rfl⟩ ⟨gm_vr 226, l0, by simp [gm_sort]⟩ (by decide +kernel) (by decide +kernel) (by decide +kernel) (by decide) (by decide +kernel) (by decide +kernel) (cp_sg_i (iv := .iload_n 1) lv ⟨rfl, rfl⟩ (by decide +kernel)) (by decide +kernel) (by decide +kernel) (cp_sg_cr (iv := .iload_n 1) (c := 395) (ix := 79) (j := 6) (by decide) l0 lv ⟨rfl, rfl⟩ (by decide +kernel) (md_mo hF) (by decide +kernel) (by decide +kernel) (by decide +kernel) (by decide +kernel) (by decide +kernel) (by decide +kernel) (by decide +kernel) (by decide +kernel)) (by decide +kernel) (by decide +kernel) (by decide +kernel) (by decide +kernel) (by decide) (by decide) hx
theorem p2_s1744_s {X : Int → Int} {LX : Nat} : ck_Ok p2_O X LX 238 p2_s1744 := by
  refine ck_ok_st (cuts := p2_s1744_Z) p2_s1744_u p2_s1744_h p2_s1744_a (fun h hm => ?_)
  rcases List.mem_cons.mp hm with rfl | hm
  · exact ⟨by unfold p2_s1744_Z; exact List.mem_cons_self, fun σ K0 R0 M0 => p2_s1744_y26 (fun _ _ => rfl)⟩
  cases hm
set_option maxRecDepth 100000 in
/-- GlacierMail$Rows.copyFrom -/
def p2_s1745 : ck_Sum := ((1, 0, 0), 245, [.inr (.inr (.inl 30)), .inr (.inr (.inl 4))], ([], [], []), ([(30, 3, 3), (31, 0, 55)], []), [(.inr none, 245, ([], [], []))])
set_option maxRecDepth 100000 in
theorem p2_s1745_e : ck_ok p2_O none [] [] 58 [] 114 p2_s1745 = true := by decide +kernel
theorem p2_s1745_s {X : Int → Int} {LX : Nat} : ck_Ok p2_O X LX 58 p2_s1745 := ck_ok_s ⟨p2_nmu, ck_E0⟩ ck_X0 ck_l0 p2_s1745_e
set_option maxRecDepth 100000 in
/-- GlacierMail$Rows.copyFrom -/
def p2_s1746 : ck_Sum := ((1, 0, 0), 245, [.inr (.inr (.inl 32)), .inr (.inr (.inl 6))], ([], [], []), ([(32, 3, 3), (33, 0, 23)], []), [(.inr none, 245, ([], [], []))])
set_option maxRecDepth 100000 in
theorem p2_s1746_e : ck_ok p2_O none [] [] 58 [] 114 p2_s1746 = true := by decide +kernel
theorem p2_s1746_s {X : Int → Int} {LX : Nat} : ck_Ok p2_O X LX 58 p2_s1746 := ck_ok_s ⟨p2_nmu, ck_E0⟩ ck_X0 ck_l0 p2_s1746_e
set_option maxRecDepth 100000 in
/-- GlacierMail$Rows.copyFrom -/
def p2_s1747 : ck_Sum := ((1, 0, 0), 245, [.inr (.inr (.inl 34)), .inr (.inr (.inl 8))], ([], [], []), ([(34, 3, 3), (35, 0, 23)], []), [(.inr none, 245, ([], [], []))])
set_option maxRecDepth 100000 in
theorem p2_s1747_e : ck_ok p2_O none [] [] 58 [] 114 p2_s1747 = true := by decide +kernel
theorem p2_s1747_s {X : Int → Int} {LX : Nat} : ck_Ok p2_O X LX 58 p2_s1747 := ck_ok_s ⟨p2_nmu, ck_E0⟩ ck_X0 ck_l0 p2_s1747_e
set_option maxRecDepth 100000 in
/-- GlacierMail$Rows.copyFrom -/
def p2_s1748 : ck_Sum := ((1, 0, 0), 245, [.inr (.inr (.inl 36)), .inr (.inr (.inl 10))], ([], [], []), ([(36, 3, 3), (37, 0, 167)], []), [(.inr none, 245, ([], [], []))])
set_option maxRecDepth 100000 in
theorem p2_s1748_e : ck_ok p2_O none [] [] 58 [] 114 p2_s1748 = true := by decide +kernel
theorem p2_s1748_s {X : Int → Int} {LX : Nat} : ck_Ok p2_O X LX 58 p2_s1748 := ck_ok_s ⟨p2_nmu, ck_E0⟩ ck_X0 ck_l0 p2_s1748_e
set_option maxRecDepth 100000 in
/-- GlacierMail$Rows.copyFrom -/
def p2_s1749 : ck_Sum := ((1, 0, 0), 245, [.inr (.inr (.inl 38)), .inr (.inr (.inl 12))], ([], [], []), ([(38, 3, 3), (39, 0, 35)], []), [(.inr none, 245, ([], [], []))])
set_option maxRecDepth 100000 in
theorem p2_s1749_e : ck_ok p2_O none [] [] 58 [] 114 p2_s1749 = true := by decide +kernel
theorem p2_s1749_s {X : Int → Int} {LX : Nat} : ck_Ok p2_O X LX 58 p2_s1749 := ck_ok_s ⟨p2_nmu, ck_E0⟩ ck_X0 ck_l0 p2_s1749_e
set_option maxRecDepth 100000 in
/-- GlacierMail$Rows.copyFrom -/
def p2_s1750 : ck_Sum := ((1, 0, 0), 245, [.inr (.inr (.inl 40)), .inr (.inr (.inl 14))], ([], [], []), ([(40, 3, 3), (41, 0, 71)], []), [(.inr none, 245, ([], [], []))])
set_option maxRecDepth 100000 in
theorem p2_s1750_e : ck_ok p2_O none [] [] 58 [] 114 p2_s1750 = true := by decide +kernel
theorem p2_s1750_s {X : Int → Int} {LX : Nat} : ck_Ok p2_O X LX 58 p2_s1750 := ck_ok_s ⟨p2_nmu, ck_E0⟩ ck_X0 ck_l0 p2_s1750_e
set_option maxRecDepth 100000 in
/-- GlacierMail$State.copyFrom -/
def p2_s1751 : ck_Sum := ((2, 0, 0), 245, [.inr (.inr (.inl 29)), .inr (.inr (.inl 3))], ([], [(3, 8, 0), (29, 8, 100029)], [(3, 6, 6, (0, 299, [(10, 0)]))]), (zl212, [(29, 8)]), [(.inr none, 245, ([], [(29, 8, 0)], [(29, 6, 6, (0, 299, [(10, 0)]))]))])
set_option maxRecDepth 100000 in
theorem p2_s1751_e : ck_ok p2_O none [] [(58, [p2_s1745, p2_s1746, p2_s1747, p2_s1748, p2_s1749, p2_s1750])] 57 [] 204 p2_s1751 = true := by decide +kernel
theorem p2_s1751_s {X : Int → Int} {LX : Nat} : ck_Ok p2_O X LX 57 p2_s1751 := ck_ok_s ⟨p2_nmu, ck_E1 (ck_S1 p2_s1745_s (ck_S1 p2_s1746_s (ck_S1 p2_s1747_s (ck_S1 p2_s1748_s (ck_S1 p2_s1749_s (ck_S1 p2_s1750_s ck_S0)))))) ck_E0⟩ ck_X0 ck_l0 p2_s1751_e
set_option maxRecDepth 100000 in
/-- GlacierMail.image -/
def p2_s1752 : ck_Sum := ((3, 0, 0), 245, [.inr (.inr (.inl 1))], ([], [(3, 8, 0), (29, 8, 100029)], [(3, 6, 6, (0, 299, [(10, 0)]))]), (zl213, [(29, 8)]), [(.inr none, 245, ([], [(29, 8, 0)], zl214))])
set_option maxRecDepth 100000 in
theorem p2_s1752_e : ck_ok p2_O none [] [(57, [p2_s1751])] 59 [] 88 p2_s1752 = true := by decide +kernel
theorem p2_s1752_s {X : Int → Int} {LX : Nat} : ck_Ok p2_O X LX 59 p2_s1752 := ck_ok_s ⟨p2_nmu, ck_E1 (ck_S1 p2_s1751_s ck_S0) ck_E0⟩ ck_X0 ck_l0 p2_s1752_e
set_option maxRecDepth 100000 in
/-- GlacierMailModel.image -/
def p2_s1753 : ck_Sum := ((0, 0, 0), 245, [.inr (.inr (.inl 226))], ([], [], [(226, 5, 5, (0, 1, [(8, 0)]))]), ([(226, 0, 0), (226, 5, 5), (228, 0, 1243)], []), [(.inr none, 245, ([], [], [(226, 5, 5, ck_one 1), (226, 0, 0, ck_one 0)]))])
def p2_s1753_E : List (Nat × List ck_Sum) := []
set_option maxRecDepth 100000 in
def p2_s1753_C7 : ck_C := ([some (.inr (.inr (.inl 226))), some (.inl (ck_one 0))], ([], [], [(226, 0, 0, ck_one 0), (226, 5, 5, (0, 1, [(8, 0)]))]), 0, .inl 1, true)
set_option maxRecDepth 100000 in
def p2_s1753_Z : List (Nat × ck_C) := [(7, p2_s1753_C7)]
set_option maxRecDepth 100000 in
theorem p2_s1753_a : (decide (p2_s1753.2.2.1.length ≤ gm_ml 236) && ck_go p2_O none [] p2_s1753_E 236 p2_s1753.1.1 p2_s1753.2.1 p2_s1753.2.2.2.2.1 p2_s1753.2.2.2.2.2 p2_s1753_Z 114 false [(7, p2_s1753_C7, 0, 0, 245)] p2_s1753.1.2.1 p2_s1753.1.2.2 0 (p2_s1753.2.2.1.map some ++ List.replicate (gm_ml 236 - p2_s1753.2.2.1.length) none) [] p2_s1753.2.1 p2_s1753.2.2.2.1) = true := by decide +kernel
theorem p2_s1753_u : ck_cu p2_s1753_Z = true := by decide +kernel
theorem p2_s1753_h {X : Int → Int} {LX : Nat} : ck_nmu p2_O ∧ ck_OkE p2_O X LX p2_s1753_E := ⟨p2_nmu, ck_E0⟩
set_option maxRecDepth 100000 in
theorem p2_s1753_g7 : ck_go p2_O none [] p2_s1753_E 236 p2_s1753.1.1 p2_s1753.2.1 p2_s1753.2.2.2.2.1 p2_s1753.2.2.2.2.2 p2_s1753_Z 114 false [] 0 0 32 (p2_s1753_C7.1.set 1 (some (.inl (ck_one 1244)))) [] 245 (p2_s1753_C7.2.1.1, p2_s1753_C7.2.1.2.1, ck_cws [(228, 0, 1243)] p2_s1753_C7.2.1.2.2) = true := by decide +kernel
set_option maxRecDepth 100000 in
theorem p2_s1753_t7 : cp_tc p2_O 228 227 0 0 1244 = true := by decide +kernel
theorem p2_s1753_y7 {X : Int → Int} {LX : Nat} {σ σ0 : Nat → Int} {K0 : gm_K} {R0 : gm_R} {M0 : gm_M} (hσ : ∀ s, s < 100 → σ s = σ0 s) : ck_Hy p2_O X LX 236 p2_s1753.1.1 p2_s1753.2.2.2.2.1 p2_s1753.2.1 K0 R0 M0 (ck_Q p2_O σ0 p2_s1753.2.2.2.2.1 p2_s1753.2.1 K0 R0 M0 p2_s1753.2.2.2.2.2) σ (7, p2_s1753_C7, 0, 0, 245) := by
  refine ck_cpH (v := 1) (A := 228) (B := 227) (N := 1244) (wa := 0) (wb := 1243) (pc' := 32) p2_s1753_u p2_s1753_h hσ ⟨by decide, by decide⟩ (by decide +kernel) (fun bc bs L K R M hS => ?_) p2_s1753_g7 (fun _ h => nomatch h)
  · obtain ⟨hF, hl, -, hf, -⟩ := hS
    obtain ⟨u0, l0, g0⟩ := hl.2 0 (.inr (.inr (.inl 226))) rfl
    cases g0
    obtain ⟨u1, lv, x1, rfl, -, e1, e2, -⟩ := hl.2 1 (.inl (ck_one 0)) rfl
    have e1 : (0 : Int) ≤ x1 := e1
    have e2 : x1 ≤ (0 : Int) := e2
    have e3 : x1 = 0 := by omega
    subst e3
    have kA : (K 228).2 = 1244 := (md_kd hF md_o.2.1.1).2
    have kB : (K 227).2 = 2093 := (md_kd hF md_o.1.2).2
    refine ⟨0, 0, ⟨by omega, by omega⟩, gm_Fx_cpy hF (cp_tc_s hF p2_s1753_t7) (jj_image (K := K) hF.2.2.2.2), fun Q hx => ?_⟩
    exact cp_lp (iv := .iload_n 1) (v := 1) (ixA := 17) (ixB := 13) (jA := 2) (jB := 1) (A := 228) (B := 227) (mo := 226) (p := 7) (qA := 19) (qB := 24) (N := 1244) (offe := 21) (offb := (-22)) (by decide) (md_mo hF) (md_kd hF md_o.2.1.1).1 (md_kd hF md_o.1.2).1 (md_rf hF md_r.1.2) (md_rf hF md_r.1.1) (by decide +kernel) (by decide +kernel) (by decide +kernel) (by decide +kernel) ⟨by omega, ⟨by omega, by omega⟩, ⟨by omega, by omega⟩, by omega, by omega⟩ (fun e => absurd e (by decide)) (by decide) (by decide +kernel) l0 lv ⟨rfl, rfl⟩ ⟨gm_vr 226, l0, by simp [gm_sort]⟩ (by decide +kernel) (by decide +kernel) (by decide +kernel) (by decide) (by decide +kernel) (by decide +kernel) (cp_sg_i (iv := .iload_n 1) lv ⟨rfl, rfl⟩ (by decide +kernel)) (by decide +kernel) (by decide +kernel) (cp_sg_i (iv := .iload_n 1) lv ⟨rfl, rfl⟩ (by decide +kernel)) (by decide +kernel) (by decide +kernel) (by decide +kernel) (by decide +kernel) (by decide) (by decide) hx
theorem p2_s1753_s {X : Int → Int} {LX : Nat} : ck_Ok p2_O X LX 236 p2_s1753 := by
  refine ck_ok_st (cuts := p2_s1753_Z) p2_s1753_u p2_s1753_h p2_s1753_a (fun h hm => ?_)
  rcases List.mem_cons.mp hm with rfl | hm
  · exact ⟨by unfold p2_s1753_Z; exact List.mem_cons_self, fun σ K0 R0 M0 => p2_s1753_y7 (fun _ _ => rfl)⟩
  cases hm
set_option maxRecDepth 100000 in
/-- GlacierMail$Rows.copyFrom -/
def p2_s1754 : ck_Sum := ((1, 0, 0), 245, [.inr (.inr (.inl 4)), .inr (.inr (.inl 30))], ([], [], []), ([(4, 3, 3), (5, 0, 55)], []), [(.inr none, 245, ([], [], []))])
set_option maxRecDepth 100000 in
theorem p2_s1754_e : ck_ok p2_O none [] [] 58 [] 114 p2_s1754 = true := by decide +kernel
theorem p2_s1754_s {X : Int → Int} {LX : Nat} : ck_Ok p2_O X LX 58 p2_s1754 := ck_ok_s ⟨p2_nmu, ck_E0⟩ ck_X0 ck_l0 p2_s1754_e
set_option maxRecDepth 100000 in
/-- GlacierMail$Rows.copyFrom -/
def p2_s1755 : ck_Sum := ((1, 0, 0), 245, [.inr (.inr (.inl 6)), .inr (.inr (.inl 32))], ([], [], []), ([(6, 3, 3), (7, 0, 23)], []), [(.inr none, 245, ([], [], []))])
set_option maxRecDepth 100000 in
theorem p2_s1755_e : ck_ok p2_O none [] [] 58 [] 114 p2_s1755 = true := by decide +kernel
theorem p2_s1755_s {X : Int → Int} {LX : Nat} : ck_Ok p2_O X LX 58 p2_s1755 := ck_ok_s ⟨p2_nmu, ck_E0⟩ ck_X0 ck_l0 p2_s1755_e
set_option maxRecDepth 100000 in
/-- GlacierMail$Rows.copyFrom -/
def p2_s1756 : ck_Sum := ((1, 0, 0), 245, [.inr (.inr (.inl 8)), .inr (.inr (.inl 34))], ([], [], []), ([(8, 3, 3), (9, 0, 23)], []), [(.inr none, 245, ([], [], []))])
set_option maxRecDepth 100000 in
theorem p2_s1756_e : ck_ok p2_O none [] [] 58 [] 114 p2_s1756 = true := by decide +kernel
theorem p2_s1756_s {X : Int → Int} {LX : Nat} : ck_Ok p2_O X LX 58 p2_s1756 := ck_ok_s ⟨p2_nmu, ck_E0⟩ ck_X0 ck_l0 p2_s1756_e
set_option maxRecDepth 100000 in
/-- GlacierMail$Rows.copyFrom -/
def p2_s1757 : ck_Sum := ((1, 0, 0), 245, [.inr (.inr (.inl 10)), .inr (.inr (.inl 36))], ([], [], []), ([(10, 3, 3), (11, 0, 167)], []), [(.inr none, 245, ([], [], []))])
set_option maxRecDepth 100000 in
theorem p2_s1757_e : ck_ok p2_O none [] [] 58 [] 114 p2_s1757 = true := by decide +kernel
theorem p2_s1757_s {X : Int → Int} {LX : Nat} : ck_Ok p2_O X LX 58 p2_s1757 := ck_ok_s ⟨p2_nmu, ck_E0⟩ ck_X0 ck_l0 p2_s1757_e
end
