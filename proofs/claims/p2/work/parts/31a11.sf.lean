/-! EVERY CALL ENDS, whatever was done before (laid by wip/am/p2g.py). -/
set_option maxRecDepth 100000 in
/-- GlacierMailModel.latest -/
def p2_s1539 : ck_Sum := ((2, 0, 0), 245, [.inr (.inr (.inl 226)), .inl ((-2147483648), (-1), []), .inl ((-2147483648), 2147483647, [])], ([], [], [(227, 3, 3, (0, 8, [(21, 0)]))]), ([(226, 0, 0)], []), [(.inr (some (.inl (ck_one 0))), 245, ([], [], [(226, 0, 0, ck_one 1)]))])
set_option maxRecDepth 100000 in
theorem p2_s1539_e : ck_ok p2_O none [] [(298, [p2_s441]), (282, [p2_s268])] 326 [] 94 p2_s1539 = true := by decide +kernel
theorem p2_s1539_s {X : Int → Int} {LX : Nat} : ck_Ok p2_O X LX 326 p2_s1539 := ck_ok_s ⟨p2_nmu, ck_E1 (ck_S1 p2_s441_s ck_S0) (ck_E1 (ck_S1 p2_s268_s ck_S0) ck_E0)⟩ ck_X0 ck_l0 p2_s1539_e
set_option maxRecDepth 100000 in
/-- GlacierMailModel.latest -/
def p2_s1540 : ck_Sum := ((2, 0, 0), 245, [.inr (.inr (.inl 226)), .inl (8, 2147483647, []), .inl ((-2147483648), 2147483647, [])], ([], [], [(227, 3, 3, (0, 8, [(21, 0)]))]), ([(226, 0, 0)], []), [(.inr (some (.inl (ck_one 0))), 245, ([], [], [(226, 0, 0, ck_one 1)]))])
set_option maxRecDepth 100000 in
theorem p2_s1540_e : ck_ok p2_O none [] [(298, [p2_s444]), (282, [p2_s268])] 326 [] 94 p2_s1540 = true := by decide +kernel
theorem p2_s1540_s {X : Int → Int} {LX : Nat} : ck_Ok p2_O X LX 326 p2_s1540 := ck_ok_s ⟨p2_nmu, ck_E1 (ck_S1 p2_s444_s ck_S0) (ck_E1 (ck_S1 p2_s268_s ck_S0) ck_E0)⟩ ck_X0 ck_l0 p2_s1540_e
set_option maxRecDepth 100000 in
/-- GlacierMailModel.latest -/
def p2_s1541 : ck_Sum := ((2, 0, 0), 245, [.inr (.inr (.inl 226)), .inl (0, 7, []), .inl ((-2147483648), (-1), [])], ([], [], [(227, 3, 3, (0, 8, [(21, 0)]))]), ([(226, 0, 0)], []), [(.inr (some (.inl (ck_one 0))), 245, ([], [], [(226, 0, 0, (1, 2, []))]))])
set_option maxRecDepth 100000 in
theorem p2_s1541_e : ck_ok p2_O none [] [(298, [p2_s447]), (282, [p2_s268, p2_s269, p2_s272]), (285, [p2_s284])] 326 [] 106 p2_s1541 = true := by decide +kernel
theorem p2_s1541_s {X : Int → Int} {LX : Nat} : ck_Ok p2_O X LX 326 p2_s1541 := ck_ok_s ⟨p2_nmu, ck_E1 (ck_S1 p2_s447_s ck_S0) (ck_E1 (ck_S1 p2_s268_s (ck_S1 p2_s269_s (ck_S1 p2_s272_s ck_S0))) (ck_E1 (ck_S1 p2_s284_s ck_S0) ck_E0))⟩ ck_X0 ck_l0 p2_s1541_e
set_option maxRecDepth 100000 in
/-- GlacierMailModel.latest -/
def p2_s1542 : ck_Sum := ((2, 0, 0), 245, [.inr (.inr (.inl 226)), .inl (0, 7, []), .inl (300, 2147483647, [])], ([], [], [(227, 3, 3, (0, 8, [(21, 0)]))]), ([(226, 0, 0)], []), [(.inr (some (.inl (ck_one 0))), 245, ([], [], [(226, 0, 0, (1, 2, []))]))])
set_option maxRecDepth 100000 in
theorem p2_s1542_e : ck_ok p2_O none [] [(298, [p2_s447]), (282, [p2_s268, p2_s269, p2_s272]), (285, [p2_s287])] 326 [] 106 p2_s1542 = true := by decide +kernel
theorem p2_s1542_s {X : Int → Int} {LX : Nat} : ck_Ok p2_O X LX 326 p2_s1542 := ck_ok_s ⟨p2_nmu, ck_E1 (ck_S1 p2_s447_s ck_S0) (ck_E1 (ck_S1 p2_s268_s (ck_S1 p2_s269_s (ck_S1 p2_s272_s ck_S0))) (ck_E1 (ck_S1 p2_s287_s ck_S0) ck_E0))⟩ ck_X0 ck_l0 p2_s1542_e
set_option maxRecDepth 100000 in
/-- GlacierMail.hut -/
def p2_s1544 : ck_Sum := ((8, 1, 6), 245, [.inr (.inr (.inl 1)), .inl ((-2147483648), (-1), []), .inl ((-2147483648), 2147483647, [])], ([], [], []), ([], []), [(.inl 3, 245, ([], [], []))])
set_option maxRecDepth 100000 in
theorem p2_s1544_e : ck_ok p2_O none [] [(132, [p2_s293])] 172 [] 76 p2_s1544 = true := by decide +kernel
theorem p2_s1544_s {X : Int → Int} {LX : Nat} : ck_Ok p2_O X LX 172 p2_s1544 := ck_ok_s ⟨p2_nmu, ck_E1 (ck_S1 p2_s293_s ck_S0) ck_E0⟩ ck_X0 ck_l0 p2_s1544_e
set_option maxRecDepth 100000 in
/-- GlacierMail.hut -/
def p2_s1545 : ck_Sum := ((8, 1, 6), 245, [.inr (.inr (.inl 1)), .inl (6, 2147483647, []), .inl ((-2147483648), 2147483647, [])], ([], [], []), ([], []), [(.inl 3, 245, ([], [], []))])
set_option maxRecDepth 100000 in
theorem p2_s1545_e : ck_ok p2_O none [] [(132, [p2_s296])] 172 [] 76 p2_s1545 = true := by decide +kernel
theorem p2_s1545_s {X : Int → Int} {LX : Nat} : ck_Ok p2_O X LX 172 p2_s1545 := ck_ok_s ⟨p2_nmu, ck_E1 (ck_S1 p2_s296_s ck_S0) ck_E0⟩ ck_X0 ck_l0 p2_s1545_e
set_option maxRecDepth 100000 in
/-- GlacierMail.hut -/
def p2_s1546 : ck_Sum := ((8, 2, 12), 245, [.inr (.inr (.inl 1)), .inl (0, 5, []), .inl ((-2147483648), (-1), [])], ([], [], []), ([], []), [(.inl 3, 245, ([], [], [])), (.inl 0, 245, ([], [], []))])
set_option maxRecDepth 100000 in
theorem p2_s1546_e : ck_ok p2_O none [] [(132, [p2_s299])] 172 [] 84 p2_s1546 = true := by decide +kernel
theorem p2_s1546_s {X : Int → Int} {LX : Nat} : ck_Ok p2_O X LX 172 p2_s1546 := ck_ok_s ⟨p2_nmu, ck_E1 (ck_S1 p2_s299_s ck_S0) ck_E0⟩ ck_X0 ck_l0 p2_s1546_e
set_option maxRecDepth 100000 in
/-- GlacierMail.hut -/
def p2_s1547 : ck_Sum := ((8, 2, 12), 245, [.inr (.inr (.inl 1)), .inl (0, 5, []), .inl (300, 2147483647, [])], ([], [], []), ([], []), [(.inl 3, 245, ([], [], [])), (.inl 0, 245, ([], [], []))])
set_option maxRecDepth 100000 in
theorem p2_s1547_e : ck_ok p2_O none [] [(132, [p2_s299])] 172 [] 90 p2_s1547 = true := by decide +kernel
theorem p2_s1547_s {X : Int → Int} {LX : Nat} : ck_Ok p2_O X LX 172 p2_s1547 := ck_ok_s ⟨p2_nmu, ck_E1 (ck_S1 p2_s299_s ck_S0) ck_E0⟩ ck_X0 ck_l0 p2_s1547_e
set_option maxRecDepth 100000 in
/-- GlacierMail.hut -/
def p2_s1548 : ck_Sum := ((8, 2, 12), 245, [.inr (.inr (.inl 1)), .inl (0, 5, []), .inl (0, 299, [])], ([], [(3, 8, 0)], [(3, 6, 6, (0, 299, [(10, 0)]))]), ([(206, 2, 8)], []), [(.inl 3, 245, ([], [], [])), (.inl 0, 245, ([], [], [])), (.inr (some (.inl (ck_one (-1)))), 245, ([], [], [])), (.inr (some (.inl (0, 98, []))), 245, ([], [], [(206, 4, 4, ck_one (-1))]))])
set_option maxRecDepth 100000 in
theorem p2_s1548_e : ck_ok p2_O none [] [(132, [p2_s299]), (29, [p2_s1518]), (30, [p2_s374])] 172 [(47, [some (.inr (.inr (.inl 1))), some (.inl (0, 5, [])), some (.inl (1, 299, [])), some (.inl (1, 299, [])), some (.inl (0, 167, []))], ([], [(3, 8, 0)], [(3, 6, 6, (0, 299, [(10, 0)]))]), 100, .inl 4, true)] 182 p2_s1548 = true := by decide +kernel
theorem p2_s1548_s {X : Int → Int} {LX : Nat} : ck_Ok p2_O X LX 172 p2_s1548 := ck_ok_s ⟨p2_nmu, ck_E1 (ck_S1 p2_s299_s ck_S0) (ck_E1 (ck_S1 p2_s1518_s ck_S0) (ck_E1 (ck_S1 p2_s374_s ck_S0) ck_E0))⟩ ck_X0 ck_l0 p2_s1548_e
set_option maxRecDepth 100000 in
/-- GlacierMailModel.hut -/
def p2_s1549 : ck_Sum := ((2, 0, 0), 245, [.inr (.inr (.inl 226)), .inl ((-2147483648), (-1), []), .inl ((-2147483648), 2147483647, [])], ([], [], []), ([(226, 0, 0)], []), [(.inr (some (.inl (ck_one 0))), 245, ([], [], [(226, 0, 0, ck_one 1)]))])
set_option maxRecDepth 100000 in
theorem p2_s1549_e : ck_ok p2_O none [] [(288, [p2_s311]), (282, [p2_s268])] 327 [] 94 p2_s1549 = true := by decide +kernel
theorem p2_s1549_s {X : Int → Int} {LX : Nat} : ck_Ok p2_O X LX 327 p2_s1549 := ck_ok_s ⟨p2_nmu, ck_E1 (ck_S1 p2_s311_s ck_S0) (ck_E1 (ck_S1 p2_s268_s ck_S0) ck_E0)⟩ ck_X0 ck_l0 p2_s1549_e
set_option maxRecDepth 100000 in
/-- GlacierMailModel.hut -/
def p2_s1550 : ck_Sum := ((2, 0, 0), 245, [.inr (.inr (.inl 226)), .inl (6, 2147483647, []), .inl ((-2147483648), 2147483647, [])], ([], [], []), ([(226, 0, 0)], []), [(.inr (some (.inl (ck_one 0))), 245, ([], [], [(226, 0, 0, ck_one 1)]))])
set_option maxRecDepth 100000 in
theorem p2_s1550_e : ck_ok p2_O none [] [(288, [p2_s314]), (282, [p2_s268])] 327 [] 94 p2_s1550 = true := by decide +kernel
theorem p2_s1550_s {X : Int → Int} {LX : Nat} : ck_Ok p2_O X LX 327 p2_s1550 := ck_ok_s ⟨p2_nmu, ck_E1 (ck_S1 p2_s314_s ck_S0) (ck_E1 (ck_S1 p2_s268_s ck_S0) ck_E0)⟩ ck_X0 ck_l0 p2_s1550_e
set_option maxRecDepth 100000 in
/-- GlacierMailModel.in -/
def p2_s1551 : ck_Sum := ((0, 0, 0), 245, [.inl ((-2147483648), (-1), []), .inl (ck_one 1), .inl (ck_one 299)], ([], [], []), ([], []), [(.inr (some (.inl (ck_one 0))), 245, ([], [], []))])
set_option maxRecDepth 100000 in
theorem p2_s1551_e : ck_ok p2_O none [] [] 286 [] 80 p2_s1551 = true := by decide +kernel
theorem p2_s1551_s {X : Int → Int} {LX : Nat} : ck_Ok p2_O X LX 286 p2_s1551 := ck_ok_s ⟨p2_nmu, ck_E0⟩ ck_X0 ck_l0 p2_s1551_e
set_option maxRecDepth 100000 in
/-- GlacierMailModel.hut -/
def p2_s1552 : ck_Sum := ((2, 0, 0), 245, [.inr (.inr (.inl 226)), .inl (0, 5, []), .inl ((-2147483648), (-1), [])], ([], [], []), ([(226, 0, 0)], []), [(.inr (some (.inl (ck_one 0))), 245, ([], [], [(226, 0, 0, (1, 2, []))]))])
set_option maxRecDepth 100000 in
theorem p2_s1552_e : ck_ok p2_O none [] [(288, [p2_s317]), (282, [p2_s268, p2_s269, p2_s272]), (286, [p2_s1551])] 327 [] 116 p2_s1552 = true := by decide +kernel
theorem p2_s1552_s {X : Int → Int} {LX : Nat} : ck_Ok p2_O X LX 327 p2_s1552 := ck_ok_s ⟨p2_nmu, ck_E1 (ck_S1 p2_s317_s ck_S0) (ck_E1 (ck_S1 p2_s268_s (ck_S1 p2_s269_s (ck_S1 p2_s272_s ck_S0))) (ck_E1 (ck_S1 p2_s1551_s ck_S0) ck_E0))⟩ ck_X0 ck_l0 p2_s1552_e
set_option maxRecDepth 100000 in
/-- GlacierMailModel.in -/
def p2_s1553 : ck_Sum := ((0, 0, 0), 245, [.inl (300, 2147483647, []), .inl (ck_one 1), .inl (ck_one 299)], ([], [], []), ([], []), [(.inr (some (.inl (ck_one 0))), 245, ([], [], []))])
set_option maxRecDepth 100000 in
theorem p2_s1553_e : ck_ok p2_O none [] [] 286 [] 86 p2_s1553 = true := by decide +kernel
theorem p2_s1553_s {X : Int → Int} {LX : Nat} : ck_Ok p2_O X LX 286 p2_s1553 := ck_ok_s ⟨p2_nmu, ck_E0⟩ ck_X0 ck_l0 p2_s1553_e
set_option maxRecDepth 100000 in
/-- GlacierMailModel.hut -/
def p2_s1554 : ck_Sum := ((2, 0, 0), 245, [.inr (.inr (.inl 226)), .inl (0, 5, []), .inl (300, 2147483647, [])], ([], [], []), ([(226, 0, 0)], []), [(.inr (some (.inl (ck_one 0))), 245, ([], [], [(226, 0, 0, (1, 2, []))]))])
set_option maxRecDepth 100000 in
theorem p2_s1554_e : ck_ok p2_O none [] [(288, [p2_s317]), (282, [p2_s268, p2_s269, p2_s272]), (286, [p2_s1553])] 327 [] 116 p2_s1554 = true := by decide +kernel
theorem p2_s1554_s {X : Int → Int} {LX : Nat} : ck_Ok p2_O X LX 327 p2_s1554 := ck_ok_s ⟨p2_nmu, ck_E1 (ck_S1 p2_s317_s ck_S0) (ck_E1 (ck_S1 p2_s268_s (ck_S1 p2_s269_s (ck_S1 p2_s272_s ck_S0))) (ck_E1 (ck_S1 p2_s1553_s ck_S0) ck_E0))⟩ ck_X0 ck_l0 p2_s1554_e
set_option maxRecDepth 100000 in
/-- GlacierMailModel.in -/
def p2_s1555 : ck_Sum := ((0, 0, 0), 245, [.inl (0, 299, []), .inl (ck_one 1), .inl (ck_one 299)], ([], [], []), ([], []), [(.inr (some (.inl (ck_one 0))), 245, ([], [], [])), (.inr (some (.inl (ck_one 1))), 245, ([], [], []))])
set_option maxRecDepth 100000 in
theorem p2_s1555_e : ck_ok p2_O none [] [] 286 [] 88 p2_s1555 = true := by decide +kernel
theorem p2_s1555_s {X : Int → Int} {LX : Nat} : ck_Ok p2_O X LX 286 p2_s1555 := ck_ok_s ⟨p2_nmu, ck_E0⟩ ck_X0 ck_l0 p2_s1555_e
set_option maxRecDepth 100000 in
/-- GlacierMail.without -/
def p2_s1557 : ck_Sum := ((8, 1, 6), 245, [.inr (.inr (.inl 1)), .inl ((-2147483648), (-1), []), .inl ((-2147483648), 2147483647, [])], ([], [], []), ([], []), [(.inl 3, 245, ([], [], []))])
set_option maxRecDepth 100000 in
theorem p2_s1557_e : ck_ok p2_O none [] [(143, [p2_s513])] 174 [] 76 p2_s1557 = true := by decide +kernel
theorem p2_s1557_s {X : Int → Int} {LX : Nat} : ck_Ok p2_O X LX 174 p2_s1557 := ck_ok_s ⟨p2_nmu, ck_E1 (ck_S1 p2_s513_s ck_S0) ck_E0⟩ ck_X0 ck_l0 p2_s1557_e
set_option maxRecDepth 100000 in
/-- GlacierMail.without -/
def p2_s1558 : ck_Sum := ((8, 1, 6), 245, [.inr (.inr (.inl 1)), .inl (24, 2147483647, []), .inl ((-2147483648), 2147483647, [])], ([], [], []), ([], []), [(.inl 3, 245, ([], [], []))])
set_option maxRecDepth 100000 in
theorem p2_s1558_e : ck_ok p2_O none [] [(143, [p2_s516])] 174 [] 76 p2_s1558 = true := by decide +kernel
theorem p2_s1558_s {X : Int → Int} {LX : Nat} : ck_Ok p2_O X LX 174 p2_s1558 := ck_ok_s ⟨p2_nmu, ck_E1 (ck_S1 p2_s516_s ck_S0) ck_E0⟩ ck_X0 ck_l0 p2_s1558_e
set_option maxRecDepth 100000 in
/-- GlacierMail.without -/
def p2_s1559 : ck_Sum := ((8, 2, 12), 245, [.inr (.inr (.inl 1)), .inl (0, 23, []), .inl ((-2147483648), (-1), [])], ([], [], []), ([], []), [(.inl 3, 245, ([], [], []))])
set_option maxRecDepth 100000 in
theorem p2_s1559_e : ck_ok p2_O none [] [(143, [p2_s519]), (9, [p2_s159]), (133, [p2_s349])] 174 [] 90 p2_s1559 = true := by decide +kernel
theorem p2_s1559_s {X : Int → Int} {LX : Nat} : ck_Ok p2_O X LX 174 p2_s1559 := ck_ok_s ⟨p2_nmu, ck_E1 (ck_S1 p2_s519_s ck_S0) (ck_E1 (ck_S1 p2_s159_s ck_S0) (ck_E1 (ck_S1 p2_s349_s ck_S0) ck_E0))⟩ ck_X0 ck_l0 p2_s1559_e
set_option maxRecDepth 100000 in
/-- GlacierMail.without -/
def p2_s1560 : ck_Sum := ((8, 2, 12), 245, [.inr (.inr (.inl 1)), .inl (0, 23, []), .inl (8, 2147483647, [])], ([], [], []), ([], []), [(.inl 3, 245, ([], [], []))])
set_option maxRecDepth 100000 in
theorem p2_s1560_e : ck_ok p2_O none [] [(143, [p2_s519]), (9, [p2_s159]), (133, [p2_s352])] 174 [] 90 p2_s1560 = true := by decide +kernel
theorem p2_s1560_s {X : Int → Int} {LX : Nat} : ck_Ok p2_O X LX 174 p2_s1560 := ck_ok_s ⟨p2_nmu, ck_E1 (ck_S1 p2_s519_s ck_S0) (ck_E1 (ck_S1 p2_s159_s ck_S0) (ck_E1 (ck_S1 p2_s352_s ck_S0) ck_E0))⟩ ck_X0 ck_l0 p2_s1560_e
set_option maxRecDepth 100000 in
/-- GlacierMail$Way.leaveOut -/
def p2_s1561 : ck_Sum := ((0, 0, 0), 245, [.inr (.inr (.inl 206)), .inl (0, 7, [])], ([], [], []), ([(206, 4, 4)], []), [(.inr none, 245, ([], [], [(206, 4, 4, (0, 7, []))]))])
set_option maxRecDepth 100000 in
theorem p2_s1561_e : ck_ok p2_O none [] [] 175 [] 78 p2_s1561 = true := by decide +kernel
theorem p2_s1561_s {X : Int → Int} {LX : Nat} : ck_Ok p2_O X LX 175 p2_s1561 := ck_ok_s ⟨p2_nmu, ck_E0⟩ ck_X0 ck_l0 p2_s1561_e
set_option maxRecDepth 100000 in
/-- GlacierMail.without -/
def p2_s1562 : ck_Sum := ((8, 2, 12), 245, [.inr (.inr (.inl 1)), .inl (0, 23, []), .inl (0, 7, [])], ([], [(3, 8, 0)], []), ([(206, 2, 8)], []), [(.inl 3, 245, ([], [], [])), (.inr (some (.inl ((-2147483648), 299, []))), 245, ([], [], [(206, 4, 4, (0, 7, [])), (206, 2, 2, ((-1), 299, []))]))])
set_option maxRecDepth 100000 in
theorem p2_s1562_e : ck_ok p2_O none [] [(143, [p2_s519]), (9, [p2_s159]), (133, [p2_s355]), (27, [p2_s367]), (175, [p2_s1561]), (30, [p2_s374])] 174 [] 116 p2_s1562 = true := by decide +kernel
theorem p2_s1562_s {X : Int → Int} {LX : Nat} : ck_Ok p2_O X LX 174 p2_s1562 := ck_ok_s ⟨p2_nmu, ck_E1 (ck_S1 p2_s519_s ck_S0) (ck_E1 (ck_S1 p2_s159_s ck_S0) (ck_E1 (ck_S1 p2_s355_s ck_S0) (ck_E1 (ck_S1 p2_s367_s ck_S0) (ck_E1 (ck_S1 p2_s1561_s ck_S0) (ck_E1 (ck_S1 p2_s374_s ck_S0) ck_E0)))))⟩ ck_X0 ck_l0 p2_s1562_e
set_option maxRecDepth 100000 in
/-- GlacierMailModel.without -/
def p2_s1563 : ck_Sum := ((2, 0, 0), 245, [.inr (.inr (.inl 226)), .inl ((-2147483648), (-1), []), .inl ((-2147483648), 2147483647, [])], ([], [], [(227, 4, 4, (0, 24, [(22, 0)]))]), ([(226, 0, 0)], []), [(.inr (some (.inl (ck_one 0))), 245, ([], [], [(226, 0, 0, ck_one 1)]))])
set_option maxRecDepth 100000 in
theorem p2_s1563_e : ck_ok p2_O none [] [(309, [p2_s526]), (282, [p2_s268])] 328 [] 100 p2_s1563 = true := by decide +kernel
theorem p2_s1563_s {X : Int → Int} {LX : Nat} : ck_Ok p2_O X LX 328 p2_s1563 := ck_ok_s ⟨p2_nmu, ck_E1 (ck_S1 p2_s526_s ck_S0) (ck_E1 (ck_S1 p2_s268_s ck_S0) ck_E0)⟩ ck_X0 ck_l0 p2_s1563_e
set_option maxRecDepth 100000 in
/-- GlacierMailModel.without -/
def p2_s1564 : ck_Sum := ((2, 0, 0), 245, [.inr (.inr (.inl 226)), .inl (24, 2147483647, []), .inl ((-2147483648), 2147483647, [])], ([], [], [(227, 4, 4, (0, 24, [(22, 0)]))]), ([(226, 0, 0)], []), [(.inr (some (.inl (ck_one 0))), 245, ([], [], [(226, 0, 0, ck_one 1)]))])
set_option maxRecDepth 100000 in
theorem p2_s1564_e : ck_ok p2_O none [] [(309, [p2_s529]), (282, [p2_s268])] 328 [] 100 p2_s1564 = true := by decide +kernel
theorem p2_s1564_s {X : Int → Int} {LX : Nat} : ck_Ok p2_O X LX 328 p2_s1564 := ck_ok_s ⟨p2_nmu, ck_E1 (ck_S1 p2_s529_s ck_S0) (ck_E1 (ck_S1 p2_s268_s ck_S0) ck_E0)⟩ ck_X0 ck_l0 p2_s1564_e
set_option maxRecDepth 100000 in
/-- GlacierMailModel.without -/
def p2_s1565 : ck_Sum := ((2, 0, 0), 245, [.inr (.inr (.inl 226)), .inl (0, 23, []), .inl ((-2147483648), (-1), [])], ([], [], [(227, 4, 4, (0, 24, [(22, 0)])), (227, 5, 5, (0, 8, [(23, 0)]))]), ([(226, 0, 0)], []), [(.inr (some (.inl (ck_one 0))), 245, ([], [], [(226, 0, 0, ck_one 1)]))])
set_option maxRecDepth 100000 in
theorem p2_s1565_e : ck_ok p2_O none [] [(309, [p2_s532]), (282, [p2_s268]), (286, [p2_s440])] 328 [] 120 p2_s1565 = true := by decide +kernel
theorem p2_s1565_s {X : Int → Int} {LX : Nat} : ck_Ok p2_O X LX 328 p2_s1565 := ck_ok_s ⟨p2_nmu, ck_E1 (ck_S1 p2_s532_s ck_S0) (ck_E1 (ck_S1 p2_s268_s ck_S0) (ck_E1 (ck_S1 p2_s440_s ck_S0) ck_E0))⟩ ck_X0 ck_l0 p2_s1565_e
set_option maxRecDepth 100000 in
/-- GlacierMailModel.without -/
def p2_s1566 : ck_Sum := ((2, 0, 0), 245, [.inr (.inr (.inl 226)), .inl (0, 23, []), .inl (8, 2147483647, [])], ([], [], [(227, 4, 4, (0, 24, [(22, 0)])), (227, 5, 5, (0, 8, [(23, 0)]))]), ([(226, 0, 0)], []), [(.inr (some (.inl (ck_one 0))), 245, ([], [], [(226, 0, 0, ck_one 1)]))])
set_option maxRecDepth 100000 in
theorem p2_s1566_e : ck_ok p2_O none [] [(309, [p2_s532]), (282, [p2_s268]), (286, [p2_s443])] 328 [] 120 p2_s1566 = true := by decide +kernel
theorem p2_s1566_s {X : Int → Int} {LX : Nat} : ck_Ok p2_O X LX 328 p2_s1566 := ck_ok_s ⟨p2_nmu, ck_E1 (ck_S1 p2_s532_s ck_S0) (ck_E1 (ck_S1 p2_s268_s ck_S0) (ck_E1 (ck_S1 p2_s443_s ck_S0) ck_E0))⟩ ck_X0 ck_l0 p2_s1566_e
set_option maxRecDepth 100000 in
/-- GlacierMail.moved -/
def p2_s1568 : ck_Sum := ((8, 1, 6), 245, [.inr (.inr (.inl 1)), .inl ((-2147483648), (-1), [])], ([], [], []), ([], []), [(.inl 3, 245, ([], [], []))])
set_option maxRecDepth 100000 in
theorem p2_s1568_e : ck_ok p2_O none [] [(143, [p2_s513])] 177 [] 76 p2_s1568 = true := by decide +kernel
theorem p2_s1568_s {X : Int → Int} {LX : Nat} : ck_Ok p2_O X LX 177 p2_s1568 := ck_ok_s ⟨p2_nmu, ck_E1 (ck_S1 p2_s513_s ck_S0) ck_E0⟩ ck_X0 ck_l0 p2_s1568_e
set_option maxRecDepth 100000 in
/-- GlacierMail.moved -/
def p2_s1569 : ck_Sum := ((8, 1, 6), 245, [.inr (.inr (.inl 1)), .inl (24, 2147483647, [])], ([], [], []), ([], []), [(.inl 3, 245, ([], [], []))])
set_option maxRecDepth 100000 in
theorem p2_s1569_e : ck_ok p2_O none [] [(143, [p2_s516])] 177 [] 76 p2_s1569 = true := by decide +kernel
theorem p2_s1569_s {X : Int → Int} {LX : Nat} : ck_Ok p2_O X LX 177 p2_s1569 := ck_ok_s ⟨p2_nmu, ck_E1 (ck_S1 p2_s516_s ck_S0) ck_E0⟩ ck_X0 ck_l0 p2_s1569_e
set_option maxRecDepth 100000 in
/-- GlacierMail.moved -/
def p2_s1570 : ck_Sum := ((8, 1, 6), 245, [.inr (.inr (.inl 1)), .inl (0, 23, [])], ([], [(3, 8, 0)], []), ([(206, 2, 8)], []), [(.inl 3, 245, ([], [], [])), (.inr (some (.inl ((-2147483648), (-1), []))), 245, ([], [], [(206, 8, 8, ((-2147483648), (-1), [])), (206, 4, 4, ck_one (-1)), (206, 2, 2, ((-1), 299, []))])), (.inr (some (.inl (0, 2147483647, []))), 245, ([], [], [(206, 8, 8, (0, 2147483647, [])), (206, 4, 4, ck_one (-1)), (206, 2, 2, ((-1), 299, []))]))])
set_option maxRecDepth 100000 in
theorem p2_s1570_e : ck_ok p2_O none [] [(143, [p2_s519]), (27, [p2_s367]), (30, [p2_s374])] 177 [] 102 p2_s1570 = true := by decide +kernel
theorem p2_s1570_s {X : Int → Int} {LX : Nat} : ck_Ok p2_O X LX 177 p2_s1570 := ck_ok_s ⟨p2_nmu, ck_E1 (ck_S1 p2_s519_s ck_S0) (ck_E1 (ck_S1 p2_s367_s ck_S0) (ck_E1 (ck_S1 p2_s374_s ck_S0) ck_E0))⟩ ck_X0 ck_l0 p2_s1570_e
set_option maxRecDepth 100000 in
/-- GlacierMailModel.moved -/
def p2_s1571 : ck_Sum := ((2, 0, 0), 245, [.inr (.inr (.inl 226)), .inl ((-2147483648), (-1), [])], ([], [], [(227, 4, 4, (0, 24, [(22, 0)]))]), ([(226, 0, 0)], []), [(.inr (some (.inl (ck_one 0))), 245, ([], [], [(226, 0, 0, ck_one 1)]))])
set_option maxRecDepth 100000 in
theorem p2_s1571_e : ck_ok p2_O none [] [(309, [p2_s526]), (282, [p2_s268])] 329 [] 94 p2_s1571 = true := by decide +kernel
theorem p2_s1571_s {X : Int → Int} {LX : Nat} : ck_Ok p2_O X LX 329 p2_s1571 := ck_ok_s ⟨p2_nmu, ck_E1 (ck_S1 p2_s526_s ck_S0) (ck_E1 (ck_S1 p2_s268_s ck_S0) ck_E0)⟩ ck_X0 ck_l0 p2_s1571_e
set_option maxRecDepth 100000 in
/-- GlacierMailModel.moved -/
def p2_s1572 : ck_Sum := ((2, 0, 0), 245, [.inr (.inr (.inl 226)), .inl (24, 2147483647, [])], ([], [], [(227, 4, 4, (0, 24, [(22, 0)]))]), ([(226, 0, 0)], []), [(.inr (some (.inl (ck_one 0))), 245, ([], [], [(226, 0, 0, ck_one 1)]))])
set_option maxRecDepth 100000 in
theorem p2_s1572_e : ck_ok p2_O none [] [(309, [p2_s529]), (282, [p2_s268])] 329 [] 94 p2_s1572 = true := by decide +kernel
theorem p2_s1572_s {X : Int → Int} {LX : Nat} : ck_Ok p2_O X LX 329 p2_s1572 := ck_ok_s ⟨p2_nmu, ck_E1 (ck_S1 p2_s529_s ck_S0) (ck_E1 (ck_S1 p2_s268_s ck_S0) ck_E0)⟩ ck_X0 ck_l0 p2_s1572_e
set_option maxRecDepth 100000 in
/-- GlacierMail.lost -/
def p2_s1574 : ck_Sum := ((5, 0, 0), 245, [.inr (.inr (.inl 1))], ([], [(3, 8, 0)], []), ([(1, 15, 15), (206, 2, 8), (220, 3, 3), (221, 0, 47)], []), [(.inr (some (.inl ((-2147483648), 2147483647, []))), 245, ([], [], [(1, 15, 15, ck_one 1)]))])
set_option maxRecDepth 100000 in
theorem p2_s1574_e : ck_ok p2_O none [] [(24, [p2_s405]), (9, [p2_s362]), (10, [p2_s407])] 23 [(8, [some (.inr (.inr (.inl 1))), some (.inl ((-2147483648), 2147483647, [])), some (.inl (0, 24, []))], ([], [(3, 8, 0)], [(1, 15, 15, ck_one 1)]), 100, .inl 2, true)] 174 p2_s1574 = true := by decide +kernel
theorem p2_s1574_s {X : Int → Int} {LX : Nat} : ck_Ok p2_O X LX 23 p2_s1574 := ck_ok_s ⟨p2_nmu, ck_E1 (ck_S1 p2_s405_s ck_S0) (ck_E1 (ck_S1 p2_s362_s ck_S0) (ck_E1 (ck_S1 p2_s407_s ck_S0) ck_E0))⟩ ck_X0 ck_l0 p2_s1574_e
set_option maxRecDepth 100000 in
/-- GlacierMail.outIn -/
def p2_s1576 : ck_Sum := ((2, 0, 0), 245, [.inr (.inr (.inl 1)), .inl ((-2147483648), 299, []), .inl (ck_one 0)], ([], [], []), ([], []), [(.inr (some (.inl ((-2147483648), 2147483647, []))), 245, ([], [], []))])
set_option maxRecDepth 100000 in
theorem p2_s1576_e : ck_ok p2_O none [] [(9, [p2_s362]), (10, [p2_s407]), (28, [p2_s364])] 47 [(5, [some (.inr (.inr (.inl 1))), some (.inl ((-2147483648), 299, [])), some (.inl (ck_one 0)), some (.inl ((-2147483648), 2147483647, [])), some (.inl (0, 24, []))], ([], [], []), 100, .inl 4, true)] 182 p2_s1576 = true := by decide +kernel
theorem p2_s1576_s {X : Int → Int} {LX : Nat} : ck_Ok p2_O X LX 47 p2_s1576 := ck_ok_s ⟨p2_nmu, ck_E1 (ck_S1 p2_s362_s ck_S0) (ck_E1 (ck_S1 p2_s407_s ck_S0) (ck_E1 (ck_S1 p2_s364_s ck_S0) ck_E0))⟩ ck_X0 ck_l0 p2_s1576_e
set_option maxRecDepth 100000 in
/-- GlacierMail.market -/
def p2_s1577 : ck_Sum := ((5, 0, 0), 245, [.inr (.inr (.inl 1)), .inl (0, 1, [])], ([], [(3, 8, 0)], []), ([(1, 15, 15), (206, 2, 8), (220, 3, 3), (221, 0, 47)], []), [(.inr (some (.inl ((-2147483648), 299, []))), 245, ([], [], [(1, 15, 15, ck_one 1)])), (.inr (some (.inl (0, 2147483647, []))), 245, ([], [], [(1, 15, 15, ck_one 1)]))])
set_option maxRecDepth 100000 in
theorem p2_s1577_e : ck_ok p2_O none [] [(24, [p2_s405]), (9, [p2_s362]), (10, [p2_s407]), (47, [p2_s1576])] 46 [(11, [some (.inr (.inr (.inl 1))), some (.inl (0, 1, [])), some (.inl ((-2147483648), 299, [])), some (.inl (0, 2147483647, [])), some (.inl (0, 24, [])), none, none], ([], [(3, 8, 0)], [(1, 15, 15, ck_one 1)]), 100, .inl 4, true)] 230 p2_s1577 = true := by decide +kernel
theorem p2_s1577_s {X : Int → Int} {LX : Nat} : ck_Ok p2_O X LX 46 p2_s1577 := ck_ok_s ⟨p2_nmu, ck_E1 (ck_S1 p2_s405_s ck_S0) (ck_E1 (ck_S1 p2_s362_s ck_S0) (ck_E1 (ck_S1 p2_s407_s ck_S0) (ck_E1 (ck_S1 p2_s1576_s ck_S0) ck_E0)))⟩ ck_X0 ck_l0 p2_s1577_e
set_option maxRecDepth 100000 in
/-- GlacierMailModel.outsIn -/
def p2_s1605 : ck_Sum := ((2, 0, 0), 245, [.inr (.inr (.inl 226)), .inl (0, 299, []), .inl ((-1), 7, []), .inl (0, 1, [])], ([], [], [(227, 4, 4, (0, 24, [(22, 0)]))]), ([], []), [(.inr (some (.inl ((-2147483648), 2147483647, []))), 245, ([], [], []))])
set_option maxRecDepth 100000 in
theorem p2_s1605_e : ck_ok p2_O none [] [(254, [p2_s196]), (303, [p2_s461]), (301, [p2_s457])] 333 [(6, [some (.inr (.inr (.inl 226))), some (.inl (0, 299, [])), some (.inl ((-1), 7, [])), some (.inl (0, 1, [])), some (.inl ((-2147483648), 2147483647, [])), some (.inl (0, 24, []))], ([], [], [(227, 4, 4, (0, 24, [(22, 0)]))]), 100, .inl 5, true)] 218 p2_s1605 = true := by decide +kernel
theorem p2_s1605_s {X : Int → Int} {LX : Nat} : ck_Ok p2_O X LX 333 p2_s1605 := ck_ok_s ⟨p2_nmu, ck_E1 (ck_S1 p2_s196_s ck_S0) (ck_E1 (ck_S1 p2_s461_s ck_S0) (ck_E1 (ck_S1 p2_s457_s ck_S0) ck_E0))⟩ ck_X0 ck_l0 p2_s1605_e
set_option maxRecDepth 100000 in
/-- GlacierMail.passes -/
def p2_s1607 : ck_Sum := ((8, 1, 6), 245, [.inr (.inr (.inl 1)), .inl ((-2147483648), (-1), [])], ([], [], []), ([], []), [(.inl 3, 245, ([], [], []))])
set_option maxRecDepth 100000 in
theorem p2_s1607_e : ck_ok p2_O none [] [(143, [p2_s513])] 179 [] 76 p2_s1607 = true := by decide +kernel
theorem p2_s1607_s {X : Int → Int} {LX : Nat} : ck_Ok p2_O X LX 179 p2_s1607 := ck_ok_s ⟨p2_nmu, ck_E1 (ck_S1 p2_s513_s ck_S0) ck_E0⟩ ck_X0 ck_l0 p2_s1607_e
set_option maxRecDepth 100000 in
/-- GlacierMail.passes -/
def p2_s1608 : ck_Sum := ((8, 1, 6), 245, [.inr (.inr (.inl 1)), .inl (24, 2147483647, [])], ([], [], []), ([], []), [(.inl 3, 245, ([], [], []))])
set_option maxRecDepth 100000 in
theorem p2_s1608_e : ck_ok p2_O none [] [(143, [p2_s516])] 179 [] 76 p2_s1608 = true := by decide +kernel
theorem p2_s1608_s {X : Int → Int} {LX : Nat} : ck_Ok p2_O X LX 179 p2_s1608 := ck_ok_s ⟨p2_nmu, ck_E1 (ck_S1 p2_s516_s ck_S0) ck_E0⟩ ck_X0 ck_l0 p2_s1608_e
set_option maxRecDepth 100000 in
/-- GlacierMail.sameLane -/
def p2_s1661 : ck_Sum := ((1, 0, 0), 245, [.inr (.inr (.inl 1)), .inl (0, 23, []), .inl (0, 23, [])], ([], [], []), ([], []), [(.inr (some (.inl (ck_one 0))), 245, ([], [], [])), (.inr (some (.inl (ck_one 1))), 245, ([], [], []))])
set_option maxRecDepth 100000 in
theorem p2_s1661_e : ck_ok p2_O none [] [(10, [p2_s363])] 180 [] 102 p2_s1661 = true := by decide +kernel
theorem p2_s1661_s {X : Int → Int} {LX : Nat} : ck_Ok p2_O X LX 180 p2_s1661 := ck_ok_s ⟨p2_nmu, ck_E1 (ck_S1 p2_s363_s ck_S0) ck_E0⟩ ck_X0 ck_l0 p2_s1661_e
set_option maxRecDepth 100000 in
/-- GlacierMail$Way.start -/
def p2_s1610 : ck_Sum := ((0, 0, 0), 245, [.inr (.inr (.inl 207)), .inl ((-1), 299, []), .inl ((-1), 299, []), .inl ((-1), 299, []), .inl (ck_one 0)], ([], [], []), ([(207, 2, 8)], []), [(.inr none, 245, ([], [], [(207, 8, 8, ck_one 0), (207, 6, 6, ck_one 0), (207, 3, 3, ck_one 0), (207, 7, 7, ((-1), 299, [])), (207, 5, 5, ((-1), 299, []))]))])
set_option maxRecDepth 100000 in
theorem p2_s1610_e : ck_ok p2_O none [] [] 29 [] 114 p2_s1610 = true := by decide +kernel
theorem p2_s1610_s {X : Int → Int} {LX : Nat} : ck_Ok p2_O X LX 29 p2_s1610 := ck_ok_s ⟨p2_nmu, ck_E0⟩ ck_X0 ck_l0 p2_s1610_e
set_option maxRecDepth 100000 in
/-- GlacierMail$Way.start -/
def p2_s1611 : ck_Sum := ((0, 0, 0), 245, [.inr (.inr (.inl 207)), .inl ((-1), 299, []), .inl ((-1), 299, []), .inl ((-1), 299, []), .inl (ck_one 1)], ([], [], []), ([(207, 2, 8)], []), [(.inr none, 245, ([], [], [(207, 8, 8, ck_one 0), (207, 6, 6, ck_one 0), (207, 3, 3, ck_one 1), (207, 7, 7, ((-1), 299, [])), (207, 5, 5, ((-1), 299, []))]))])
set_option maxRecDepth 100000 in
theorem p2_s1611_e : ck_ok p2_O none [] [] 29 [] 114 p2_s1611 = true := by decide +kernel
theorem p2_s1611_s {X : Int → Int} {LX : Nat} : ck_Ok p2_O X LX 29 p2_s1611 := ck_ok_s ⟨p2_nmu, ck_E0⟩ ck_X0 ck_l0 p2_s1611_e
set_option maxRecDepth 100000 in
/-- GlacierMail$Way.startLetter -/
def p2_s1612 : ck_Sum := ((2, 0, 0), 245, [.inr (.inr (.inl 207)), .inl (0, 23, [])], ([], [], []), ([(207, 2, 8)], []), [(.inr none, 245, ([], [], [(207, 8, 8, ck_one 0), (207, 6, 6, ck_one 0), (207, 7, 7, ((-1), 299, [])), (207, 5, 5, ((-1), 299, []))]))])
set_option maxRecDepth 100000 in
theorem p2_s1612_e : ck_ok p2_O none [] [(10, [p2_s363]), (28, [p2_s364]), (29, [p2_s1610, p2_s1611])] 27 [] 116 p2_s1612 = true := by decide +kernel
theorem p2_s1612_s {X : Int → Int} {LX : Nat} : ck_Ok p2_O X LX 27 p2_s1612 := ck_ok_s ⟨p2_nmu, ck_E1 (ck_S1 p2_s363_s ck_S0) (ck_E1 (ck_S1 p2_s364_s ck_S0) (ck_E1 (ck_S1 p2_s1610_s (ck_S1 p2_s1611_s ck_S0)) ck_E0))⟩ ck_X0 ck_l0 p2_s1612_e
set_option maxRecDepth 100000 in
/-- GlacierMail$Way.isOut -/
def p2_s1613 : ck_Sum := ((0, 0, 0), 245, [.inr (.inr (.inl 207))], ([], [], []), ([], []), [(.inr (some (.inl (ck_one 0))), 245, ([], [], [(207, 5, 5, ((-2147483648), 98, []))])), (.inr (some (.inl (ck_one 1))), 245, ([], [], [(207, 5, 5, (10, 2147483647, []))]))])
set_option maxRecDepth 100000 in
theorem p2_s1613_e : ck_ok p2_O none [] [] 31 [] 88 p2_s1613 = true := by decide +kernel
theorem p2_s1613_s {X : Int → Int} {LX : Nat} : ck_Ok p2_O X LX 31 p2_s1613 := ck_ok_s ⟨p2_nmu, ck_E0⟩ ck_X0 ck_l0 p2_s1613_e
set_option maxRecDepth 100000 in
/-- GlacierMail$Way.deepAfter -/
def p2_s1614 : ck_Sum := ((1, 0, 0), 245, [.inr (.inr (.inl 207))], ([], [], []), ([], []), [(.inr (some (.inl (0, 99, []))), 245, ([], [], []))])
set_option maxRecDepth 100000 in
theorem p2_s1614_e : ck_ok p2_O none [] [(34, [p2_s369])] 33 [] 110 p2_s1614 = true := by decide +kernel
theorem p2_s1614_s {X : Int → Int} {LX : Nat} : ck_Ok p2_O X LX 33 p2_s1614 := ck_ok_s ⟨p2_nmu, ck_E1 (ck_S1 p2_s369_s ck_S0) ck_E0⟩ ck_X0 ck_l0 p2_s1614_e
set_option maxRecDepth 100000 in
/-- GlacierMail$Way.takeFloods -/
def p2_s1615 : ck_Sum := ((1, 0, 0), 245, [.inr (.inr (.inl 207))], ([], [], []), ([(207, 5, 5), (207, 8, 8)], []), [(.inr none, 245, ([], [], []))])
set_option maxRecDepth 100000 in
theorem p2_s1615_e : ck_ok p2_O none [] [(44, [p2_s371]), (9, [p2_s159]), (10, [p2_s160])] 43 [(22, [some (.inr (.inr (.inl 207))), some (.inr (.inr (.inl 6))), some (.inl ((-2147483648), 2147483647, [])), some (.inl (0, 9, [])), none], ([], [], []), 100, .inl 3, true)] 290 p2_s1615 = true := by decide +kernel
theorem p2_s1615_s {X : Int → Int} {LX : Nat} : ck_Ok p2_O X LX 43 p2_s1615 := ck_ok_s ⟨p2_nmu, ck_E1 (ck_S1 p2_s371_s ck_S0) (ck_E1 (ck_S1 p2_s159_s ck_S0) (ck_E1 (ck_S1 p2_s160_s ck_S0) ck_E0))⟩ ck_X0 ck_l0 p2_s1615_e
set_option maxRecDepth 100000 in
/-- GlacierMail$Way.step -/
def p2_s1616 : ck_Sum := ((2, 0, 0), 245, [.inr (.inr (.inl 207))], ([], [(3, 8, 0)], []), ([(207, 5, 8)], []), [(.inr none, 245, ([], [], []))])
set_option maxRecDepth 100000 in
theorem p2_s1616_e : ck_ok p2_O none [] [(31, [p2_s1613]), (33, [p2_s1614]), (35, [p2_s335]), (43, [p2_s1615])] 32 [] 134 p2_s1616 = true := by decide +kernel
theorem p2_s1616_s {X : Int → Int} {LX : Nat} : ck_Ok p2_O X LX 32 p2_s1616 := ck_ok_s ⟨p2_nmu, ck_E1 (ck_S1 p2_s1613_s ck_S0) (ck_E1 (ck_S1 p2_s1614_s ck_S0) (ck_E1 (ck_S1 p2_s335_s ck_S0) (ck_E1 (ck_S1 p2_s1615_s ck_S0) ck_E0)))⟩ ck_X0 ck_l0 p2_s1616_e
set_option maxRecDepth 100000 in
/-- GlacierMail$Way.goOnTo -/
def p2_s1617 : ck_Sum := ((3, 0, 0), 245, [.inr (.inr (.inl 207)), .inl (0, 299, [])], ([], [(3, 8, 0)], []), ([(207, 5, 8)], []), [(.inr none, 245, ([], [], []))])
set_option maxRecDepth 100000 in
theorem p2_s1617_e : ck_ok p2_O none [] [(32, [p2_s1616])] 148 [(5, [some (.inr (.inr (.inl 207))), some (.inl (0, 299, [])), some (.inl ((-2147483648), 2147483647, []))], ([], [(3, 8, 0)], []), 100, .inl 2, true)] 122 p2_s1617 = true := by decide +kernel
theorem p2_s1617_s {X : Int → Int} {LX : Nat} : ck_Ok p2_O X LX 148 p2_s1617 := ck_ok_s ⟨p2_nmu, ck_E1 (ck_S1 p2_s1616_s ck_S0) ck_E0⟩ ck_X0 ck_l0 p2_s1617_e
set_option maxRecDepth 100000 in
/-- GlacierMail.startBoth -/
def p2_s1662 : ck_Sum := ((4, 0, 0), 245, [.inr (.inr (.inl 1)), .inl (0, 23, []), .inl (0, 23, []), .inl (ck_one 0)], ([], [(3, 8, 0)], []), ([(206, 2, 8), (207, 2, 8)], []), [(.inr (some (.inl (0, 299, []))), 245, ([], [], [(206, 4, 4, ck_one (-1)), (206, 2, 2, ((-1), 299, []))]))])
set_option maxRecDepth 100000 in
theorem p2_s1662_e : ck_ok p2_O none [] [(27, [p2_s367, p2_s1612]), (148, [p2_s547, p2_s1617])] 182 [] 126 p2_s1662 = true := by decide +kernel
theorem p2_s1662_s {X : Int → Int} {LX : Nat} : ck_Ok p2_O X LX 182 p2_s1662 := ck_ok_s ⟨p2_nmu, ck_E1 (ck_S1 p2_s367_s (ck_S1 p2_s1612_s ck_S0)) (ck_E1 (ck_S1 p2_s547_s (ck_S1 p2_s1617_s ck_S0)) ck_E0)⟩ ck_X0 ck_l0 p2_s1662_e
set_option maxRecDepth 100000 in
/-- GlacierMail.bothInIce -/
def p2_s1619 : ck_Sum := ((1, 0, 0), 245, [.inr (.inr (.inl 1))], ([], [], []), ([], []), [(.inr (some (.inl (ck_one 1))), 245, ([], [], [(207, 5, 5, ((-2147483648), 98, [])), (206, 5, 5, ((-2147483648), 98, []))])), (.inr (some (.inl (ck_one 0))), 245, ([], [], []))])
set_option maxRecDepth 100000 in
theorem p2_s1619_e : ck_ok p2_O none [] [(31, [p2_s368, p2_s1613])] 183 [] 92 p2_s1619 = true := by decide +kernel
theorem p2_s1619_s {X : Int → Int} {LX : Nat} : ck_Ok p2_O X LX 183 p2_s1619 := ck_ok_s ⟨p2_nmu, ck_E1 (ck_S1 p2_s368_s (ck_S1 p2_s1613_s ck_S0)) ck_E0⟩ ck_X0 ck_l0 p2_s1619_e
set_option maxRecDepth 100000 in
/-- GlacierMail.stepBoth -/
def p2_s1620 : ck_Sum := ((3, 0, 0), 245, [.inr (.inr (.inl 1))], ([], [(3, 8, 0)], []), ([(206, 5, 8), (207, 5, 8)], []), [(.inr none, 245, ([], [], []))])
set_option maxRecDepth 100000 in
theorem p2_s1620_e : ck_ok p2_O none [] [(32, [p2_s373, p2_s1616])] 184 [] 84 p2_s1620 = true := by decide +kernel
theorem p2_s1620_s {X : Int → Int} {LX : Nat} : ck_Ok p2_O X LX 184 p2_s1620 := ck_ok_s ⟨p2_nmu, ck_E1 (ck_S1 p2_s373_s (ck_S1 p2_s1616_s ck_S0)) ck_E0⟩ ck_X0 ck_l0 p2_s1620_e
set_option maxRecDepth 100000 in
/-- GlacierMail.passesBy -/
def p2_s1663 : ck_Sum := ((5, 0, 0), 245, [.inr (.inr (.inl 1)), .inl (0, 23, []), .inl (0, 23, [])], ([], [(3, 8, 0)], []), ([(206, 2, 8), (207, 2, 8)], []), [(.inr (some (.inl (ck_one 0))), 245, ([], [], [(206, 4, 4, ck_one (-1)), (206, 2, 2, ((-1), 299, []))])), (.inr (some (.inl (ck_one 1))), 245, ([], [], [(207, 5, 5, ((-2147483648), 97, [])), (206, 5, 5, ((-2147483647), 98, [])), (206, 4, 4, ck_one (-1)), (206, 2, 2, ((-1), 299, []))]))])
set_option maxRecDepth 100000 in
theorem p2_s1663_e : ck_ok p2_O none [] [(182, [p2_s1662]), (183, [p2_s1619]), (184, [p2_s1620])] 181 [(39, [some (.inr (.inr (.inl 1))), some (.inl (0, 23, [])), some (.inl (0, 23, [])), some (.inl (0, 299, [])), some (.inl (1, 300, []))], ([], [(3, 8, 0)], [(207, 5, 5, ((-2147483648), 98, [])), (206, 5, 5, ((-2147483648), 98, [])), (206, 4, 4, ck_one (-1)), (206, 2, 2, ((-1), 299, []))]), 100, .inl 4, true)] 174 p2_s1663 = true := by decide +kernel
theorem p2_s1663_s {X : Int → Int} {LX : Nat} : ck_Ok p2_O X LX 181 p2_s1663 := ck_ok_s ⟨p2_nmu, ck_E1 (ck_S1 p2_s1662_s ck_S0) (ck_E1 (ck_S1 p2_s1619_s ck_S0) (ck_E1 (ck_S1 p2_s1620_s ck_S0) ck_E0))⟩ ck_X0 ck_l0 p2_s1663_e
set_option maxRecDepth 100000 in
/-- GlacierMail.passes -/
def p2_s1664 : ck_Sum := ((8, 1, 6), 245, [.inr (.inr (.inl 1)), .inl (0, 23, [])], ([], [(3, 8, 0)], []), ([(206, 2, 8), (207, 2, 8)], []), [(.inl 3, 245, ([], [], [])), (.inr (some (.inl ((-2147483648), 2147483647, []))), 245, ([], [], []))])
set_option maxRecDepth 100000 in
theorem p2_s1664_e : ck_ok p2_O none [] [(143, [p2_s519]), (9, [p2_s359]), (180, [p2_s1661]), (181, [p2_s1663])] 179 [(9, [some (.inr (.inr (.inl 1))), some (.inl (0, 23, [])), some (.inl ((-2147483648), 2147483647, [])), some (.inl (0, 24, []))], ([], [(3, 8, 0)], []), 100, .inl 3, true)] 182 p2_s1664 = true := by decide +kernel
theorem p2_s1664_s {X : Int → Int} {LX : Nat} : ck_Ok p2_O X LX 179 p2_s1664 := ck_ok_s ⟨p2_nmu, ck_E1 (ck_S1 p2_s519_s ck_S0) (ck_E1 (ck_S1 p2_s359_s ck_S0) (ck_E1 (ck_S1 p2_s1661_s ck_S0) (ck_E1 (ck_S1 p2_s1663_s ck_S0) ck_E0)))⟩ ck_X0 ck_l0 p2_s1664_e
set_option maxRecDepth 100000 in
/-- GlacierMailModel.passes -/
def p2_s1665 : ck_Sum := ((2, 0, 0), 245, [.inr (.inr (.inl 226)), .inl ((-2147483648), (-1), [])], ([], [], [(227, 4, 4, (0, 24, [(22, 0)]))]), ([(226, 0, 0)], []), [(.inr (some (.inl (ck_one 0))), 245, ([], [], [(226, 0, 0, ck_one 1)]))])
set_option maxRecDepth 100000 in
theorem p2_s1665_e : ck_ok p2_O none [] [(309, [p2_s526]), (282, [p2_s268])] 334 [] 94 p2_s1665 = true := by decide +kernel
theorem p2_s1665_s {X : Int → Int} {LX : Nat} : ck_Ok p2_O X LX 334 p2_s1665 := ck_ok_s ⟨p2_nmu, ck_E1 (ck_S1 p2_s526_s ck_S0) (ck_E1 (ck_S1 p2_s268_s ck_S0) ck_E0)⟩ ck_X0 ck_l0 p2_s1665_e
set_option maxRecDepth 100000 in
/-- GlacierMailModel.passes -/
def p2_s1666 : ck_Sum := ((2, 0, 0), 245, [.inr (.inr (.inl 226)), .inl (24, 2147483647, [])], ([], [], [(227, 4, 4, (0, 24, [(22, 0)]))]), ([(226, 0, 0)], []), [(.inr (some (.inl (ck_one 0))), 245, ([], [], [(226, 0, 0, ck_one 1)]))])
set_option maxRecDepth 100000 in
theorem p2_s1666_e : ck_ok p2_O none [] [(309, [p2_s529]), (282, [p2_s268])] 334 [] 94 p2_s1666 = true := by decide +kernel
theorem p2_s1666_s {X : Int → Int} {LX : Nat} : ck_Ok p2_O X LX 334 p2_s1666 := ck_ok_s ⟨p2_nmu, ck_E1 (ck_S1 p2_s529_s ck_S0) (ck_E1 (ck_S1 p2_s268_s ck_S0) ck_E0)⟩ ck_X0 ck_l0 p2_s1666_e
set_option maxRecDepth 100000 in
/-- GlacierMailModel.keepsRows -/
def p2_s1667 : ck_Sum := ((0, 0, 0), 245, [.inr (.inr (.inl 226))], ([], [], []), ([(239, 0, 299)], []), [(.inr none, 245, ([], [], []))])
set_option maxRecDepth 100000 in
theorem p2_s1667_e : ck_ok p2_O none [] [] 335 [(2, [some (.inr (.inr (.inl 226))), some (.inl (0, 300, []))], ([], [], []), 100, .inl 1, true)] 146 p2_s1667 = true := by decide +kernel
theorem p2_s1667_s {X : Int → Int} {LX : Nat} : ck_Ok p2_O X LX 335 p2_s1667 := ck_ok_s ⟨p2_nmu, ck_E0⟩ ck_X0 ck_l0 p2_s1667_e
set_option maxRecDepth 100000 in
/-- GlacierMailModel.isOtherInIce -/
def p2_s1670 : ck_Sum := ((1, 0, 0), 245, [.inr (.inr (.inl 226)), .inl (0, 299, [])], ([], [], []), ([], []), [(.inr (some (.inl (ck_one 0))), 245, ([], [], [])), (.inr (some (.inl (ck_one 1))), 245, ([], [], []))])
set_option maxRecDepth 100000 in
theorem p2_s1670_e : ck_ok p2_O none [] [(259, [p2_s200])] 337 [] 100 p2_s1670 = true := by decide +kernel
theorem p2_s1670_s {X : Int → Int} {LX : Nat} : ck_Ok p2_O X LX 337 p2_s1670 := ck_ok_s ⟨p2_nmu, ck_E1 (ck_S1 p2_s200_s ck_S0) ck_E0⟩ ck_X0 ck_l0 p2_s1670_e
set_option maxRecDepth 100000 in
/-- GlacierMailModel.isOtherInIce -/
def p2_s1671 : ck_Sum := ((1, 0, 0), 245, [.inr (.inr (.inl 226)), .inl (1, 299, [])], ([], [], []), ([], []), [(.inr (some (.inl (ck_one 0))), 245, ([], [], [])), (.inr (some (.inl (ck_one 1))), 245, ([], [], []))])
set_option maxRecDepth 100000 in
theorem p2_s1671_e : ck_ok p2_O none [] [(259, [p2_s200])] 337 [] 100 p2_s1671 = true := by decide +kernel
theorem p2_s1671_s {X : Int → Int} {LX : Nat} : ck_Ok p2_O X LX 337 p2_s1671 := ck_ok_s ⟨p2_nmu, ck_E1 (ck_S1 p2_s200_s ck_S0) ck_E0⟩ ck_X0 ck_l0 p2_s1671_e
set_option maxRecDepth 100000 in
/-- GlacierMailModel.isPassing -/
def p2_s1672 : ck_Sum := ((2, 0, 0), 245, [.inr (.inr (.inl 226)), .inl (0, 299, [])], ([], [], []), ([], []), [(.inr (some (.inl (ck_one 0))), 245, ([], [], [])), (.inr (some (.inl (ck_one 1))), 245, ([], [], []))])
set_option maxRecDepth 100000 in
theorem p2_s1672_e : ck_ok p2_O none [] [(312, [p2_s538]), (337, [p2_s1670, p2_s1671])] 336 [(37, [some (.inr (.inr (.inl 226))), some (.inl (0, 299, [])), some (.inl (1, 300, []))], ([], [], []), 100, .inl 2, true)] 182 p2_s1672 = true := by decide +kernel
theorem p2_s1672_s {X : Int → Int} {LX : Nat} : ck_Ok p2_O X LX 336 p2_s1672 := ck_ok_s ⟨p2_nmu, ck_E1 (ck_S1 p2_s538_s ck_S0) (ck_E1 (ck_S1 p2_s1670_s (ck_S1 p2_s1671_s ck_S0)) ck_E0)⟩ ck_X0 ck_l0 p2_s1672_e
set_option maxRecDepth 100000 in
/-- GlacierMail.writers -/
def p2_s1689 : ck_Sum := ((8, 1, 6), 245, [.inr (.inr (.inl 1)), .inl ((-2147483648), (-1), []), .inl ((-2147483648), 2147483647, []), .inl ((-2147483648), 2147483647, [])], ([], [], []), ([], []), [(.inl 3, 245, ([], [], []))])
set_option maxRecDepth 100000 in
theorem p2_s1689_e : ck_ok p2_O none [] [(132, [p2_s293])] 186 [] 76 p2_s1689 = true := by decide +kernel
theorem p2_s1689_s {X : Int → Int} {LX : Nat} : ck_Ok p2_O X LX 186 p2_s1689 := ck_ok_s ⟨p2_nmu, ck_E1 (ck_S1 p2_s293_s ck_S0) ck_E0⟩ ck_X0 ck_l0 p2_s1689_e
set_option maxRecDepth 100000 in
/-- GlacierMail.writers -/
def p2_s1690 : ck_Sum := ((8, 1, 6), 245, [.inr (.inr (.inl 1)), .inl (6, 2147483647, []), .inl ((-2147483648), 2147483647, []), .inl ((-2147483648), 2147483647, [])], ([], [], []), ([], []), [(.inl 3, 245, ([], [], []))])
set_option maxRecDepth 100000 in
theorem p2_s1690_e : ck_ok p2_O none [] [(132, [p2_s296])] 186 [] 76 p2_s1690 = true := by decide +kernel
theorem p2_s1690_s {X : Int → Int} {LX : Nat} : ck_Ok p2_O X LX 186 p2_s1690 := ck_ok_s ⟨p2_nmu, ck_E1 (ck_S1 p2_s296_s ck_S0) ck_E0⟩ ck_X0 ck_l0 p2_s1690_e
set_option maxRecDepth 100000 in
/-- GlacierMail.needFind -/
def p2_s1691 : ck_Sum := ((7, 1, 6), 245, [.inr (.inr (.inl 1)), .inl ((-2147483648), (-1), []), .inl ((-2147483648), 2147483647, [])], ([], [], []), ([], []), [(.inl 0, 245, ([], [], []))])
set_option maxRecDepth 100000 in
theorem p2_s1691_e : ck_ok p2_O none [] [(129, [p2_s276])] 187 [] 76 p2_s1691 = true := by decide +kernel
theorem p2_s1691_s {X : Int → Int} {LX : Nat} : ck_Ok p2_O X LX 187 p2_s1691 := ck_ok_s ⟨p2_nmu, ck_E1 (ck_S1 p2_s276_s ck_S0) ck_E0⟩ ck_X0 ck_l0 p2_s1691_e
set_option maxRecDepth 100000 in
/-- GlacierMail.writers -/
def p2_s1692 : ck_Sum := ((8, 2, 12), 245, [.inr (.inr (.inl 1)), .inl (0, 5, []), .inl ((-2147483648), (-1), []), .inl ((-2147483648), 2147483647, [])], ([], [], []), ([], []), [(.inl 3, 245, ([], [], [])), (.inl 0, 245, ([], [], []))])
set_option maxRecDepth 100000 in
theorem p2_s1692_e : ck_ok p2_O none [] [(132, [p2_s299]), (187, [p2_s1691])] 186 [] 84 p2_s1692 = true := by decide +kernel
theorem p2_s1692_s {X : Int → Int} {LX : Nat} : ck_Ok p2_O X LX 186 p2_s1692 := ck_ok_s ⟨p2_nmu, ck_E1 (ck_S1 p2_s299_s ck_S0) (ck_E1 (ck_S1 p2_s1691_s ck_S0) ck_E0)⟩ ck_X0 ck_l0 p2_s1692_e
set_option maxRecDepth 100000 in
/-- GlacierMail.needFind -/
def p2_s1693 : ck_Sum := ((7, 1, 6), 245, [.inr (.inr (.inl 1)), .inl (300, 2147483647, []), .inl ((-2147483648), 2147483647, [])], ([], [], []), ([], []), [(.inl 0, 245, ([], [], []))])
set_option maxRecDepth 100000 in
theorem p2_s1693_e : ck_ok p2_O none [] [(129, [p2_s278])] 187 [] 76 p2_s1693 = true := by decide +kernel
theorem p2_s1693_s {X : Int → Int} {LX : Nat} : ck_Ok p2_O X LX 187 p2_s1693 := ck_ok_s ⟨p2_nmu, ck_E1 (ck_S1 p2_s278_s ck_S0) ck_E0⟩ ck_X0 ck_l0 p2_s1693_e
set_option maxRecDepth 100000 in
/-- GlacierMail.writers -/
def p2_s1694 : ck_Sum := ((8, 2, 12), 245, [.inr (.inr (.inl 1)), .inl (0, 5, []), .inl (300, 2147483647, []), .inl ((-2147483648), 2147483647, [])], ([], [], []), ([], []), [(.inl 3, 245, ([], [], [])), (.inl 0, 245, ([], [], []))])
set_option maxRecDepth 100000 in
theorem p2_s1694_e : ck_ok p2_O none [] [(132, [p2_s299]), (187, [p2_s1693])] 186 [] 84 p2_s1694 = true := by decide +kernel
theorem p2_s1694_s {X : Int → Int} {LX : Nat} : ck_Ok p2_O X LX 186 p2_s1694 := ck_ok_s ⟨p2_nmu, ck_E1 (ck_S1 p2_s299_s ck_S0) (ck_E1 (ck_S1 p2_s1693_s ck_S0) ck_E0)⟩ ck_X0 ck_l0 p2_s1694_e
set_option maxRecDepth 100000 in
/-- GlacierMail.needFind -/
def p2_s1695 : ck_Sum := ((6, 1, 6), 245, [.inr (.inr (.inl 1)), .inl (0, 299, []), .inl ((-2147483648), (-1), [])], ([], [], []), ([], []), [(.inl 0, 245, ([], [], []))])
set_option maxRecDepth 100000 in
theorem p2_s1695_e : ck_ok p2_O none [] [(129, [p2_s280])] 187 [] 82 p2_s1695 = true := by decide +kernel
theorem p2_s1695_s {X : Int → Int} {LX : Nat} : ck_Ok p2_O X LX 187 p2_s1695 := ck_ok_s ⟨p2_nmu, ck_E1 (ck_S1 p2_s280_s ck_S0) ck_E0⟩ ck_X0 ck_l0 p2_s1695_e
set_option maxRecDepth 100000 in
/-- GlacierMail.writers -/
def p2_s1696 : ck_Sum := ((8, 2, 12), 245, [.inr (.inr (.inl 1)), .inl (0, 5, []), .inl (0, 299, []), .inl ((-2147483648), (-1), [])], ([], [], []), ([], []), [(.inl 3, 245, ([], [], [])), (.inl 0, 245, ([], [], []))])
set_option maxRecDepth 100000 in
theorem p2_s1696_e : ck_ok p2_O none [] [(132, [p2_s299]), (187, [p2_s1695])] 186 [] 84 p2_s1696 = true := by decide +kernel
theorem p2_s1696_s {X : Int → Int} {LX : Nat} : ck_Ok p2_O X LX 186 p2_s1696 := ck_ok_s ⟨p2_nmu, ck_E1 (ck_S1 p2_s299_s ck_S0) (ck_E1 (ck_S1 p2_s1695_s ck_S0) ck_E0)⟩ ck_X0 ck_l0 p2_s1696_e
set_option maxRecDepth 100000 in
/-- GlacierMail.needFind -/
def p2_s1697 : ck_Sum := ((6, 1, 6), 245, [.inr (.inr (.inl 1)), .inl (0, 299, []), .inl (100, 2147483647, [])], ([], [], []), ([], []), [(.inl 0, 245, ([], [], []))])
set_option maxRecDepth 100000 in
theorem p2_s1697_e : ck_ok p2_O none [] [(129, [p2_s280])] 187 [] 88 p2_s1697 = true := by decide +kernel
theorem p2_s1697_s {X : Int → Int} {LX : Nat} : ck_Ok p2_O X LX 187 p2_s1697 := ck_ok_s ⟨p2_nmu, ck_E1 (ck_S1 p2_s280_s ck_S0) ck_E0⟩ ck_X0 ck_l0 p2_s1697_e
set_option maxRecDepth 100000 in
/-- GlacierMail.writers -/
def p2_s1698 : ck_Sum := ((8, 2, 12), 245, [.inr (.inr (.inl 1)), .inl (0, 5, []), .inl (0, 299, []), .inl (100, 2147483647, [])], ([], [], []), ([], []), [(.inl 3, 245, ([], [], [])), (.inl 0, 245, ([], [], []))])
set_option maxRecDepth 100000 in
theorem p2_s1698_e : ck_ok p2_O none [] [(132, [p2_s299]), (187, [p2_s1697])] 186 [] 84 p2_s1698 = true := by decide +kernel
theorem p2_s1698_s {X : Int → Int} {LX : Nat} : ck_Ok p2_O X LX 186 p2_s1698 := ck_ok_s ⟨p2_nmu, ck_E1 (ck_S1 p2_s299_s ck_S0) (ck_E1 (ck_S1 p2_s1697_s ck_S0) ck_E0)⟩ ck_X0 ck_l0 p2_s1698_e
set_option maxRecDepth 100000 in
/-- GlacierMail.needFind -/
def p2_s1699 : ck_Sum := ((1, 0, 0), 245, [.inr (.inr (.inl 1)), .inl (0, 299, []), .inl (0, 99, [])], ([], [], []), ([], []), [(.inr none, 245, ([], [], []))])
set_option maxRecDepth 100000 in
theorem p2_s1699_e : ck_ok p2_O none [] [(129, [p2_s280])] 187 [] 88 p2_s1699 = true := by decide +kernel
theorem p2_s1699_s {X : Int → Int} {LX : Nat} : ck_Ok p2_O X LX 187 p2_s1699 := ck_ok_s ⟨p2_nmu, ck_E1 (ck_S1 p2_s280_s ck_S0) ck_E0⟩ ck_X0 ck_l0 p2_s1699_e
set_option maxRecDepth 100000 in
/-- GlacierMail.latestWriting -/
def p2_s1706 : ck_Sum := ((4, 0, 0), 245, [.inr (.inr (.inl 1)), .inl (0, 7, []), .inl (0, 5, []), .inl (0, 299, []), .inl (0, 99, [])], ([], [(3, 8, 0)], []), ([(206, 2, 8)], []), [(.inr (some (.inl (ck_one (-1)))), 245, ([], [], [])), (.inr (some (.inl (0, 298, []))), 245, ([], [], [(206, 4, 4, ck_one (-1))]))])
set_option maxRecDepth 100000 in
theorem p2_s1706_e : ck_ok p2_O none [] [(10, [p2_s438]), (170, [p2_s1537]), (30, [p2_s374])] 188 [(23, [some (.inr (.inr (.inl 1))), some (.inl (0, 7, [])), some (.inl (0, 5, [])), some (.inl (0, 299, [])), some (.inl (0, 99, [])), some (.inl ((-1), 298, []))], ([], [(3, 8, 0)], []), 100, .inl 5, false)] 174 p2_s1706 = true := by decide +kernel
theorem p2_s1706_s {X : Int → Int} {LX : Nat} : ck_Ok p2_O X LX 188 p2_s1706 := ck_ok_s ⟨p2_nmu, ck_E1 (ck_S1 p2_s438_s ck_S0) (ck_E1 (ck_S1 p2_s1537_s ck_S0) (ck_E1 (ck_S1 p2_s374_s ck_S0) ck_E0))⟩ ck_X0 ck_l0 p2_s1706_e
set_option maxRecDepth 100000 in
/-- GlacierMail.writers -/
def p2_s1707 : ck_Sum := ((8, 1, 6), 245, [.inr (.inr (.inl 1)), .inl (0, 5, []), .inl (0, 299, []), .inl (0, 99, [])], ([], [(3, 8, 0)], []), ([(206, 2, 8)], []), [(.inl 3, 245, ([], [], [])), (.inr (some (.inl ((-2147483648), 2147483647, []))), 245, ([], [], []))])
set_option maxRecDepth 100000 in
theorem p2_s1707_e : ck_ok p2_O none [] [(132, [p2_s299]), (187, [p2_s1699]), (9, [p2_s348]), (188, [p2_s1706])] 186 [(17, [some (.inr (.inr (.inl 1))), some (.inl (0, 5, [])), some (.inl (0, 299, [])), some (.inl (0, 99, [])), some (.inl ((-2147483648), 2147483647, [])), some (.inl (0, 9, []))], ([], [(3, 8, 0)], []), 100, .inl 5, true)] 182 p2_s1707 = true := by decide +kernel
theorem p2_s1707_s {X : Int → Int} {LX : Nat} : ck_Ok p2_O X LX 186 p2_s1707 := ck_ok_s ⟨p2_nmu, ck_E1 (ck_S1 p2_s299_s ck_S0) (ck_E1 (ck_S1 p2_s1699_s ck_S0) (ck_E1 (ck_S1 p2_s348_s ck_S0) (ck_E1 (ck_S1 p2_s1706_s ck_S0) ck_E0)))⟩ ck_X0 ck_l0 p2_s1707_e
set_option maxRecDepth 100000 in
/-- GlacierMailModel.writers -/
def p2_s1708 : ck_Sum := ((2, 0, 0), 245, [.inr (.inr (.inl 226)), .inl ((-2147483648), (-1), []), .inl ((-2147483648), 2147483647, []), .inl ((-2147483648), 2147483647, [])], ([], [], []), ([(226, 0, 0)], []), [(.inr (some (.inl (ck_one 0))), 245, ([], [], [(226, 0, 0, ck_one 1)]))])
set_option maxRecDepth 100000 in
theorem p2_s1708_e : ck_ok p2_O none [] [(288, [p2_s311]), (282, [p2_s268])] 338 [] 94 p2_s1708 = true := by decide +kernel
theorem p2_s1708_s {X : Int → Int} {LX : Nat} : ck_Ok p2_O X LX 338 p2_s1708 := ck_ok_s ⟨p2_nmu, ck_E1 (ck_S1 p2_s311_s ck_S0) (ck_E1 (ck_S1 p2_s268_s ck_S0) ck_E0)⟩ ck_X0 ck_l0 p2_s1708_e
set_option maxRecDepth 100000 in
/-- GlacierMailModel.writers -/
def p2_s1709 : ck_Sum := ((2, 0, 0), 245, [.inr (.inr (.inl 226)), .inl (6, 2147483647, []), .inl ((-2147483648), 2147483647, []), .inl ((-2147483648), 2147483647, [])], ([], [], []), ([(226, 0, 0)], []), [(.inr (some (.inl (ck_one 0))), 245, ([], [], [(226, 0, 0, ck_one 1)]))])
set_option maxRecDepth 100000 in
theorem p2_s1709_e : ck_ok p2_O none [] [(288, [p2_s314]), (282, [p2_s268])] 338 [] 94 p2_s1709 = true := by decide +kernel
theorem p2_s1709_s {X : Int → Int} {LX : Nat} : ck_Ok p2_O X LX 338 p2_s1709 := ck_ok_s ⟨p2_nmu, ck_E1 (ck_S1 p2_s314_s ck_S0) (ck_E1 (ck_S1 p2_s268_s ck_S0) ck_E0)⟩ ck_X0 ck_l0 p2_s1709_e
set_option maxRecDepth 100000 in
/-- GlacierMailModel.writers -/
def p2_s1710 : ck_Sum := ((2, 0, 0), 245, [.inr (.inr (.inl 226)), .inl (0, 5, []), .inl ((-2147483648), (-1), []), .inl ((-2147483648), 2147483647, [])], ([], [], []), ([(226, 0, 0)], []), [(.inr (some (.inl (ck_one 0))), 245, ([], [], [(226, 0, 0, (1, 2, []))]))])
set_option maxRecDepth 100000 in
theorem p2_s1710_e : ck_ok p2_O none [] [(288, [p2_s317]), (282, [p2_s268, p2_s269, p2_s272]), (285, [p2_s284])] 338 [] 112 p2_s1710 = true := by decide +kernel
theorem p2_s1710_s {X : Int → Int} {LX : Nat} : ck_Ok p2_O X LX 338 p2_s1710 := ck_ok_s ⟨p2_nmu, ck_E1 (ck_S1 p2_s317_s ck_S0) (ck_E1 (ck_S1 p2_s268_s (ck_S1 p2_s269_s (ck_S1 p2_s272_s ck_S0))) (ck_E1 (ck_S1 p2_s284_s ck_S0) ck_E0))⟩ ck_X0 ck_l0 p2_s1710_e
set_option maxRecDepth 100000 in
/-- GlacierMailModel.writers -/
def p2_s1711 : ck_Sum := ((2, 0, 0), 245, [.inr (.inr (.inl 226)), .inl (0, 5, []), .inl (300, 2147483647, []), .inl ((-2147483648), 2147483647, [])], ([], [], []), ([(226, 0, 0)], []), [(.inr (some (.inl (ck_one 0))), 245, ([], [], [(226, 0, 0, (1, 2, []))]))])
set_option maxRecDepth 100000 in
theorem p2_s1711_e : ck_ok p2_O none [] [(288, [p2_s317]), (282, [p2_s268, p2_s269, p2_s272]), (285, [p2_s287])] 338 [] 112 p2_s1711 = true := by decide +kernel
theorem p2_s1711_s {X : Int → Int} {LX : Nat} : ck_Ok p2_O X LX 338 p2_s1711 := ck_ok_s ⟨p2_nmu, ck_E1 (ck_S1 p2_s317_s ck_S0) (ck_E1 (ck_S1 p2_s268_s (ck_S1 p2_s269_s (ck_S1 p2_s272_s ck_S0))) (ck_E1 (ck_S1 p2_s287_s ck_S0) ck_E0))⟩ ck_X0 ck_l0 p2_s1711_e
set_option maxRecDepth 100000 in
/-- GlacierMailModel.in -/
def p2_s1712 : ck_Sum := ((0, 0, 0), 245, [.inl ((-2147483648), (-1), []), .inl (ck_one 0), .inl (ck_one 99)], ([], [], []), ([], []), [(.inr (some (.inl (ck_one 0))), 245, ([], [], []))])
set_option maxRecDepth 100000 in
theorem p2_s1712_e : ck_ok p2_O none [] [] 286 [] 80 p2_s1712 = true := by decide +kernel
theorem p2_s1712_s {X : Int → Int} {LX : Nat} : ck_Ok p2_O X LX 286 p2_s1712 := ck_ok_s ⟨p2_nmu, ck_E0⟩ ck_X0 ck_l0 p2_s1712_e
set_option maxRecDepth 100000 in
/-- GlacierMailModel.writers -/
def p2_s1713 : ck_Sum := ((2, 0, 0), 245, [.inr (.inr (.inl 226)), .inl (0, 5, []), .inl (0, 299, []), .inl ((-2147483648), (-1), [])], ([], [], []), ([(226, 0, 0)], []), [(.inr (some (.inl (ck_one 0))), 245, ([], [], [(226, 0, 0, (1, 2, []))]))])
set_option maxRecDepth 100000 in
theorem p2_s1713_e : ck_ok p2_O none [] [(288, [p2_s317]), (282, [p2_s268, p2_s269, p2_s272]), (285, [p2_s290]), (286, [p2_s1712])] 338 [] 122 p2_s1713 = true := by decide +kernel
theorem p2_s1713_s {X : Int → Int} {LX : Nat} : ck_Ok p2_O X LX 338 p2_s1713 := ck_ok_s ⟨p2_nmu, ck_E1 (ck_S1 p2_s317_s ck_S0) (ck_E1 (ck_S1 p2_s268_s (ck_S1 p2_s269_s (ck_S1 p2_s272_s ck_S0))) (ck_E1 (ck_S1 p2_s290_s ck_S0) (ck_E1 (ck_S1 p2_s1712_s ck_S0) ck_E0)))⟩ ck_X0 ck_l0 p2_s1713_e
set_option maxRecDepth 100000 in
/-- GlacierMailModel.in -/
def p2_s1714 : ck_Sum := ((0, 0, 0), 245, [.inl (100, 2147483647, []), .inl (ck_one 0), .inl (ck_one 99)], ([], [], []), ([], []), [(.inr (some (.inl (ck_one 0))), 245, ([], [], []))])
set_option maxRecDepth 100000 in
theorem p2_s1714_e : ck_ok p2_O none [] [] 286 [] 86 p2_s1714 = true := by decide +kernel
theorem p2_s1714_s {X : Int → Int} {LX : Nat} : ck_Ok p2_O X LX 286 p2_s1714 := ck_ok_s ⟨p2_nmu, ck_E0⟩ ck_X0 ck_l0 p2_s1714_e
set_option maxRecDepth 100000 in
/-- GlacierMailModel.writers -/
def p2_s1715 : ck_Sum := ((2, 0, 0), 245, [.inr (.inr (.inl 226)), .inl (0, 5, []), .inl (0, 299, []), .inl (100, 2147483647, [])], ([], [], []), ([(226, 0, 0)], []), [(.inr (some (.inl (ck_one 0))), 245, ([], [], [(226, 0, 0, (1, 2, []))]))])
set_option maxRecDepth 100000 in
theorem p2_s1715_e : ck_ok p2_O none [] [(288, [p2_s317]), (282, [p2_s268, p2_s269, p2_s272]), (285, [p2_s290]), (286, [p2_s1714])] 338 [] 122 p2_s1715 = true := by decide +kernel
theorem p2_s1715_s {X : Int → Int} {LX : Nat} : ck_Ok p2_O X LX 338 p2_s1715 := ck_ok_s ⟨p2_nmu, ck_E1 (ck_S1 p2_s317_s ck_S0) (ck_E1 (ck_S1 p2_s268_s (ck_S1 p2_s269_s (ck_S1 p2_s272_s ck_S0))) (ck_E1 (ck_S1 p2_s290_s ck_S0) (ck_E1 (ck_S1 p2_s1714_s ck_S0) ck_E0)))⟩ ck_X0 ck_l0 p2_s1715_e
set_option maxRecDepth 100000 in
/-- GlacierMailModel.in -/
def p2_s1716 : ck_Sum := ((0, 0, 0), 245, [.inl (0, 99, []), .inl (ck_one 0), .inl (ck_one 99)], ([], [], []), ([], []), [(.inr (some (.inl (ck_one 1))), 245, ([], [], []))])
set_option maxRecDepth 100000 in
theorem p2_s1716_e : ck_ok p2_O none [] [] 286 [] 88 p2_s1716 = true := by decide +kernel
theorem p2_s1716_s {X : Int → Int} {LX : Nat} : ck_Ok p2_O X LX 286 p2_s1716 := ck_ok_s ⟨p2_nmu, ck_E0⟩ ck_X0 ck_l0 p2_s1716_e
set_option maxRecDepth 100000 in
/-- GlacierMail.wrote -/
def p2_s1726 : ck_Sum := ((8, 1, 6), 245, [.inr (.inr (.inl 1)), .inl ((-2147483648), (-1), []), .inl ((-2147483648), 2147483647, []), .inl ((-2147483648), 2147483647, []), .inl ((-2147483648), 2147483647, [])], ([], [], []), ([], []), [(.inl 3, 245, ([], [], []))])
set_option maxRecDepth 100000 in
theorem p2_s1726_e : ck_ok p2_O none [] [(139, [p2_s350])] 190 [] 76 p2_s1726 = true := by decide +kernel
theorem p2_s1726_s {X : Int → Int} {LX : Nat} : ck_Ok p2_O X LX 190 p2_s1726 := ck_ok_s ⟨p2_nmu, ck_E1 (ck_S1 p2_s350_s ck_S0) ck_E0⟩ ck_X0 ck_l0 p2_s1726_e
set_option maxRecDepth 100000 in
/-- GlacierMail.wrote -/
def p2_s1727 : ck_Sum := ((8, 1, 6), 245, [.inr (.inr (.inl 1)), .inl (8, 2147483647, []), .inl ((-2147483648), 2147483647, []), .inl ((-2147483648), 2147483647, []), .inl ((-2147483648), 2147483647, [])], ([], [], []), ([], []), [(.inl 3, 245, ([], [], []))])
set_option maxRecDepth 100000 in
theorem p2_s1727_e : ck_ok p2_O none [] [(139, [p2_s353])] 190 [] 76 p2_s1727 = true := by decide +kernel
theorem p2_s1727_s {X : Int → Int} {LX : Nat} : ck_Ok p2_O X LX 190 p2_s1727 := ck_ok_s ⟨p2_nmu, ck_E1 (ck_S1 p2_s353_s ck_S0) ck_E0⟩ ck_X0 ck_l0 p2_s1727_e
set_option maxRecDepth 100000 in
/-- GlacierMail.wrote -/
def p2_s1728 : ck_Sum := ((8, 2, 12), 245, [.inr (.inr (.inl 1)), .inl (0, 7, []), .inl ((-2147483648), (-1), []), .inl ((-2147483648), 2147483647, []), .inl ((-2147483648), 2147483647, [])], ([], [], []), ([], []), [(.inl 3, 245, ([], [], []))])
set_option maxRecDepth 100000 in
theorem p2_s1728_e : ck_ok p2_O none [] [(139, [p2_s356]), (132, [p2_s293])] 190 [] 82 p2_s1728 = true := by decide +kernel
theorem p2_s1728_s {X : Int → Int} {LX : Nat} : ck_Ok p2_O X LX 190 p2_s1728 := ck_ok_s ⟨p2_nmu, ck_E1 (ck_S1 p2_s356_s ck_S0) (ck_E1 (ck_S1 p2_s293_s ck_S0) ck_E0)⟩ ck_X0 ck_l0 p2_s1728_e
set_option maxRecDepth 100000 in
/-- GlacierMail.wrote -/
def p2_s1729 : ck_Sum := ((8, 2, 12), 245, [.inr (.inr (.inl 1)), .inl (0, 7, []), .inl (6, 2147483647, []), .inl ((-2147483648), 2147483647, []), .inl ((-2147483648), 2147483647, [])], ([], [], []), ([], []), [(.inl 3, 245, ([], [], []))])
set_option maxRecDepth 100000 in
theorem p2_s1729_e : ck_ok p2_O none [] [(139, [p2_s356]), (132, [p2_s296])] 190 [] 82 p2_s1729 = true := by decide +kernel
theorem p2_s1729_s {X : Int → Int} {LX : Nat} : ck_Ok p2_O X LX 190 p2_s1729 := ck_ok_s ⟨p2_nmu, ck_E1 (ck_S1 p2_s356_s ck_S0) (ck_E1 (ck_S1 p2_s296_s ck_S0) ck_E0)⟩ ck_X0 ck_l0 p2_s1729_e
set_option maxRecDepth 100000 in
/-- GlacierMail.wrote -/
def p2_s1730 : ck_Sum := ((8, 3, 18), 245, [.inr (.inr (.inl 1)), .inl (0, 7, []), .inl (0, 5, []), .inl ((-2147483648), (-1), []), .inl ((-2147483648), 2147483647, [])], ([], [], []), ([], []), [(.inl 3, 245, ([], [], [])), (.inl 0, 245, ([], [], []))])
set_option maxRecDepth 100000 in
theorem p2_s1730_e : ck_ok p2_O none [] [(139, [p2_s356]), (132, [p2_s299]), (187, [p2_s1691])] 190 [] 90 p2_s1730 = true := by decide +kernel
theorem p2_s1730_s {X : Int → Int} {LX : Nat} : ck_Ok p2_O X LX 190 p2_s1730 := ck_ok_s ⟨p2_nmu, ck_E1 (ck_S1 p2_s356_s ck_S0) (ck_E1 (ck_S1 p2_s299_s ck_S0) (ck_E1 (ck_S1 p2_s1691_s ck_S0) ck_E0))⟩ ck_X0 ck_l0 p2_s1730_e
set_option maxRecDepth 100000 in
/-- GlacierMail.wrote -/
def p2_s1731 : ck_Sum := ((8, 3, 18), 245, [.inr (.inr (.inl 1)), .inl (0, 7, []), .inl (0, 5, []), .inl (300, 2147483647, []), .inl ((-2147483648), 2147483647, [])], ([], [], []), ([], []), [(.inl 3, 245, ([], [], [])), (.inl 0, 245, ([], [], []))])
set_option maxRecDepth 100000 in
theorem p2_s1731_e : ck_ok p2_O none [] [(139, [p2_s356]), (132, [p2_s299]), (187, [p2_s1693])] 190 [] 90 p2_s1731 = true := by decide +kernel
theorem p2_s1731_s {X : Int → Int} {LX : Nat} : ck_Ok p2_O X LX 190 p2_s1731 := ck_ok_s ⟨p2_nmu, ck_E1 (ck_S1 p2_s356_s ck_S0) (ck_E1 (ck_S1 p2_s299_s ck_S0) (ck_E1 (ck_S1 p2_s1693_s ck_S0) ck_E0))⟩ ck_X0 ck_l0 p2_s1731_e
set_option maxRecDepth 100000 in
/-- GlacierMail.wrote -/
def p2_s1732 : ck_Sum := ((8, 3, 18), 245, [.inr (.inr (.inl 1)), .inl (0, 7, []), .inl (0, 5, []), .inl (0, 299, []), .inl ((-2147483648), (-1), [])], ([], [], []), ([], []), [(.inl 3, 245, ([], [], [])), (.inl 0, 245, ([], [], []))])
set_option maxRecDepth 100000 in
theorem p2_s1732_e : ck_ok p2_O none [] [(139, [p2_s356]), (132, [p2_s299]), (187, [p2_s1695])] 190 [] 90 p2_s1732 = true := by decide +kernel
theorem p2_s1732_s {X : Int → Int} {LX : Nat} : ck_Ok p2_O X LX 190 p2_s1732 := ck_ok_s ⟨p2_nmu, ck_E1 (ck_S1 p2_s356_s ck_S0) (ck_E1 (ck_S1 p2_s299_s ck_S0) (ck_E1 (ck_S1 p2_s1695_s ck_S0) ck_E0))⟩ ck_X0 ck_l0 p2_s1732_e
set_option maxRecDepth 100000 in
/-- GlacierMail.wrote -/
def p2_s1733 : ck_Sum := ((8, 3, 18), 245, [.inr (.inr (.inl 1)), .inl (0, 7, []), .inl (0, 5, []), .inl (0, 299, []), .inl (100, 2147483647, [])], ([], [], []), ([], []), [(.inl 3, 245, ([], [], [])), (.inl 0, 245, ([], [], []))])
set_option maxRecDepth 100000 in
theorem p2_s1733_e : ck_ok p2_O none [] [(139, [p2_s356]), (132, [p2_s299]), (187, [p2_s1697])] 190 [] 90 p2_s1733 = true := by decide +kernel
theorem p2_s1733_s {X : Int → Int} {LX : Nat} : ck_Ok p2_O X LX 190 p2_s1733 := ck_ok_s ⟨p2_nmu, ck_E1 (ck_S1 p2_s356_s ck_S0) (ck_E1 (ck_S1 p2_s299_s ck_S0) (ck_E1 (ck_S1 p2_s1697_s ck_S0) ck_E0))⟩ ck_X0 ck_l0 p2_s1733_e
set_option maxRecDepth 100000 in
/-- GlacierMail.wrote -/
def p2_s1734 : ck_Sum := ((8, 2, 12), 245, [.inr (.inr (.inl 1)), .inl (0, 7, []), .inl (0, 5, []), .inl (0, 299, []), .inl (0, 99, [])], ([], [(3, 8, 0)], []), ([(206, 2, 8)], []), [(.inl 3, 245, ([], [], [])), (.inr (some (.inl (ck_one (-1)))), 245, ([], [], [])), (.inr (some (.inl (0, 298, []))), 245, ([], [], [(206, 4, 4, ck_one (-1))]))])
set_option maxRecDepth 100000 in
theorem p2_s1734_e : ck_ok p2_O none [] [(139, [p2_s356]), (132, [p2_s299]), (187, [p2_s1699]), (188, [p2_s1706])] 190 [] 104 p2_s1734 = true := by decide +kernel
theorem p2_s1734_s {X : Int → Int} {LX : Nat} : ck_Ok p2_O X LX 190 p2_s1734 := ck_ok_s ⟨p2_nmu, ck_E1 (ck_S1 p2_s356_s ck_S0) (ck_E1 (ck_S1 p2_s299_s ck_S0) (ck_E1 (ck_S1 p2_s1699_s ck_S0) (ck_E1 (ck_S1 p2_s1706_s ck_S0) ck_E0)))⟩ ck_X0 ck_l0 p2_s1734_e
set_option maxRecDepth 100000 in
/-- GlacierMailModel.wrote -/
def p2_s1735 : ck_Sum := ((2, 0, 0), 245, [.inr (.inr (.inl 226)), .inl ((-2147483648), (-1), []), .inl ((-2147483648), 2147483647, []), .inl ((-2147483648), 2147483647, []), .inl ((-2147483648), 2147483647, [])], ([], [], [(227, 3, 3, (0, 8, [(21, 0)]))]), ([(226, 0, 0)], []), [(.inr (some (.inl (ck_one 0))), 245, ([], [], [(226, 0, 0, ck_one 1)]))])
set_option maxRecDepth 100000 in
theorem p2_s1735_e : ck_ok p2_O none [] [(298, [p2_s441]), (282, [p2_s268])] 340 [] 100 p2_s1735 = true := by decide +kernel
theorem p2_s1735_s {X : Int → Int} {LX : Nat} : ck_Ok p2_O X LX 340 p2_s1735 := ck_ok_s ⟨p2_nmu, ck_E1 (ck_S1 p2_s441_s ck_S0) (ck_E1 (ck_S1 p2_s268_s ck_S0) ck_E0)⟩ ck_X0 ck_l0 p2_s1735_e
set_option maxRecDepth 100000 in
/-- GlacierMailModel.wrote -/
def p2_s1736 : ck_Sum := ((2, 0, 0), 245, [.inr (.inr (.inl 226)), .inl (8, 2147483647, []), .inl ((-2147483648), 2147483647, []), .inl ((-2147483648), 2147483647, []), .inl ((-2147483648), 2147483647, [])], ([], [], [(227, 3, 3, (0, 8, [(21, 0)]))]), ([(226, 0, 0)], []), [(.inr (some (.inl (ck_one 0))), 245, ([], [], [(226, 0, 0, ck_one 1)]))])
set_option maxRecDepth 100000 in
theorem p2_s1736_e : ck_ok p2_O none [] [(298, [p2_s444]), (282, [p2_s268])] 340 [] 100 p2_s1736 = true := by decide +kernel
theorem p2_s1736_s {X : Int → Int} {LX : Nat} : ck_Ok p2_O X LX 340 p2_s1736 := ck_ok_s ⟨p2_nmu, ck_E1 (ck_S1 p2_s444_s ck_S0) (ck_E1 (ck_S1 p2_s268_s ck_S0) ck_E0)⟩ ck_X0 ck_l0 p2_s1736_e
set_option maxRecDepth 100000 in
/-- GlacierMailModel.wrote -/
def p2_s1737 : ck_Sum := ((2, 0, 0), 245, [.inr (.inr (.inl 226)), .inl (0, 7, []), .inl ((-2147483648), (-1), []), .inl ((-2147483648), 2147483647, []), .inl ((-2147483648), 2147483647, [])], ([], [], [(227, 3, 3, (0, 8, [(21, 0)]))]), ([(226, 0, 0)], []), [(.inr (some (.inl (ck_one 0))), 245, ([], [], [(226, 0, 0, ck_one 1)]))])
set_option maxRecDepth 100000 in
theorem p2_s1737_e : ck_ok p2_O none [] [(298, [p2_s447]), (282, [p2_s268]), (288, [p2_s311])] 340 [] 108 p2_s1737 = true := by decide +kernel
theorem p2_s1737_s {X : Int → Int} {LX : Nat} : ck_Ok p2_O X LX 340 p2_s1737 := ck_ok_s ⟨p2_nmu, ck_E1 (ck_S1 p2_s447_s ck_S0) (ck_E1 (ck_S1 p2_s268_s ck_S0) (ck_E1 (ck_S1 p2_s311_s ck_S0) ck_E0))⟩ ck_X0 ck_l0 p2_s1737_e
set_option maxRecDepth 100000 in
/-- GlacierMailModel.wrote -/
def p2_s1738 : ck_Sum := ((2, 0, 0), 245, [.inr (.inr (.inl 226)), .inl (0, 7, []), .inl (6, 2147483647, []), .inl ((-2147483648), 2147483647, []), .inl ((-2147483648), 2147483647, [])], ([], [], [(227, 3, 3, (0, 8, [(21, 0)]))]), ([(226, 0, 0)], []), [(.inr (some (.inl (ck_one 0))), 245, ([], [], [(226, 0, 0, ck_one 1)]))])
set_option maxRecDepth 100000 in
theorem p2_s1738_e : ck_ok p2_O none [] [(298, [p2_s447]), (282, [p2_s268]), (288, [p2_s314])] 340 [] 108 p2_s1738 = true := by decide +kernel
theorem p2_s1738_s {X : Int → Int} {LX : Nat} : ck_Ok p2_O X LX 340 p2_s1738 := ck_ok_s ⟨p2_nmu, ck_E1 (ck_S1 p2_s447_s ck_S0) (ck_E1 (ck_S1 p2_s268_s ck_S0) (ck_E1 (ck_S1 p2_s314_s ck_S0) ck_E0))⟩ ck_X0 ck_l0 p2_s1738_e
set_option maxRecDepth 100000 in
/-- GlacierMailModel.wrote -/
def p2_s1739 : ck_Sum := ((2, 0, 0), 245, [.inr (.inr (.inl 226)), .inl (0, 7, []), .inl (0, 5, []), .inl ((-2147483648), (-1), []), .inl ((-2147483648), 2147483647, [])], ([], [], [(227, 3, 3, (0, 8, [(21, 0)]))]), ([(226, 0, 0)], []), [(.inr (some (.inl (ck_one 0))), 245, ([], [], [(226, 0, 0, (1, 2, []))]))])
set_option maxRecDepth 100000 in
theorem p2_s1739_e : ck_ok p2_O none [] [(298, [p2_s447]), (282, [p2_s268, p2_s269, p2_s272]), (288, [p2_s317]), (285, [p2_s284])] 340 [] 124 p2_s1739 = true := by decide +kernel
theorem p2_s1739_s {X : Int → Int} {LX : Nat} : ck_Ok p2_O X LX 340 p2_s1739 := ck_ok_s ⟨p2_nmu, ck_E1 (ck_S1 p2_s447_s ck_S0) (ck_E1 (ck_S1 p2_s268_s (ck_S1 p2_s269_s (ck_S1 p2_s272_s ck_S0))) (ck_E1 (ck_S1 p2_s317_s ck_S0) (ck_E1 (ck_S1 p2_s284_s ck_S0) ck_E0)))⟩ ck_X0 ck_l0 p2_s1739_e
set_option maxRecDepth 100000 in
/-- GlacierMailModel.wrote -/
def p2_s1740 : ck_Sum := ((2, 0, 0), 245, [.inr (.inr (.inl 226)), .inl (0, 7, []), .inl (0, 5, []), .inl (300, 2147483647, []), .inl ((-2147483648), 2147483647, [])], ([], [], [(227, 3, 3, (0, 8, [(21, 0)]))]), ([(226, 0, 0)], []), [(.inr (some (.inl (ck_one 0))), 245, ([], [], [(226, 0, 0, (1, 2, []))]))])
set_option maxRecDepth 100000 in
theorem p2_s1740_e : ck_ok p2_O none [] [(298, [p2_s447]), (282, [p2_s268, p2_s269, p2_s272]), (288, [p2_s317]), (285, [p2_s287])] 340 [] 124 p2_s1740 = true := by decide +kernel
theorem p2_s1740_s {X : Int → Int} {LX : Nat} : ck_Ok p2_O X LX 340 p2_s1740 := ck_ok_s ⟨p2_nmu, ck_E1 (ck_S1 p2_s447_s ck_S0) (ck_E1 (ck_S1 p2_s268_s (ck_S1 p2_s269_s (ck_S1 p2_s272_s ck_S0))) (ck_E1 (ck_S1 p2_s317_s ck_S0) (ck_E1 (ck_S1 p2_s287_s ck_S0) ck_E0)))⟩ ck_X0 ck_l0 p2_s1740_e
set_option maxRecDepth 100000 in
/-- GlacierMailModel.wrote -/
def p2_s1741 : ck_Sum := ((2, 0, 0), 245, [.inr (.inr (.inl 226)), .inl (0, 7, []), .inl (0, 5, []), .inl (0, 299, []), .inl ((-2147483648), (-1), [])], ([], [], [(227, 3, 3, (0, 8, [(21, 0)]))]), ([(226, 0, 0)], []), [(.inr (some (.inl (ck_one 0))), 245, ([], [], [(226, 0, 0, (1, 2, []))]))])
set_option maxRecDepth 100000 in
theorem p2_s1741_e : ck_ok p2_O none [] [(298, [p2_s447]), (282, [p2_s268, p2_s269, p2_s272]), (288, [p2_s317]), (285, [p2_s290]), (286, [p2_s1712])] 340 [] 134 p2_s1741 = true := by decide +kernel
theorem p2_s1741_s {X : Int → Int} {LX : Nat} : ck_Ok p2_O X LX 340 p2_s1741 := ck_ok_s ⟨p2_nmu, ck_E1 (ck_S1 p2_s447_s ck_S0) (ck_E1 (ck_S1 p2_s268_s (ck_S1 p2_s269_s (ck_S1 p2_s272_s ck_S0))) (ck_E1 (ck_S1 p2_s317_s ck_S0) (ck_E1 (ck_S1 p2_s290_s ck_S0) (ck_E1 (ck_S1 p2_s1712_s ck_S0) ck_E0))))⟩ ck_X0 ck_l0 p2_s1741_e
set_option maxRecDepth 100000 in
/-- GlacierMailModel.wrote -/
def p2_s1742 : ck_Sum := ((2, 0, 0), 245, [.inr (.inr (.inl 226)), .inl (0, 7, []), .inl (0, 5, []), .inl (0, 299, []), .inl (100, 2147483647, [])], ([], [], [(227, 3, 3, (0, 8, [(21, 0)]))]), ([(226, 0, 0)], []), [(.inr (some (.inl (ck_one 0))), 245, ([], [], [(226, 0, 0, (1, 2, []))]))])
set_option maxRecDepth 100000 in
theorem p2_s1742_e : ck_ok p2_O none [] [(298, [p2_s447]), (282, [p2_s268, p2_s269, p2_s272]), (288, [p2_s317]), (285, [p2_s290]), (286, [p2_s1714])] 340 [] 134 p2_s1742 = true := by decide +kernel
theorem p2_s1742_s {X : Int → Int} {LX : Nat} : ck_Ok p2_O X LX 340 p2_s1742 := ck_ok_s ⟨p2_nmu, ck_E1 (ck_S1 p2_s447_s ck_S0) (ck_E1 (ck_S1 p2_s268_s (ck_S1 p2_s269_s (ck_S1 p2_s272_s ck_S0))) (ck_E1 (ck_S1 p2_s317_s ck_S0) (ck_E1 (ck_S1 p2_s290_s ck_S0) (ck_E1 (ck_S1 p2_s1714_s ck_S0) ck_E0))))⟩ ck_X0 ck_l0 p2_s1742_e
set_option maxRecDepth 100000 in
/-- GlacierMail$Rows.size -/
def p2_s1744 : ck_Sum := ((0, 0, 0), 245, [.inr (.inr (.inl 12))], ([], [], []), ([], []), [(.inr (some (.inl (0, 6, []))), 245, ([], [], []))])
set_option maxRecDepth 100000 in
theorem p2_s1744_e : ck_ok p2_O none [] [] 9 [] 76 p2_s1744 = true := by decide +kernel
theorem p2_s1744_s {X : Int → Int} {LX : Nat} : ck_Ok p2_O X LX 9 p2_s1744 := ck_ok_s ⟨p2_nmu, ck_E0⟩ ck_X0 ck_l0 p2_s1744_e
set_option maxRecDepth 100000 in
/-- GlacierMail.need -/
def p2_s1745 : ck_Sum := ((6, 1, 6), 245, [.inr (.inr (.inl 1)), .inl ((-2147483648), (-1), []), .inl (0, 6, [])], ([], [], []), ([], []), [(.inl 3, 245, ([], [], []))])
set_option maxRecDepth 100000 in
theorem p2_s1745_e : ck_ok p2_O none [] [] 133 [] 76 p2_s1745 = true := by decide +kernel
theorem p2_s1745_s {X : Int → Int} {LX : Nat} : ck_Ok p2_O X LX 133 p2_s1745 := ck_ok_s ⟨p2_nmu, ck_E0⟩ ck_X0 ck_l0 p2_s1745_e
set_option maxRecDepth 100000 in
/-- GlacierMail.needTable -/
def p2_s1746 : ck_Sum := ((7, 1, 6), 245, [.inr (.inr (.inl 1)), .inl ((-2147483648), (-1), [])], ([], [], []), ([], []), [(.inl 3, 245, ([], [], []))])
set_option maxRecDepth 100000 in
theorem p2_s1746_e : ck_ok p2_O none [] [(9, [p2_s1744]), (133, [p2_s1745])] 193 [] 84 p2_s1746 = true := by decide +kernel
theorem p2_s1746_s {X : Int → Int} {LX : Nat} : ck_Ok p2_O X LX 193 p2_s1746 := ck_ok_s ⟨p2_nmu, ck_E1 (ck_S1 p2_s1744_s ck_S0) (ck_E1 (ck_S1 p2_s1745_s ck_S0) ck_E0)⟩ ck_X0 ck_l0 p2_s1746_e
set_option maxRecDepth 100000 in
/-- GlacierMail.table -/
def p2_s1747 : ck_Sum := ((8, 1, 6), 245, [.inr (.inr (.inl 1)), .inl ((-2147483648), (-1), []), .inl ((-2147483648), 2147483647, [])], ([], [], []), ([], []), [(.inl 3, 245, ([], [], []))])
set_option maxRecDepth 100000 in
theorem p2_s1747_e : ck_ok p2_O none [] [(193, [p2_s1746])] 192 [] 76 p2_s1747 = true := by decide +kernel
theorem p2_s1747_s {X : Int → Int} {LX : Nat} : ck_Ok p2_O X LX 192 p2_s1747 := ck_ok_s ⟨p2_nmu, ck_E1 (ck_S1 p2_s1746_s ck_S0) ck_E0⟩ ck_X0 ck_l0 p2_s1747_e
