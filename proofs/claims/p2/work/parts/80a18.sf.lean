/-! EVERY CALL ENDS, whatever was done before (laid by wip/am/p2k.py). -/
set_option maxRecDepth 100000 in
/-- GlacierMail.writers -/
def p2_s1406 : ck_Sum := ((8, 2, 12), 245, [.inr (.inr (.inl 1)), .inl (0, 5, []), .inl (0, 299, []), .inl ((-2147483648), (-1), [])], ([], [], []), ([], []), [(.inl 3, 245, ([], [], [])), (.inl 0, 245, ([], [], []))])
set_option maxRecDepth 100000 in
theorem p2_s1406_e : ck_ok p2_O none [] [(132, [p2_s272]), (187, [p2_s1405])] 186 [] 84 p2_s1406 = true := by decide +kernel
theorem p2_s1406_s {X : Int → Int} {LX : Nat} : ck_Ok p2_O X LX 186 p2_s1406 := ck_ok_s ⟨p2_nmu, ck_E1 (ck_S1 p2_s272_s ck_S0) (ck_E1 (ck_S1 p2_s1405_s ck_S0) ck_E0)⟩ ck_X0 ck_l0 p2_s1406_e
set_option maxRecDepth 100000 in
/-- GlacierMail.needFind -/
def p2_s1407 : ck_Sum := ((6, 1, 6), 245, [.inr (.inr (.inl 1)), .inl (0, 299, []), .inl (100, 2147483647, [])], ([], [], []), ([], []), [(.inl 0, 245, ([], [], []))])
set_option maxRecDepth 100000 in
theorem p2_s1407_e : ck_ok p2_O none [] [(129, [p2_s253])] 187 [] 88 p2_s1407 = true := by decide +kernel
theorem p2_s1407_s {X : Int → Int} {LX : Nat} : ck_Ok p2_O X LX 187 p2_s1407 := ck_ok_s ⟨p2_nmu, ck_E1 (ck_S1 p2_s253_s ck_S0) ck_E0⟩ ck_X0 ck_l0 p2_s1407_e
set_option maxRecDepth 100000 in
/-- GlacierMail.writers -/
def p2_s1408 : ck_Sum := ((8, 2, 12), 245, [.inr (.inr (.inl 1)), .inl (0, 5, []), .inl (0, 299, []), .inl (100, 2147483647, [])], ([], [], []), ([], []), [(.inl 3, 245, ([], [], [])), (.inl 0, 245, ([], [], []))])
set_option maxRecDepth 100000 in
theorem p2_s1408_e : ck_ok p2_O none [] [(132, [p2_s272]), (187, [p2_s1407])] 186 [] 84 p2_s1408 = true := by decide +kernel
theorem p2_s1408_s {X : Int → Int} {LX : Nat} : ck_Ok p2_O X LX 186 p2_s1408 := ck_ok_s ⟨p2_nmu, ck_E1 (ck_S1 p2_s272_s ck_S0) (ck_E1 (ck_S1 p2_s1407_s ck_S0) ck_E0)⟩ ck_X0 ck_l0 p2_s1408_e
set_option maxRecDepth 100000 in
/-- GlacierMail.needFind -/
def p2_s1409 : ck_Sum := ((1, 0, 0), 245, [.inr (.inr (.inl 1)), .inl (0, 299, []), .inl (0, 99, [])], ([], [], []), ([], []), [(.inr none, 245, ([], [], []))])
set_option maxRecDepth 100000 in
theorem p2_s1409_e : ck_ok p2_O none [] [(129, [p2_s253])] 187 [] 88 p2_s1409 = true := by decide +kernel
theorem p2_s1409_s {X : Int → Int} {LX : Nat} : ck_Ok p2_O X LX 187 p2_s1409 := ck_ok_s ⟨p2_nmu, ck_E1 (ck_S1 p2_s253_s ck_S0) ck_E0⟩ ck_X0 ck_l0 p2_s1409_e
set_option maxRecDepth 100000 in
/-- GlacierMail.latestWriting -/
def p2_s1410 : ck_Sum := ((4, 0, 0), 245, [.inr (.inr (.inl 1)), .inl (0, 7, []), .inl (0, 5, []), .inl (0, 299, []), .inl (0, 99, [])], ([], [(3, 8, 0)], []), ([(206, 2, 8)], []), [(.inr (some (.inl (ck_one (-1)))), 245, ([], [], [])), (.inr (some (.inl (0, 298, []))), 245, ([], [], [(206, 4, 4, ck_one (-1))]))])
set_option maxRecDepth 100000 in
theorem p2_s1410_e : ck_ok p2_O none [] [(10, [p2_s356]), (170, [p2_s1332]), (30, [p2_s346])] 188 [(23, [some (.inr (.inr (.inl 1))), some (.inl (0, 7, [])), some (.inl (0, 5, [])), some (.inl (0, 299, [])), some (.inl (0, 99, [])), some (.inl ((-1), 298, []))], ([], [(3, 8, 0)], []), 100, .inl 5, false)] 174 p2_s1410 = true := by decide +kernel
theorem p2_s1410_s {X : Int → Int} {LX : Nat} : ck_Ok p2_O X LX 188 p2_s1410 := ck_ok_s ⟨p2_nmu, ck_E1 (ck_S1 p2_s356_s ck_S0) (ck_E1 (ck_S1 p2_s1332_s ck_S0) (ck_E1 (ck_S1 p2_s346_s ck_S0) ck_E0))⟩ ck_X0 ck_l0 p2_s1410_e
set_option maxRecDepth 100000 in
/-- GlacierMail.writers -/
def p2_s1411 : ck_Sum := ((8, 1, 6), 245, [.inr (.inr (.inl 1)), .inl (0, 5, []), .inl (0, 299, []), .inl (0, 99, [])], ([], [(3, 8, 0)], []), ([(206, 2, 8)], []), [(.inl 3, 245, ([], [], [])), (.inr (some (.inl ((-2147483648), 2147483647, []))), 245, ([], [], []))])
set_option maxRecDepth 100000 in
theorem p2_s1411_e : ck_ok p2_O none [] [(132, [p2_s272]), (187, [p2_s1409]), (9, [p2_s320]), (188, [p2_s1410])] 186 [(17, [some (.inr (.inr (.inl 1))), some (.inl (0, 5, [])), some (.inl (0, 299, [])), some (.inl (0, 99, [])), some (.inl ((-2147483648), 2147483647, [])), some (.inl (0, 9, []))], ([], [(3, 8, 0)], []), 100, .inl 5, true)] 182 p2_s1411 = true := by decide +kernel
theorem p2_s1411_s {X : Int → Int} {LX : Nat} : ck_Ok p2_O X LX 186 p2_s1411 := ck_ok_s ⟨p2_nmu, ck_E1 (ck_S1 p2_s272_s ck_S0) (ck_E1 (ck_S1 p2_s1409_s ck_S0) (ck_E1 (ck_S1 p2_s320_s ck_S0) (ck_E1 (ck_S1 p2_s1410_s ck_S0) ck_E0)))⟩ ck_X0 ck_l0 p2_s1411_e
set_option maxRecDepth 100000 in
/-- GlacierMailModel.writers -/
def p2_s1412 : ck_Sum := ((2, 0, 0), 245, [.inr (.inr (.inl 226)), .inl ((-2147483648), (-1), []), .inl ((-2147483648), 2147483647, []), .inl ((-2147483648), 2147483647, [])], ([], [], []), ([(226, 0, 0)], []), [(.inr (some (.inl (ck_one 0))), 245, ([], [], [(226, 0, 0, ck_one 1)]))])
set_option maxRecDepth 100000 in
theorem p2_s1412_e : ck_ok p2_O none [] [(288, [p2_s284]), (282, [p2_s241])] 338 [] 94 p2_s1412 = true := by decide +kernel
theorem p2_s1412_s {X : Int → Int} {LX : Nat} : ck_Ok p2_O X LX 338 p2_s1412 := ck_ok_s ⟨p2_nmu, ck_E1 (ck_S1 p2_s284_s ck_S0) (ck_E1 (ck_S1 p2_s241_s ck_S0) ck_E0)⟩ ck_X0 ck_l0 p2_s1412_e
set_option maxRecDepth 100000 in
/-- GlacierMailModel.writers -/
def p2_s1413 : ck_Sum := ((2, 0, 0), 245, [.inr (.inr (.inl 226)), .inl (6, 2147483647, []), .inl ((-2147483648), 2147483647, []), .inl ((-2147483648), 2147483647, [])], ([], [], []), ([(226, 0, 0)], []), [(.inr (some (.inl (ck_one 0))), 245, ([], [], [(226, 0, 0, ck_one 1)]))])
set_option maxRecDepth 100000 in
theorem p2_s1413_e : ck_ok p2_O none [] [(288, [p2_s287]), (282, [p2_s241])] 338 [] 94 p2_s1413 = true := by decide +kernel
theorem p2_s1413_s {X : Int → Int} {LX : Nat} : ck_Ok p2_O X LX 338 p2_s1413 := ck_ok_s ⟨p2_nmu, ck_E1 (ck_S1 p2_s287_s ck_S0) (ck_E1 (ck_S1 p2_s241_s ck_S0) ck_E0)⟩ ck_X0 ck_l0 p2_s1413_e
set_option maxRecDepth 100000 in
/-- GlacierMailModel.writers -/
def p2_s1414 : ck_Sum := ((2, 0, 0), 245, [.inr (.inr (.inl 226)), .inl (0, 5, []), .inl ((-2147483648), (-1), []), .inl ((-2147483648), 2147483647, [])], ([], [], []), ([(226, 0, 0)], []), [(.inr (some (.inl (ck_one 0))), 245, ([], [], [(226, 0, 0, (1, 2, []))]))])
set_option maxRecDepth 100000 in
theorem p2_s1414_e : ck_ok p2_O none [] [(288, [p2_s290]), (282, [p2_s241, p2_s242, p2_s244]), (285, [p2_s257])] 338 [] 112 p2_s1414 = true := by decide +kernel
theorem p2_s1414_s {X : Int → Int} {LX : Nat} : ck_Ok p2_O X LX 338 p2_s1414 := ck_ok_s ⟨p2_nmu, ck_E1 (ck_S1 p2_s290_s ck_S0) (ck_E1 (ck_S1 p2_s241_s (ck_S1 p2_s242_s (ck_S1 p2_s244_s ck_S0))) (ck_E1 (ck_S1 p2_s257_s ck_S0) ck_E0))⟩ ck_X0 ck_l0 p2_s1414_e
set_option maxRecDepth 100000 in
/-- GlacierMailModel.writers -/
def p2_s1415 : ck_Sum := ((2, 0, 0), 245, [.inr (.inr (.inl 226)), .inl (0, 5, []), .inl (300, 2147483647, []), .inl ((-2147483648), 2147483647, [])], ([], [], []), ([(226, 0, 0)], []), [(.inr (some (.inl (ck_one 0))), 245, ([], [], [(226, 0, 0, (1, 2, []))]))])
set_option maxRecDepth 100000 in
theorem p2_s1415_e : ck_ok p2_O none [] [(288, [p2_s290]), (282, [p2_s241, p2_s242, p2_s244]), (285, [p2_s260])] 338 [] 112 p2_s1415 = true := by decide +kernel
theorem p2_s1415_s {X : Int → Int} {LX : Nat} : ck_Ok p2_O X LX 338 p2_s1415 := ck_ok_s ⟨p2_nmu, ck_E1 (ck_S1 p2_s290_s ck_S0) (ck_E1 (ck_S1 p2_s241_s (ck_S1 p2_s242_s (ck_S1 p2_s244_s ck_S0))) (ck_E1 (ck_S1 p2_s260_s ck_S0) ck_E0))⟩ ck_X0 ck_l0 p2_s1415_e
set_option maxRecDepth 100000 in
/-- GlacierMailModel.in -/
def p2_s1416 : ck_Sum := ((0, 0, 0), 245, [.inl ((-2147483648), (-1), []), .inl (ck_one 0), .inl (ck_one 99)], ([], [], []), ([], []), [(.inr (some (.inl (ck_one 0))), 245, ([], [], []))])
set_option maxRecDepth 100000 in
theorem p2_s1416_e : ck_ok p2_O none [] [] 286 [] 80 p2_s1416 = true := by decide +kernel
theorem p2_s1416_s {X : Int → Int} {LX : Nat} : ck_Ok p2_O X LX 286 p2_s1416 := ck_ok_s ⟨p2_nmu, ck_E0⟩ ck_X0 ck_l0 p2_s1416_e
set_option maxRecDepth 100000 in
/-- GlacierMailModel.writers -/
def p2_s1417 : ck_Sum := ((2, 0, 0), 245, [.inr (.inr (.inl 226)), .inl (0, 5, []), .inl (0, 299, []), .inl ((-2147483648), (-1), [])], ([], [], []), ([(226, 0, 0)], []), [(.inr (some (.inl (ck_one 0))), 245, ([], [], [(226, 0, 0, (1, 2, []))]))])
set_option maxRecDepth 100000 in
theorem p2_s1417_e : ck_ok p2_O none [] [(288, [p2_s290]), (282, [p2_s241, p2_s242, p2_s244]), (285, [p2_s263]), (286, [p2_s1416])] 338 [] 122 p2_s1417 = true := by decide +kernel
theorem p2_s1417_s {X : Int → Int} {LX : Nat} : ck_Ok p2_O X LX 338 p2_s1417 := ck_ok_s ⟨p2_nmu, ck_E1 (ck_S1 p2_s290_s ck_S0) (ck_E1 (ck_S1 p2_s241_s (ck_S1 p2_s242_s (ck_S1 p2_s244_s ck_S0))) (ck_E1 (ck_S1 p2_s263_s ck_S0) (ck_E1 (ck_S1 p2_s1416_s ck_S0) ck_E0)))⟩ ck_X0 ck_l0 p2_s1417_e
set_option maxRecDepth 100000 in
/-- GlacierMailModel.in -/
def p2_s1418 : ck_Sum := ((0, 0, 0), 245, [.inl (100, 2147483647, []), .inl (ck_one 0), .inl (ck_one 99)], ([], [], []), ([], []), [(.inr (some (.inl (ck_one 0))), 245, ([], [], []))])
set_option maxRecDepth 100000 in
theorem p2_s1418_e : ck_ok p2_O none [] [] 286 [] 86 p2_s1418 = true := by decide +kernel
theorem p2_s1418_s {X : Int → Int} {LX : Nat} : ck_Ok p2_O X LX 286 p2_s1418 := ck_ok_s ⟨p2_nmu, ck_E0⟩ ck_X0 ck_l0 p2_s1418_e
set_option maxRecDepth 100000 in
/-- GlacierMailModel.writers -/
def p2_s1419 : ck_Sum := ((2, 0, 0), 245, [.inr (.inr (.inl 226)), .inl (0, 5, []), .inl (0, 299, []), .inl (100, 2147483647, [])], ([], [], []), ([(226, 0, 0)], []), [(.inr (some (.inl (ck_one 0))), 245, ([], [], [(226, 0, 0, (1, 2, []))]))])
set_option maxRecDepth 100000 in
theorem p2_s1419_e : ck_ok p2_O none [] [(288, [p2_s290]), (282, [p2_s241, p2_s242, p2_s244]), (285, [p2_s263]), (286, [p2_s1418])] 338 [] 122 p2_s1419 = true := by decide +kernel
theorem p2_s1419_s {X : Int → Int} {LX : Nat} : ck_Ok p2_O X LX 338 p2_s1419 := ck_ok_s ⟨p2_nmu, ck_E1 (ck_S1 p2_s290_s ck_S0) (ck_E1 (ck_S1 p2_s241_s (ck_S1 p2_s242_s (ck_S1 p2_s244_s ck_S0))) (ck_E1 (ck_S1 p2_s263_s ck_S0) (ck_E1 (ck_S1 p2_s1418_s ck_S0) ck_E0)))⟩ ck_X0 ck_l0 p2_s1419_e
set_option maxRecDepth 100000 in
/-- GlacierMailModel.in -/
def p2_s1420 : ck_Sum := ((0, 0, 0), 245, [.inl (0, 99, []), .inl (ck_one 0), .inl (ck_one 99)], ([], [], []), ([], []), [(.inr (some (.inl (ck_one 1))), 245, ([], [], []))])
set_option maxRecDepth 100000 in
theorem p2_s1420_e : ck_ok p2_O none [] [] 286 [] 88 p2_s1420 = true := by decide +kernel
theorem p2_s1420_s {X : Int → Int} {LX : Nat} : ck_Ok p2_O X LX 286 p2_s1420 := ck_ok_s ⟨p2_nmu, ck_E0⟩ ck_X0 ck_l0 p2_s1420_e
set_option maxRecDepth 100000 in
/-- GlacierMailModel.wroteIn -/
def p2_s1421 : ck_Sum := ((7, 0, 0), 245, [.inr (.inr (.inl 226)), .inl (0, 7, []), .inl (0, 5, []), .inl (0, 299, []), .inl (0, 99, [])], ([], [], [(227, 2, 2, (0, 8, [(20, 0)])), (227, 5, 5, (0, 8, [(23, 0)]))]), ([(226, 17, 23), (226, 26, 26), (226, 29, 30), (233, 0, 399), (235, 0, 29699), (236, 0, 299), (237, 0, 299)], []), [(.inr (some (.inl (ck_one (-1)))), 245, ([], [], [])), (.inr (some (.inl (0, 298, []))), 245, ([], [], [(226, 29, 29, (0, 299, []))]))])
set_option maxRecDepth 100000 in
theorem p2_s1421_e : ck_ok p2_O none [] [(299, [p2_s554, p2_s555]), (325, [p2_s1326])] 339 [(5, [some (.inr (.inr (.inl 226))), some (.inl (0, 7, [])), some (.inl (0, 5, [])), some (.inl (0, 299, [])), some (.inl (0, 99, [])), some (.inl ((-1), 298, []))], ([], [], [(227, 2, 2, (0, 8, [(20, 0)])), (227, 5, 5, (0, 8, [(23, 0)]))]), 100, .inl 5, false)] 198 p2_s1421 = true := by decide +kernel
theorem p2_s1421_s {X : Int → Int} {LX : Nat} : ck_Ok p2_O X LX 339 p2_s1421 := ck_ok_s ⟨p2_nmu, ck_E1 (ck_S1 p2_s554_s (ck_S1 p2_s555_s ck_S0)) (ck_E1 (ck_S1 p2_s1326_s ck_S0) ck_E0)⟩ ck_X0 ck_l0 p2_s1421_e
set_option maxRecDepth 100000 in
/-- GlacierMailModel.writers -/
def p2_s1422 : ck_Sum := ((8, 0, 0), 245, [.inr (.inr (.inl 226)), .inl (0, 5, []), .inl (0, 299, []), .inl (0, 99, [])], ([], [], [(227, 2, 2, (0, 8, [(20, 0)])), (227, 3, 3, (0, 8, [(21, 0)])), (227, 5, 5, (0, 8, [(23, 0)]))]), ([(226, 0, 0), (226, 17, 23), (226, 26, 26), (226, 29, 30), (233, 0, 399), (235, 0, 29699), (236, 0, 299), (237, 0, 299)], []), [(.inr (some (.inl (ck_one 0))), 245, ([], [], [(226, 0, 0, ck_one 1)])), (.inr (some (.inl ((-2147483648), 2147483647, []))), 245, ([], [], [(226, 0, 0, ck_one 0)]))])
set_option maxRecDepth 100000 in
theorem p2_s1422_e : ck_ok p2_O none [] [(288, [p2_s290]), (282, [p2_s241, p2_s242, p2_s243]), (285, [p2_s263]), (286, [p2_s1420]), (253, [p2_s186]), (339, [p2_s1421])] 338 [(56, [some (.inr (.inr (.inl 226))), some (.inl (0, 5, [])), some (.inl (0, 299, [])), some (.inl (0, 99, [])), some (.inl ((-2147483648), 2147483647, [])), some (.inl (0, 8, []))], ([], [], [(226, 0, 0, ck_one 0), (227, 2, 2, (0, 8, [(20, 0)])), (227, 3, 3, (0, 8, [(21, 0)])), (227, 5, 5, (0, 8, [(23, 0)]))]), 100, .inl 5, true)] 202 p2_s1422 = true := by decide +kernel
theorem p2_s1422_s {X : Int → Int} {LX : Nat} : ck_Ok p2_O X LX 338 p2_s1422 := ck_ok_s ⟨p2_nmu, ck_E1 (ck_S1 p2_s290_s ck_S0) (ck_E1 (ck_S1 p2_s241_s (ck_S1 p2_s242_s (ck_S1 p2_s243_s ck_S0))) (ck_E1 (ck_S1 p2_s263_s ck_S0) (ck_E1 (ck_S1 p2_s1420_s ck_S0) (ck_E1 (ck_S1 p2_s186_s ck_S0) (ck_E1 (ck_S1 p2_s1421_s ck_S0) ck_E0)))))⟩ ck_X0 ck_l0 p2_s1422_e
set_option maxRecDepth 100000 in
/-- GlacierMail.wrote -/
def p2_s1423 : ck_Sum := ((8, 1, 6), 245, [.inr (.inr (.inl 1)), .inl ((-2147483648), (-1), []), .inl ((-2147483648), 2147483647, []), .inl ((-2147483648), 2147483647, []), .inl ((-2147483648), 2147483647, [])], ([], [], []), ([], []), [(.inl 3, 245, ([], [], []))])
set_option maxRecDepth 100000 in
theorem p2_s1423_e : ck_ok p2_O none [] [(139, [p2_s322])] 190 [] 76 p2_s1423 = true := by decide +kernel
theorem p2_s1423_s {X : Int → Int} {LX : Nat} : ck_Ok p2_O X LX 190 p2_s1423 := ck_ok_s ⟨p2_nmu, ck_E1 (ck_S1 p2_s322_s ck_S0) ck_E0⟩ ck_X0 ck_l0 p2_s1423_e
set_option maxRecDepth 100000 in
/-- GlacierMail.wrote -/
def p2_s1424 : ck_Sum := ((8, 1, 6), 245, [.inr (.inr (.inl 1)), .inl (8, 2147483647, []), .inl ((-2147483648), 2147483647, []), .inl ((-2147483648), 2147483647, []), .inl ((-2147483648), 2147483647, [])], ([], [], []), ([], []), [(.inl 3, 245, ([], [], []))])
set_option maxRecDepth 100000 in
theorem p2_s1424_e : ck_ok p2_O none [] [(139, [p2_s325])] 190 [] 76 p2_s1424 = true := by decide +kernel
theorem p2_s1424_s {X : Int → Int} {LX : Nat} : ck_Ok p2_O X LX 190 p2_s1424 := ck_ok_s ⟨p2_nmu, ck_E1 (ck_S1 p2_s325_s ck_S0) ck_E0⟩ ck_X0 ck_l0 p2_s1424_e
set_option maxRecDepth 100000 in
/-- GlacierMail.wrote -/
def p2_s1425 : ck_Sum := ((8, 2, 12), 245, [.inr (.inr (.inl 1)), .inl (0, 7, []), .inl ((-2147483648), (-1), []), .inl ((-2147483648), 2147483647, []), .inl ((-2147483648), 2147483647, [])], ([], [], []), ([], []), [(.inl 3, 245, ([], [], []))])
set_option maxRecDepth 100000 in
theorem p2_s1425_e : ck_ok p2_O none [] [(139, [p2_s328]), (132, [p2_s266])] 190 [] 82 p2_s1425 = true := by decide +kernel
theorem p2_s1425_s {X : Int → Int} {LX : Nat} : ck_Ok p2_O X LX 190 p2_s1425 := ck_ok_s ⟨p2_nmu, ck_E1 (ck_S1 p2_s328_s ck_S0) (ck_E1 (ck_S1 p2_s266_s ck_S0) ck_E0)⟩ ck_X0 ck_l0 p2_s1425_e
set_option maxRecDepth 100000 in
/-- GlacierMail.wrote -/
def p2_s1426 : ck_Sum := ((8, 2, 12), 245, [.inr (.inr (.inl 1)), .inl (0, 7, []), .inl (6, 2147483647, []), .inl ((-2147483648), 2147483647, []), .inl ((-2147483648), 2147483647, [])], ([], [], []), ([], []), [(.inl 3, 245, ([], [], []))])
set_option maxRecDepth 100000 in
theorem p2_s1426_e : ck_ok p2_O none [] [(139, [p2_s328]), (132, [p2_s269])] 190 [] 82 p2_s1426 = true := by decide +kernel
theorem p2_s1426_s {X : Int → Int} {LX : Nat} : ck_Ok p2_O X LX 190 p2_s1426 := ck_ok_s ⟨p2_nmu, ck_E1 (ck_S1 p2_s328_s ck_S0) (ck_E1 (ck_S1 p2_s269_s ck_S0) ck_E0)⟩ ck_X0 ck_l0 p2_s1426_e
set_option maxRecDepth 100000 in
/-- GlacierMail.wrote -/
def p2_s1427 : ck_Sum := ((8, 3, 18), 245, [.inr (.inr (.inl 1)), .inl (0, 7, []), .inl (0, 5, []), .inl ((-2147483648), (-1), []), .inl ((-2147483648), 2147483647, [])], ([], [], []), ([], []), [(.inl 3, 245, ([], [], [])), (.inl 0, 245, ([], [], []))])
set_option maxRecDepth 100000 in
theorem p2_s1427_e : ck_ok p2_O none [] [(139, [p2_s328]), (132, [p2_s272]), (187, [p2_s1401])] 190 [] 90 p2_s1427 = true := by decide +kernel
theorem p2_s1427_s {X : Int → Int} {LX : Nat} : ck_Ok p2_O X LX 190 p2_s1427 := ck_ok_s ⟨p2_nmu, ck_E1 (ck_S1 p2_s328_s ck_S0) (ck_E1 (ck_S1 p2_s272_s ck_S0) (ck_E1 (ck_S1 p2_s1401_s ck_S0) ck_E0))⟩ ck_X0 ck_l0 p2_s1427_e
set_option maxRecDepth 100000 in
/-- GlacierMail.wrote -/
def p2_s1428 : ck_Sum := ((8, 3, 18), 245, [.inr (.inr (.inl 1)), .inl (0, 7, []), .inl (0, 5, []), .inl (300, 2147483647, []), .inl ((-2147483648), 2147483647, [])], ([], [], []), ([], []), [(.inl 3, 245, ([], [], [])), (.inl 0, 245, ([], [], []))])
set_option maxRecDepth 100000 in
theorem p2_s1428_e : ck_ok p2_O none [] [(139, [p2_s328]), (132, [p2_s272]), (187, [p2_s1403])] 190 [] 90 p2_s1428 = true := by decide +kernel
theorem p2_s1428_s {X : Int → Int} {LX : Nat} : ck_Ok p2_O X LX 190 p2_s1428 := ck_ok_s ⟨p2_nmu, ck_E1 (ck_S1 p2_s328_s ck_S0) (ck_E1 (ck_S1 p2_s272_s ck_S0) (ck_E1 (ck_S1 p2_s1403_s ck_S0) ck_E0))⟩ ck_X0 ck_l0 p2_s1428_e
set_option maxRecDepth 100000 in
/-- GlacierMail.wrote -/
def p2_s1429 : ck_Sum := ((8, 3, 18), 245, [.inr (.inr (.inl 1)), .inl (0, 7, []), .inl (0, 5, []), .inl (0, 299, []), .inl ((-2147483648), (-1), [])], ([], [], []), ([], []), [(.inl 3, 245, ([], [], [])), (.inl 0, 245, ([], [], []))])
set_option maxRecDepth 100000 in
theorem p2_s1429_e : ck_ok p2_O none [] [(139, [p2_s328]), (132, [p2_s272]), (187, [p2_s1405])] 190 [] 90 p2_s1429 = true := by decide +kernel
theorem p2_s1429_s {X : Int → Int} {LX : Nat} : ck_Ok p2_O X LX 190 p2_s1429 := ck_ok_s ⟨p2_nmu, ck_E1 (ck_S1 p2_s328_s ck_S0) (ck_E1 (ck_S1 p2_s272_s ck_S0) (ck_E1 (ck_S1 p2_s1405_s ck_S0) ck_E0))⟩ ck_X0 ck_l0 p2_s1429_e
set_option maxRecDepth 100000 in
/-- GlacierMail.wrote -/
def p2_s1430 : ck_Sum := ((8, 3, 18), 245, [.inr (.inr (.inl 1)), .inl (0, 7, []), .inl (0, 5, []), .inl (0, 299, []), .inl (100, 2147483647, [])], ([], [], []), ([], []), [(.inl 3, 245, ([], [], [])), (.inl 0, 245, ([], [], []))])
set_option maxRecDepth 100000 in
theorem p2_s1430_e : ck_ok p2_O none [] [(139, [p2_s328]), (132, [p2_s272]), (187, [p2_s1407])] 190 [] 90 p2_s1430 = true := by decide +kernel
theorem p2_s1430_s {X : Int → Int} {LX : Nat} : ck_Ok p2_O X LX 190 p2_s1430 := ck_ok_s ⟨p2_nmu, ck_E1 (ck_S1 p2_s328_s ck_S0) (ck_E1 (ck_S1 p2_s272_s ck_S0) (ck_E1 (ck_S1 p2_s1407_s ck_S0) ck_E0))⟩ ck_X0 ck_l0 p2_s1430_e
set_option maxRecDepth 100000 in
/-- GlacierMail.wrote -/
def p2_s1431 : ck_Sum := ((8, 2, 12), 245, [.inr (.inr (.inl 1)), .inl (0, 7, []), .inl (0, 5, []), .inl (0, 299, []), .inl (0, 99, [])], ([], [(3, 8, 0)], []), ([(206, 2, 8)], []), [(.inl 3, 245, ([], [], [])), (.inr (some (.inl (ck_one (-1)))), 245, ([], [], [])), (.inr (some (.inl (0, 298, []))), 245, ([], [], [(206, 4, 4, ck_one (-1))]))])
set_option maxRecDepth 100000 in
theorem p2_s1431_e : ck_ok p2_O none [] [(139, [p2_s328]), (132, [p2_s272]), (187, [p2_s1409]), (188, [p2_s1410])] 190 [] 104 p2_s1431 = true := by decide +kernel
theorem p2_s1431_s {X : Int → Int} {LX : Nat} : ck_Ok p2_O X LX 190 p2_s1431 := ck_ok_s ⟨p2_nmu, ck_E1 (ck_S1 p2_s328_s ck_S0) (ck_E1 (ck_S1 p2_s272_s ck_S0) (ck_E1 (ck_S1 p2_s1409_s ck_S0) (ck_E1 (ck_S1 p2_s1410_s ck_S0) ck_E0)))⟩ ck_X0 ck_l0 p2_s1431_e
set_option maxRecDepth 100000 in
/-- GlacierMailModel.wrote -/
def p2_s1432 : ck_Sum := ((2, 0, 0), 245, [.inr (.inr (.inl 226)), .inl ((-2147483648), (-1), []), .inl ((-2147483648), 2147483647, []), .inl ((-2147483648), 2147483647, []), .inl ((-2147483648), 2147483647, [])], ([], [], [(227, 3, 3, (0, 8, [(21, 0)]))]), ([(226, 0, 0)], []), [(.inr (some (.inl (ck_one 0))), 245, ([], [], [(226, 0, 0, ck_one 1)]))])
set_option maxRecDepth 100000 in
theorem p2_s1432_e : ck_ok p2_O none [] [(298, [p2_s359]), (282, [p2_s241])] 340 [] 100 p2_s1432 = true := by decide +kernel
theorem p2_s1432_s {X : Int → Int} {LX : Nat} : ck_Ok p2_O X LX 340 p2_s1432 := ck_ok_s ⟨p2_nmu, ck_E1 (ck_S1 p2_s359_s ck_S0) (ck_E1 (ck_S1 p2_s241_s ck_S0) ck_E0)⟩ ck_X0 ck_l0 p2_s1432_e
set_option maxRecDepth 100000 in
/-- GlacierMailModel.wrote -/
def p2_s1433 : ck_Sum := ((2, 0, 0), 245, [.inr (.inr (.inl 226)), .inl (8, 2147483647, []), .inl ((-2147483648), 2147483647, []), .inl ((-2147483648), 2147483647, []), .inl ((-2147483648), 2147483647, [])], ([], [], [(227, 3, 3, (0, 8, [(21, 0)]))]), ([(226, 0, 0)], []), [(.inr (some (.inl (ck_one 0))), 245, ([], [], [(226, 0, 0, ck_one 1)]))])
set_option maxRecDepth 100000 in
theorem p2_s1433_e : ck_ok p2_O none [] [(298, [p2_s362]), (282, [p2_s241])] 340 [] 100 p2_s1433 = true := by decide +kernel
theorem p2_s1433_s {X : Int → Int} {LX : Nat} : ck_Ok p2_O X LX 340 p2_s1433 := ck_ok_s ⟨p2_nmu, ck_E1 (ck_S1 p2_s362_s ck_S0) (ck_E1 (ck_S1 p2_s241_s ck_S0) ck_E0)⟩ ck_X0 ck_l0 p2_s1433_e
set_option maxRecDepth 100000 in
/-- GlacierMailModel.wrote -/
def p2_s1434 : ck_Sum := ((2, 0, 0), 245, [.inr (.inr (.inl 226)), .inl (0, 7, []), .inl ((-2147483648), (-1), []), .inl ((-2147483648), 2147483647, []), .inl ((-2147483648), 2147483647, [])], ([], [], [(227, 3, 3, (0, 8, [(21, 0)]))]), ([(226, 0, 0)], []), [(.inr (some (.inl (ck_one 0))), 245, ([], [], [(226, 0, 0, ck_one 1)]))])
set_option maxRecDepth 100000 in
theorem p2_s1434_e : ck_ok p2_O none [] [(298, [p2_s365]), (282, [p2_s241]), (288, [p2_s284])] 340 [] 108 p2_s1434 = true := by decide +kernel
theorem p2_s1434_s {X : Int → Int} {LX : Nat} : ck_Ok p2_O X LX 340 p2_s1434 := ck_ok_s ⟨p2_nmu, ck_E1 (ck_S1 p2_s365_s ck_S0) (ck_E1 (ck_S1 p2_s241_s ck_S0) (ck_E1 (ck_S1 p2_s284_s ck_S0) ck_E0))⟩ ck_X0 ck_l0 p2_s1434_e
set_option maxRecDepth 100000 in
/-- GlacierMailModel.wrote -/
def p2_s1435 : ck_Sum := ((2, 0, 0), 245, [.inr (.inr (.inl 226)), .inl (0, 7, []), .inl (6, 2147483647, []), .inl ((-2147483648), 2147483647, []), .inl ((-2147483648), 2147483647, [])], ([], [], [(227, 3, 3, (0, 8, [(21, 0)]))]), ([(226, 0, 0)], []), [(.inr (some (.inl (ck_one 0))), 245, ([], [], [(226, 0, 0, ck_one 1)]))])
set_option maxRecDepth 100000 in
theorem p2_s1435_e : ck_ok p2_O none [] [(298, [p2_s365]), (282, [p2_s241]), (288, [p2_s287])] 340 [] 108 p2_s1435 = true := by decide +kernel
theorem p2_s1435_s {X : Int → Int} {LX : Nat} : ck_Ok p2_O X LX 340 p2_s1435 := ck_ok_s ⟨p2_nmu, ck_E1 (ck_S1 p2_s365_s ck_S0) (ck_E1 (ck_S1 p2_s241_s ck_S0) (ck_E1 (ck_S1 p2_s287_s ck_S0) ck_E0))⟩ ck_X0 ck_l0 p2_s1435_e
set_option maxRecDepth 100000 in
/-- GlacierMailModel.wrote -/
def p2_s1436 : ck_Sum := ((2, 0, 0), 245, [.inr (.inr (.inl 226)), .inl (0, 7, []), .inl (0, 5, []), .inl ((-2147483648), (-1), []), .inl ((-2147483648), 2147483647, [])], ([], [], [(227, 3, 3, (0, 8, [(21, 0)]))]), ([(226, 0, 0)], []), [(.inr (some (.inl (ck_one 0))), 245, ([], [], [(226, 0, 0, (1, 2, []))]))])
set_option maxRecDepth 100000 in
theorem p2_s1436_e : ck_ok p2_O none [] [(298, [p2_s365]), (282, [p2_s241, p2_s242, p2_s244]), (288, [p2_s290]), (285, [p2_s257])] 340 [] 124 p2_s1436 = true := by decide +kernel
theorem p2_s1436_s {X : Int → Int} {LX : Nat} : ck_Ok p2_O X LX 340 p2_s1436 := ck_ok_s ⟨p2_nmu, ck_E1 (ck_S1 p2_s365_s ck_S0) (ck_E1 (ck_S1 p2_s241_s (ck_S1 p2_s242_s (ck_S1 p2_s244_s ck_S0))) (ck_E1 (ck_S1 p2_s290_s ck_S0) (ck_E1 (ck_S1 p2_s257_s ck_S0) ck_E0)))⟩ ck_X0 ck_l0 p2_s1436_e
set_option maxRecDepth 100000 in
/-- GlacierMailModel.wrote -/
def p2_s1437 : ck_Sum := ((2, 0, 0), 245, [.inr (.inr (.inl 226)), .inl (0, 7, []), .inl (0, 5, []), .inl (300, 2147483647, []), .inl ((-2147483648), 2147483647, [])], ([], [], [(227, 3, 3, (0, 8, [(21, 0)]))]), ([(226, 0, 0)], []), [(.inr (some (.inl (ck_one 0))), 245, ([], [], [(226, 0, 0, (1, 2, []))]))])
set_option maxRecDepth 100000 in
theorem p2_s1437_e : ck_ok p2_O none [] [(298, [p2_s365]), (282, [p2_s241, p2_s242, p2_s244]), (288, [p2_s290]), (285, [p2_s260])] 340 [] 124 p2_s1437 = true := by decide +kernel
theorem p2_s1437_s {X : Int → Int} {LX : Nat} : ck_Ok p2_O X LX 340 p2_s1437 := ck_ok_s ⟨p2_nmu, ck_E1 (ck_S1 p2_s365_s ck_S0) (ck_E1 (ck_S1 p2_s241_s (ck_S1 p2_s242_s (ck_S1 p2_s244_s ck_S0))) (ck_E1 (ck_S1 p2_s290_s ck_S0) (ck_E1 (ck_S1 p2_s260_s ck_S0) ck_E0)))⟩ ck_X0 ck_l0 p2_s1437_e
set_option maxRecDepth 100000 in
/-- GlacierMailModel.wrote -/
def p2_s1438 : ck_Sum := ((2, 0, 0), 245, [.inr (.inr (.inl 226)), .inl (0, 7, []), .inl (0, 5, []), .inl (0, 299, []), .inl ((-2147483648), (-1), [])], ([], [], [(227, 3, 3, (0, 8, [(21, 0)]))]), ([(226, 0, 0)], []), [(.inr (some (.inl (ck_one 0))), 245, ([], [], [(226, 0, 0, (1, 2, []))]))])
set_option maxRecDepth 100000 in
theorem p2_s1438_e : ck_ok p2_O none [] [(298, [p2_s365]), (282, [p2_s241, p2_s242, p2_s244]), (288, [p2_s290]), (285, [p2_s263]), (286, [p2_s1416])] 340 [] 134 p2_s1438 = true := by decide +kernel
theorem p2_s1438_s {X : Int → Int} {LX : Nat} : ck_Ok p2_O X LX 340 p2_s1438 := ck_ok_s ⟨p2_nmu, ck_E1 (ck_S1 p2_s365_s ck_S0) (ck_E1 (ck_S1 p2_s241_s (ck_S1 p2_s242_s (ck_S1 p2_s244_s ck_S0))) (ck_E1 (ck_S1 p2_s290_s ck_S0) (ck_E1 (ck_S1 p2_s263_s ck_S0) (ck_E1 (ck_S1 p2_s1416_s ck_S0) ck_E0))))⟩ ck_X0 ck_l0 p2_s1438_e
set_option maxRecDepth 100000 in
/-- GlacierMailModel.wrote -/
def p2_s1439 : ck_Sum := ((2, 0, 0), 245, [.inr (.inr (.inl 226)), .inl (0, 7, []), .inl (0, 5, []), .inl (0, 299, []), .inl (100, 2147483647, [])], ([], [], [(227, 3, 3, (0, 8, [(21, 0)]))]), ([(226, 0, 0)], []), [(.inr (some (.inl (ck_one 0))), 245, ([], [], [(226, 0, 0, (1, 2, []))]))])
set_option maxRecDepth 100000 in
theorem p2_s1439_e : ck_ok p2_O none [] [(298, [p2_s365]), (282, [p2_s241, p2_s242, p2_s244]), (288, [p2_s290]), (285, [p2_s263]), (286, [p2_s1418])] 340 [] 134 p2_s1439 = true := by decide +kernel
theorem p2_s1439_s {X : Int → Int} {LX : Nat} : ck_Ok p2_O X LX 340 p2_s1439 := ck_ok_s ⟨p2_nmu, ck_E1 (ck_S1 p2_s365_s ck_S0) (ck_E1 (ck_S1 p2_s241_s (ck_S1 p2_s242_s (ck_S1 p2_s244_s ck_S0))) (ck_E1 (ck_S1 p2_s290_s ck_S0) (ck_E1 (ck_S1 p2_s263_s ck_S0) (ck_E1 (ck_S1 p2_s1418_s ck_S0) ck_E0))))⟩ ck_X0 ck_l0 p2_s1439_e
set_option maxRecDepth 100000 in
/-- GlacierMailModel.wrote -/
def p2_s1440 : ck_Sum := ((8, 0, 0), 245, [.inr (.inr (.inl 226)), .inl (0, 7, []), .inl (0, 5, []), .inl (0, 299, []), .inl (0, 99, [])], ([], [], [(227, 2, 2, (0, 8, [(20, 0)])), (227, 3, 3, (0, 8, [(21, 0)])), (227, 5, 5, (0, 8, [(23, 0)]))]), ([(226, 0, 0), (226, 17, 23), (226, 26, 26), (226, 29, 30), (233, 0, 399), (235, 0, 29699), (236, 0, 299), (237, 0, 299)], []), [(.inr (some (.inl (0, 298, []))), 245, ([], [], [(226, 0, 0, (0, 1, []))])), (.inr (some (.inl (ck_one (-1)))), 245, ([], [], [(226, 0, 0, ck_one 0)]))])
set_option maxRecDepth 100000 in
theorem p2_s1440_e : ck_ok p2_O none [] [(298, [p2_s365]), (282, [p2_s241, p2_s242, p2_s243]), (288, [p2_s290]), (285, [p2_s263]), (286, [p2_s1420]), (339, [p2_s1421])] 340 [] 142 p2_s1440 = true := by decide +kernel
theorem p2_s1440_s {X : Int → Int} {LX : Nat} : ck_Ok p2_O X LX 340 p2_s1440 := ck_ok_s ⟨p2_nmu, ck_E1 (ck_S1 p2_s365_s ck_S0) (ck_E1 (ck_S1 p2_s241_s (ck_S1 p2_s242_s (ck_S1 p2_s243_s ck_S0))) (ck_E1 (ck_S1 p2_s290_s ck_S0) (ck_E1 (ck_S1 p2_s263_s ck_S0) (ck_E1 (ck_S1 p2_s1420_s ck_S0) (ck_E1 (ck_S1 p2_s1421_s ck_S0) ck_E0)))))⟩ ck_X0 ck_l0 p2_s1440_e
set_option maxRecDepth 100000 in
/-- GlacierMail$Rows.size -/
def p2_s1441 : ck_Sum := ((0, 0, 0), 245, [.inr (.inr (.inl 12))], ([], [], []), ([], []), [(.inr (some (.inl (0, 6, []))), 245, ([], [], []))])
set_option maxRecDepth 100000 in
theorem p2_s1441_e : ck_ok p2_O none [] [] 9 [] 76 p2_s1441 = true := by decide +kernel
theorem p2_s1441_s {X : Int → Int} {LX : Nat} : ck_Ok p2_O X LX 9 p2_s1441 := ck_ok_s ⟨p2_nmu, ck_E0⟩ ck_X0 ck_l0 p2_s1441_e
set_option maxRecDepth 100000 in
/-- GlacierMail.need -/
def p2_s1442 : ck_Sum := ((6, 1, 6), 245, [.inr (.inr (.inl 1)), .inl ((-2147483648), (-1), []), .inl (0, 6, [])], ([], [], []), ([], []), [(.inl 3, 245, ([], [], []))])
set_option maxRecDepth 100000 in
theorem p2_s1442_e : ck_ok p2_O none [] [] 133 [] 76 p2_s1442 = true := by decide +kernel
theorem p2_s1442_s {X : Int → Int} {LX : Nat} : ck_Ok p2_O X LX 133 p2_s1442 := ck_ok_s ⟨p2_nmu, ck_E0⟩ ck_X0 ck_l0 p2_s1442_e
set_option maxRecDepth 100000 in
/-- GlacierMail.needTable -/
def p2_s1443 : ck_Sum := ((7, 1, 6), 245, [.inr (.inr (.inl 1)), .inl ((-2147483648), (-1), [])], ([], [], []), ([], []), [(.inl 3, 245, ([], [], []))])
set_option maxRecDepth 100000 in
theorem p2_s1443_e : ck_ok p2_O none [] [(9, [p2_s1441]), (133, [p2_s1442])] 193 [] 84 p2_s1443 = true := by decide +kernel
theorem p2_s1443_s {X : Int → Int} {LX : Nat} : ck_Ok p2_O X LX 193 p2_s1443 := ck_ok_s ⟨p2_nmu, ck_E1 (ck_S1 p2_s1441_s ck_S0) (ck_E1 (ck_S1 p2_s1442_s ck_S0) ck_E0)⟩ ck_X0 ck_l0 p2_s1443_e
set_option maxRecDepth 100000 in
/-- GlacierMail.table -/
def p2_s1444 : ck_Sum := ((8, 1, 6), 245, [.inr (.inr (.inl 1)), .inl ((-2147483648), (-1), []), .inl ((-2147483648), 2147483647, [])], ([], [], []), ([], []), [(.inl 3, 245, ([], [], []))])
set_option maxRecDepth 100000 in
theorem p2_s1444_e : ck_ok p2_O none [] [(193, [p2_s1443])] 192 [] 76 p2_s1444 = true := by decide +kernel
theorem p2_s1444_s {X : Int → Int} {LX : Nat} : ck_Ok p2_O X LX 192 p2_s1444 := ck_ok_s ⟨p2_nmu, ck_E1 (ck_S1 p2_s1443_s ck_S0) ck_E0⟩ ck_X0 ck_l0 p2_s1444_e
set_option maxRecDepth 100000 in
/-- GlacierMail.need -/
def p2_s1445 : ck_Sum := ((6, 1, 6), 245, [.inr (.inr (.inl 1)), .inl (6, 2147483647, []), .inl (0, 6, [])], ([], [], []), ([], []), [(.inl 3, 245, ([], [], []))])
set_option maxRecDepth 100000 in
theorem p2_s1445_e : ck_ok p2_O none [] [] 133 [] 82 p2_s1445 = true := by decide +kernel
theorem p2_s1445_s {X : Int → Int} {LX : Nat} : ck_Ok p2_O X LX 133 p2_s1445 := ck_ok_s ⟨p2_nmu, ck_E0⟩ ck_X0 ck_l0 p2_s1445_e
set_option maxRecDepth 100000 in
/-- GlacierMail.needTable -/
def p2_s1446 : ck_Sum := ((7, 1, 6), 245, [.inr (.inr (.inl 1)), .inl (6, 2147483647, [])], ([], [], []), ([], []), [(.inl 3, 245, ([], [], []))])
set_option maxRecDepth 100000 in
theorem p2_s1446_e : ck_ok p2_O none [] [(9, [p2_s1441]), (133, [p2_s1445])] 193 [] 84 p2_s1446 = true := by decide +kernel
theorem p2_s1446_s {X : Int → Int} {LX : Nat} : ck_Ok p2_O X LX 193 p2_s1446 := ck_ok_s ⟨p2_nmu, ck_E1 (ck_S1 p2_s1441_s ck_S0) (ck_E1 (ck_S1 p2_s1445_s ck_S0) ck_E0)⟩ ck_X0 ck_l0 p2_s1446_e
set_option maxRecDepth 100000 in
/-- GlacierMail.table -/
def p2_s1447 : ck_Sum := ((8, 1, 6), 245, [.inr (.inr (.inl 1)), .inl (6, 2147483647, []), .inl ((-2147483648), 2147483647, [])], ([], [], []), ([], []), [(.inl 3, 245, ([], [], []))])
set_option maxRecDepth 100000 in
theorem p2_s1447_e : ck_ok p2_O none [] [(193, [p2_s1446])] 192 [] 76 p2_s1447 = true := by decide +kernel
theorem p2_s1447_s {X : Int → Int} {LX : Nat} : ck_Ok p2_O X LX 192 p2_s1447 := ck_ok_s ⟨p2_nmu, ck_E1 (ck_S1 p2_s1446_s ck_S0) ck_E0⟩ ck_X0 ck_l0 p2_s1447_e
set_option maxRecDepth 100000 in
/-- GlacierMail.need -/
def p2_s1448 : ck_Sum := ((6, 1, 6), 245, [.inr (.inr (.inl 1)), .inl (0, 5, []), .inl (0, 6, [])], ([], [], []), ([], []), [(.inr none, 245, ([], [], [])), (.inl 3, 245, ([], [], []))])
set_option maxRecDepth 100000 in
theorem p2_s1448_e : ck_ok p2_O none [] [] 133 [] 82 p2_s1448 = true := by decide +kernel
theorem p2_s1448_s {X : Int → Int} {LX : Nat} : ck_Ok p2_O X LX 133 p2_s1448 := ck_ok_s ⟨p2_nmu, ck_E0⟩ ck_X0 ck_l0 p2_s1448_e
set_option maxRecDepth 100000 in
/-- GlacierMail.needTable -/
def p2_s1449 : ck_Sum := ((7, 1, 6), 245, [.inr (.inr (.inl 1)), .inl (0, 5, [])], ([], [], []), ([], []), [(.inl 3, 245, ([], [], [])), (.inr none, 245, ([], [], []))])
set_option maxRecDepth 100000 in
theorem p2_s1449_e : ck_ok p2_O none [] [(9, [p2_s1441]), (133, [p2_s1448])] 193 [] 86 p2_s1449 = true := by decide +kernel
theorem p2_s1449_s {X : Int → Int} {LX : Nat} : ck_Ok p2_O X LX 193 p2_s1449 := ck_ok_s ⟨p2_nmu, ck_E1 (ck_S1 p2_s1441_s ck_S0) (ck_E1 (ck_S1 p2_s1448_s ck_S0) ck_E0)⟩ ck_X0 ck_l0 p2_s1449_e
set_option maxRecDepth 100000 in
/-- GlacierMail.table -/
def p2_s1450 : ck_Sum := ((8, 2, 12), 245, [.inr (.inr (.inl 1)), .inl (0, 5, []), .inl ((-2147483648), (-1), [])], ([], [], []), ([], []), [(.inl 3, 245, ([], [], []))])
set_option maxRecDepth 100000 in
theorem p2_s1450_e : ck_ok p2_O none [] [(193, [p2_s1449]), (132, [p2_s266])] 192 [] 82 p2_s1450 = true := by decide +kernel
theorem p2_s1450_s {X : Int → Int} {LX : Nat} : ck_Ok p2_O X LX 192 p2_s1450 := ck_ok_s ⟨p2_nmu, ck_E1 (ck_S1 p2_s1449_s ck_S0) (ck_E1 (ck_S1 p2_s266_s ck_S0) ck_E0)⟩ ck_X0 ck_l0 p2_s1450_e
set_option maxRecDepth 100000 in
/-- GlacierMail.table -/
def p2_s1451 : ck_Sum := ((8, 2, 12), 245, [.inr (.inr (.inl 1)), .inl (0, 5, []), .inl (6, 2147483647, [])], ([], [], []), ([], []), [(.inl 3, 245, ([], [], []))])
set_option maxRecDepth 100000 in
theorem p2_s1451_e : ck_ok p2_O none [] [(193, [p2_s1449]), (132, [p2_s269])] 192 [] 82 p2_s1451 = true := by decide +kernel
theorem p2_s1451_s {X : Int → Int} {LX : Nat} : ck_Ok p2_O X LX 192 p2_s1451 := ck_ok_s ⟨p2_nmu, ck_E1 (ck_S1 p2_s1449_s ck_S0) (ck_E1 (ck_S1 p2_s269_s ck_S0) ck_E0)⟩ ck_X0 ck_l0 p2_s1451_e
set_option maxRecDepth 100000 in
/-- GlacierMail$Rows.get -/
def p2_s1452 : ck_Sum := ((0, 0, 0), 245, [.inr (.inr (.inl 12)), .inl ((-2147483648), 2147483647, []), .inl ((-2147483648), 2147483647, [])], ([], [], []), ([], []), [(.inr (some (.inl (ck_one (-1)))), 245, ([], [], [])), (.inr (some (.inl (0, 20, []))), 245, ([], [], [(12, 3, 3, (1, 6, []))]))])
set_option maxRecDepth 100000 in
theorem p2_s1452_e : ck_ok p2_O none [] [] 10 [] 114 p2_s1452 = true := by decide +kernel
theorem p2_s1452_s {X : Int → Int} {LX : Nat} : ck_Ok p2_O X LX 10 p2_s1452 := ck_ok_s ⟨p2_nmu, ck_E0⟩ ck_X0 ck_l0 p2_s1452_e
set_option maxRecDepth 100000 in
/-- GlacierMail.table -/
def p2_s1453 : ck_Sum := ((8, 2, 12), 245, [.inr (.inr (.inl 1)), .inl (0, 5, []), .inl (0, 5, [])], ([], [], []), ([], []), [(.inl 3, 245, ([], [], [])), (.inr (some (.inl (ck_one (-1)))), 245, ([], [], [])), (.inr (some (.inl (0, 20, []))), 245, ([], [], [(12, 3, 3, (1, 6, []))]))])
set_option maxRecDepth 100000 in
theorem p2_s1453_e : ck_ok p2_O none [] [(193, [p2_s1449]), (132, [p2_s272]), (10, [p2_s1452])] 192 [] 96 p2_s1453 = true := by decide +kernel
theorem p2_s1453_s {X : Int → Int} {LX : Nat} : ck_Ok p2_O X LX 192 p2_s1453 := ck_ok_s ⟨p2_nmu, ck_E1 (ck_S1 p2_s1449_s ck_S0) (ck_E1 (ck_S1 p2_s272_s ck_S0) (ck_E1 (ck_S1 p2_s1452_s ck_S0) ck_E0))⟩ ck_X0 ck_l0 p2_s1453_e
set_option maxRecDepth 100000 in
/-- GlacierMailModel.noTable -/
def p2_s1454 : ck_Sum := ((1, 0, 0), 245, [.inr (.inr (.inl 226)), .inl ((-2147483648), (-1), [])], ([], [], [(227, 6, 6, (0, 6, [(24, 0)]))]), ([], []), [(.inr (some (.inl (ck_one 1))), 245, ([], [], []))])
set_option maxRecDepth 100000 in
theorem p2_s1454_e : ck_ok p2_O none [] [(286, [p2_s283])] 342 [] 96 p2_s1454 = true := by decide +kernel
theorem p2_s1454_s {X : Int → Int} {LX : Nat} : ck_Ok p2_O X LX 342 p2_s1454 := ck_ok_s ⟨p2_nmu, ck_E1 (ck_S1 p2_s283_s ck_S0) ck_E0⟩ ck_X0 ck_l0 p2_s1454_e
set_option maxRecDepth 100000 in
/-- GlacierMailModel.table -/
def p2_s1455 : ck_Sum := ((2, 0, 0), 245, [.inr (.inr (.inl 226)), .inl ((-2147483648), (-1), []), .inl ((-2147483648), 2147483647, [])], ([], [], [(227, 6, 6, (0, 6, [(24, 0)]))]), ([(226, 0, 0)], []), [(.inr (some (.inl (ck_one 0))), 245, ([], [], [(226, 0, 0, ck_one 1)]))])
set_option maxRecDepth 100000 in
theorem p2_s1455_e : ck_ok p2_O none [] [(342, [p2_s1454]), (282, [p2_s241])] 341 [] 102 p2_s1455 = true := by decide +kernel
theorem p2_s1455_s {X : Int → Int} {LX : Nat} : ck_Ok p2_O X LX 341 p2_s1455 := ck_ok_s ⟨p2_nmu, ck_E1 (ck_S1 p2_s1454_s ck_S0) (ck_E1 (ck_S1 p2_s241_s ck_S0) ck_E0)⟩ ck_X0 ck_l0 p2_s1455_e
set_option maxRecDepth 100000 in
/-- GlacierMailModel.noTable -/
def p2_s1456 : ck_Sum := ((1, 0, 0), 245, [.inr (.inr (.inl 226)), .inl (6, 2147483647, [])], ([], [], [(227, 6, 6, (0, 6, [(24, 0)]))]), ([], []), [(.inr (some (.inl (ck_one 1))), 245, ([], [], []))])
set_option maxRecDepth 100000 in
theorem p2_s1456_e : ck_ok p2_O none [] [(286, [p2_s286])] 342 [] 96 p2_s1456 = true := by decide +kernel
theorem p2_s1456_s {X : Int → Int} {LX : Nat} : ck_Ok p2_O X LX 342 p2_s1456 := ck_ok_s ⟨p2_nmu, ck_E1 (ck_S1 p2_s286_s ck_S0) ck_E0⟩ ck_X0 ck_l0 p2_s1456_e
set_option maxRecDepth 100000 in
/-- GlacierMailModel.table -/
def p2_s1457 : ck_Sum := ((2, 0, 0), 245, [.inr (.inr (.inl 226)), .inl (6, 2147483647, []), .inl ((-2147483648), 2147483647, [])], ([], [], [(227, 6, 6, (0, 6, [(24, 0)]))]), ([(226, 0, 0)], []), [(.inr (some (.inl (ck_one 0))), 245, ([], [], [(226, 0, 0, ck_one 1)]))])
set_option maxRecDepth 100000 in
theorem p2_s1457_e : ck_ok p2_O none [] [(342, [p2_s1456]), (282, [p2_s241])] 341 [] 102 p2_s1457 = true := by decide +kernel
theorem p2_s1457_s {X : Int → Int} {LX : Nat} : ck_Ok p2_O X LX 341 p2_s1457 := ck_ok_s ⟨p2_nmu, ck_E1 (ck_S1 p2_s1456_s ck_S0) (ck_E1 (ck_S1 p2_s241_s ck_S0) ck_E0)⟩ ck_X0 ck_l0 p2_s1457_e
set_option maxRecDepth 100000 in
/-- GlacierMailModel.noTable -/
def p2_s1458 : ck_Sum := ((1, 0, 0), 245, [.inr (.inr (.inl 226)), .inl (0, 5, [])], ([], [], [(227, 6, 6, (0, 6, [(24, 0)]))]), ([], []), [(.inr (some (.inl (ck_one 1))), 245, ([], [], [])), (.inr (some (.inl (ck_one 0))), 245, ([], [], []))])
set_option maxRecDepth 100000 in
theorem p2_s1458_e : ck_ok p2_O none [] [(286, [p2_s289])] 342 [] 96 p2_s1458 = true := by decide +kernel
theorem p2_s1458_s {X : Int → Int} {LX : Nat} : ck_Ok p2_O X LX 342 p2_s1458 := ck_ok_s ⟨p2_nmu, ck_E1 (ck_S1 p2_s289_s ck_S0) ck_E0⟩ ck_X0 ck_l0 p2_s1458_e
set_option maxRecDepth 100000 in
/-- GlacierMailModel.table -/
def p2_s1459 : ck_Sum := ((2, 0, 0), 245, [.inr (.inr (.inl 226)), .inl (0, 5, []), .inl ((-2147483648), (-1), [])], ([], [], [(227, 6, 6, (0, 6, [(24, 0)]))]), ([(226, 0, 0)], []), [(.inr (some (.inl (ck_one 0))), 245, ([], [], [(226, 0, 0, ck_one 1)]))])
set_option maxRecDepth 100000 in
theorem p2_s1459_e : ck_ok p2_O none [] [(342, [p2_s1458]), (282, [p2_s241]), (288, [p2_s284])] 341 [] 110 p2_s1459 = true := by decide +kernel
theorem p2_s1459_s {X : Int → Int} {LX : Nat} : ck_Ok p2_O X LX 341 p2_s1459 := ck_ok_s ⟨p2_nmu, ck_E1 (ck_S1 p2_s1458_s ck_S0) (ck_E1 (ck_S1 p2_s241_s ck_S0) (ck_E1 (ck_S1 p2_s284_s ck_S0) ck_E0))⟩ ck_X0 ck_l0 p2_s1459_e
set_option maxRecDepth 100000 in
/-- GlacierMailModel.table -/
def p2_s1460 : ck_Sum := ((2, 0, 0), 245, [.inr (.inr (.inl 226)), .inl (0, 5, []), .inl (6, 2147483647, [])], ([], [], [(227, 6, 6, (0, 6, [(24, 0)]))]), ([(226, 0, 0)], []), [(.inr (some (.inl (ck_one 0))), 245, ([], [], [(226, 0, 0, ck_one 1)]))])
set_option maxRecDepth 100000 in
theorem p2_s1460_e : ck_ok p2_O none [] [(342, [p2_s1458]), (282, [p2_s241]), (288, [p2_s287])] 341 [] 110 p2_s1460 = true := by decide +kernel
theorem p2_s1460_s {X : Int → Int} {LX : Nat} : ck_Ok p2_O X LX 341 p2_s1460 := ck_ok_s ⟨p2_nmu, ck_E1 (ck_S1 p2_s1458_s ck_S0) (ck_E1 (ck_S1 p2_s241_s ck_S0) (ck_E1 (ck_S1 p2_s287_s ck_S0) ck_E0))⟩ ck_X0 ck_l0 p2_s1460_e
set_option maxRecDepth 100000 in
/-- GlacierMailModel.ofTable -/
def p2_s1461 : ck_Sum := ((0, 0, 0), 245, [.inr (.inr (.inl 226)), .inl (0, 5, []), .inl (0, 5, [])], ([], [], []), ([], []), [(.inr (some (.inl (0, 20, []))), 245, ([], [], []))])
set_option maxRecDepth 100000 in
theorem p2_s1461_e : ck_ok p2_O none [] [] 343 [] 92 p2_s1461 = true := by decide +kernel
theorem p2_s1461_s {X : Int → Int} {LX : Nat} : ck_Ok p2_O X LX 343 p2_s1461 := ck_ok_s ⟨p2_nmu, ck_E0⟩ ck_X0 ck_l0 p2_s1461_e
set_option maxRecDepth 100000 in
/-- GlacierMailModel.table -/
def p2_s1462 : ck_Sum := ((2, 0, 0), 245, [.inr (.inr (.inl 226)), .inl (0, 5, []), .inl (0, 5, [])], ([], [], [(227, 6, 6, (0, 6, [(24, 0)]))]), ([(226, 0, 0)], []), [(.inr (some (.inl (0, 20, []))), 245, ([], [], [(226, 0, 0, (0, 1, []))]))])
set_option maxRecDepth 100000 in
theorem p2_s1462_e : ck_ok p2_O none [] [(342, [p2_s1458]), (282, [p2_s241, p2_s242]), (288, [p2_s290]), (343, [p2_s1461])] 341 [] 112 p2_s1462 = true := by decide +kernel
theorem p2_s1462_s {X : Int → Int} {LX : Nat} : ck_Ok p2_O X LX 341 p2_s1462 := ck_ok_s ⟨p2_nmu, ck_E1 (ck_S1 p2_s1458_s ck_S0) (ck_E1 (ck_S1 p2_s241_s (ck_S1 p2_s242_s ck_S0)) (ck_E1 (ck_S1 p2_s290_s ck_S0) (ck_E1 (ck_S1 p2_s1461_s ck_S0) ck_E0)))⟩ ck_X0 ck_l0 p2_s1462_e
set_option maxRecDepth 100000 in
/-- GlacierMail.apart -/
def p2_s1463 : ck_Sum := ((8, 1, 6), 245, [.inr (.inr (.inl 1)), .inl ((-2147483648), (-1), []), .inl ((-2147483648), 2147483647, []), .inl ((-2147483648), 2147483647, [])], ([], [], []), ([], []), [(.inl 3, 245, ([], [], []))])
set_option maxRecDepth 100000 in
theorem p2_s1463_e : ck_ok p2_O none [] [(193, [p2_s1443])] 195 [] 76 p2_s1463 = true := by decide +kernel
theorem p2_s1463_s {X : Int → Int} {LX : Nat} : ck_Ok p2_O X LX 195 p2_s1463 := ck_ok_s ⟨p2_nmu, ck_E1 (ck_S1 p2_s1443_s ck_S0) ck_E0⟩ ck_X0 ck_l0 p2_s1463_e
set_option maxRecDepth 100000 in
/-- GlacierMail.apart -/
def p2_s1464 : ck_Sum := ((8, 1, 6), 245, [.inr (.inr (.inl 1)), .inl (6, 2147483647, []), .inl ((-2147483648), 2147483647, []), .inl ((-2147483648), 2147483647, [])], ([], [], []), ([], []), [(.inl 3, 245, ([], [], []))])
set_option maxRecDepth 100000 in
theorem p2_s1464_e : ck_ok p2_O none [] [(193, [p2_s1446])] 195 [] 76 p2_s1464 = true := by decide +kernel
theorem p2_s1464_s {X : Int → Int} {LX : Nat} : ck_Ok p2_O X LX 195 p2_s1464 := ck_ok_s ⟨p2_nmu, ck_E1 (ck_S1 p2_s1446_s ck_S0) ck_E0⟩ ck_X0 ck_l0 p2_s1464_e
set_option maxRecDepth 100000 in
/-- GlacierMail.apart -/
def p2_s1465 : ck_Sum := ((8, 2, 12), 245, [.inr (.inr (.inl 1)), .inl (0, 5, []), .inl ((-2147483648), (-1), []), .inl ((-2147483648), 2147483647, [])], ([], [], []), ([], []), [(.inl 3, 245, ([], [], []))])
set_option maxRecDepth 100000 in
theorem p2_s1465_e : ck_ok p2_O none [] [(193, [p2_s1449, p2_s1443])] 195 [] 82 p2_s1465 = true := by decide +kernel
theorem p2_s1465_s {X : Int → Int} {LX : Nat} : ck_Ok p2_O X LX 195 p2_s1465 := ck_ok_s ⟨p2_nmu, ck_E1 (ck_S1 p2_s1449_s (ck_S1 p2_s1443_s ck_S0)) ck_E0⟩ ck_X0 ck_l0 p2_s1465_e
set_option maxRecDepth 100000 in
/-- GlacierMail.apart -/
def p2_s1466 : ck_Sum := ((8, 2, 12), 245, [.inr (.inr (.inl 1)), .inl (0, 5, []), .inl (6, 2147483647, []), .inl ((-2147483648), 2147483647, [])], ([], [], []), ([], []), [(.inl 3, 245, ([], [], []))])
set_option maxRecDepth 100000 in
theorem p2_s1466_e : ck_ok p2_O none [] [(193, [p2_s1449, p2_s1446])] 195 [] 82 p2_s1466 = true := by decide +kernel
theorem p2_s1466_s {X : Int → Int} {LX : Nat} : ck_Ok p2_O X LX 195 p2_s1466 := ck_ok_s ⟨p2_nmu, ck_E1 (ck_S1 p2_s1449_s (ck_S1 p2_s1446_s ck_S0)) ck_E0⟩ ck_X0 ck_l0 p2_s1466_e
set_option maxRecDepth 100000 in
/-- GlacierMail.toldApart -/
def p2_s1467 : ck_Sum := ((1, 0, 0), 245, [.inr (.inr (.inl 1)), .inl (0, 5, []), .inl (0, 5, []), .inl ((-2147483648), 2147483647, [])], ([], [], []), ([], []), [(.inr (some (.inl (ck_one 0))), 245, ([], [], [])), (.inr (some (.inl (ck_one 1))), 245, ([], [], [(12, 3, 3, (1, 6, []))]))])
set_option maxRecDepth 100000 in
theorem p2_s1467_e : ck_ok p2_O none [] [(10, [p2_s1452])] 51 [(3, [some (.inr (.inr (.inl 1))), some (.inl (0, 5, [])), some (.inl (0, 5, [])), some (.inl ((-2147483648), 2147483647, [])), some (.inl (0, 6, []))], ([], [], []), 100, .inl 4, true)] 202 p2_s1467 = true := by decide +kernel
theorem p2_s1467_s {X : Int → Int} {LX : Nat} : ck_Ok p2_O X LX 51 p2_s1467 := ck_ok_s ⟨p2_nmu, ck_E1 (ck_S1 p2_s1452_s ck_S0) ck_E0⟩ ck_X0 ck_l0 p2_s1467_e
set_option maxRecDepth 100000 in
/-- GlacierMail.apart -/
def p2_s1468 : ck_Sum := ((8, 2, 12), 245, [.inr (.inr (.inl 1)), .inl (0, 5, []), .inl (0, 5, []), .inl ((-2147483648), 2147483647, [])], ([], [], []), ([], []), [(.inl 3, 245, ([], [], [])), (.inr (some (.inl (ck_one 0))), 245, ([], [], [])), (.inr (some (.inl (ck_one 1))), 245, ([], [], [(12, 3, 3, (1, 6, []))]))])
set_option maxRecDepth 100000 in
theorem p2_s1468_e : ck_ok p2_O none [] [(193, [p2_s1449]), (51, [p2_s1467])] 195 [] 94 p2_s1468 = true := by decide +kernel
theorem p2_s1468_s {X : Int → Int} {LX : Nat} : ck_Ok p2_O X LX 195 p2_s1468 := ck_ok_s ⟨p2_nmu, ck_E1 (ck_S1 p2_s1449_s ck_S0) (ck_E1 (ck_S1 p2_s1467_s ck_S0) ck_E0)⟩ ck_X0 ck_l0 p2_s1468_e
set_option maxRecDepth 100000 in
/-- GlacierMailModel.apart -/
def p2_s1469 : ck_Sum := ((2, 0, 0), 245, [.inr (.inr (.inl 226)), .inl ((-2147483648), (-1), []), .inl ((-2147483648), 2147483647, []), .inl ((-2147483648), 2147483647, [])], ([], [], [(227, 6, 6, (0, 6, [(24, 0)]))]), ([(226, 0, 0)], []), [(.inr (some (.inl (ck_one 0))), 245, ([], [], [(226, 0, 0, ck_one 1)]))])
set_option maxRecDepth 100000 in
theorem p2_s1469_e : ck_ok p2_O none [] [(342, [p2_s1454]), (282, [p2_s241])] 344 [] 100 p2_s1469 = true := by decide +kernel
theorem p2_s1469_s {X : Int → Int} {LX : Nat} : ck_Ok p2_O X LX 344 p2_s1469 := ck_ok_s ⟨p2_nmu, ck_E1 (ck_S1 p2_s1454_s ck_S0) (ck_E1 (ck_S1 p2_s241_s ck_S0) ck_E0)⟩ ck_X0 ck_l0 p2_s1469_e
set_option maxRecDepth 100000 in
/-- GlacierMailModel.apart -/
def p2_s1470 : ck_Sum := ((2, 0, 0), 245, [.inr (.inr (.inl 226)), .inl (6, 2147483647, []), .inl ((-2147483648), 2147483647, []), .inl ((-2147483648), 2147483647, [])], ([], [], [(227, 6, 6, (0, 6, [(24, 0)]))]), ([(226, 0, 0)], []), [(.inr (some (.inl (ck_one 0))), 245, ([], [], [(226, 0, 0, ck_one 1)]))])
set_option maxRecDepth 100000 in
theorem p2_s1470_e : ck_ok p2_O none [] [(342, [p2_s1456]), (282, [p2_s241])] 344 [] 100 p2_s1470 = true := by decide +kernel
theorem p2_s1470_s {X : Int → Int} {LX : Nat} : ck_Ok p2_O X LX 344 p2_s1470 := ck_ok_s ⟨p2_nmu, ck_E1 (ck_S1 p2_s1456_s ck_S0) (ck_E1 (ck_S1 p2_s241_s ck_S0) ck_E0)⟩ ck_X0 ck_l0 p2_s1470_e
set_option maxRecDepth 100000 in
/-- GlacierMailModel.apart -/
def p2_s1471 : ck_Sum := ((2, 0, 0), 245, [.inr (.inr (.inl 226)), .inl (0, 5, []), .inl ((-2147483648), (-1), []), .inl ((-2147483648), 2147483647, [])], ([], [], [(227, 6, 6, (0, 6, [(24, 0)]))]), ([(226, 0, 0)], []), [(.inr (some (.inl (ck_one 0))), 245, ([], [], [(226, 0, 0, ck_one 1)]))])
set_option maxRecDepth 100000 in
theorem p2_s1471_e : ck_ok p2_O none [] [(342, [p2_s1458, p2_s1454]), (282, [p2_s241])] 344 [] 108 p2_s1471 = true := by decide +kernel
theorem p2_s1471_s {X : Int → Int} {LX : Nat} : ck_Ok p2_O X LX 344 p2_s1471 := ck_ok_s ⟨p2_nmu, ck_E1 (ck_S1 p2_s1458_s (ck_S1 p2_s1454_s ck_S0)) (ck_E1 (ck_S1 p2_s241_s ck_S0) ck_E0)⟩ ck_X0 ck_l0 p2_s1471_e
set_option maxRecDepth 100000 in
/-- GlacierMailModel.apart -/
def p2_s1472 : ck_Sum := ((2, 0, 0), 245, [.inr (.inr (.inl 226)), .inl (0, 5, []), .inl (6, 2147483647, []), .inl ((-2147483648), 2147483647, [])], ([], [], [(227, 6, 6, (0, 6, [(24, 0)]))]), ([(226, 0, 0)], []), [(.inr (some (.inl (ck_one 0))), 245, ([], [], [(226, 0, 0, ck_one 1)]))])
set_option maxRecDepth 100000 in
theorem p2_s1472_e : ck_ok p2_O none [] [(342, [p2_s1458, p2_s1456]), (282, [p2_s241])] 344 [] 108 p2_s1472 = true := by decide +kernel
theorem p2_s1472_s {X : Int → Int} {LX : Nat} : ck_Ok p2_O X LX 344 p2_s1472 := ck_ok_s ⟨p2_nmu, ck_E1 (ck_S1 p2_s1458_s (ck_S1 p2_s1456_s ck_S0)) (ck_E1 (ck_S1 p2_s241_s ck_S0) ck_E0)⟩ ck_X0 ck_l0 p2_s1472_e
set_option maxRecDepth 100000 in
/-- GlacierMailModel.has -/
def p2_s1473 : ck_Sum := ((0, 0, 0), 245, [.inl ((-2147483648), 2147483647, []), .inl (0, 5, [])], ([], [], []), ([], []), [(.inr (some (.inl (ck_one 0))), 245, ([], [], [])), (.inr (some (.inl (ck_one 1))), 245, ([], [], []))])
set_option maxRecDepth 100000 in
theorem p2_s1473_e : ck_ok p2_O none [] [] 346 [] 90 p2_s1473 = true := by decide +kernel
theorem p2_s1473_s {X : Int → Int} {LX : Nat} : ck_Ok p2_O X LX 346 p2_s1473 := ck_ok_s ⟨p2_nmu, ck_E0⟩ ck_X0 ck_l0 p2_s1473_e
set_option maxRecDepth 100000 in
/-- GlacierMailModel.areApart -/
def p2_s1474 : ck_Sum := ((1, 0, 0), 245, [.inr (.inr (.inl 226)), .inl (0, 5, []), .inl (0, 5, []), .inl ((-2147483648), 2147483647, [])], ([], [], []), ([], []), [(.inr (some (.inl (0, 1, []))), 245, ([], [], []))])
set_option maxRecDepth 100000 in
theorem p2_s1474_e : ck_ok p2_O none [] [(261, [p2_s166]), (346, [p2_s1473]), (343, [p2_s1461])] 345 [(6, [some (.inr (.inr (.inl 226))), some (.inl (0, 5, [])), some (.inl (0, 5, [])), some (.inl ((-2147483648), 2147483647, [])), some (.inl (0, 1, [])), some (.inl (0, 6, []))], ([], [], []), 100, .inl 5, true)] 190 p2_s1474 = true := by decide +kernel
theorem p2_s1474_s {X : Int → Int} {LX : Nat} : ck_Ok p2_O X LX 345 p2_s1474 := ck_ok_s ⟨p2_nmu, ck_E1 (ck_S1 p2_s166_s ck_S0) (ck_E1 (ck_S1 p2_s1473_s ck_S0) (ck_E1 (ck_S1 p2_s1461_s ck_S0) ck_E0))⟩ ck_X0 ck_l0 p2_s1474_e
set_option maxRecDepth 100000 in
/-- GlacierMailModel.apart -/
def p2_s1475 : ck_Sum := ((2, 0, 0), 245, [.inr (.inr (.inl 226)), .inl (0, 5, []), .inl (0, 5, []), .inl ((-2147483648), 2147483647, [])], ([], [], [(227, 6, 6, (0, 6, [(24, 0)]))]), ([(226, 0, 0)], []), [(.inr (some (.inl (ck_one 0))), 245, ([], [], [(226, 0, 0, (0, 1, []))])), (.inr (some (.inl (ck_one 1))), 245, ([], [], [(226, 0, 0, ck_one 0)]))])
set_option maxRecDepth 100000 in
theorem p2_s1475_e : ck_ok p2_O none [] [(342, [p2_s1458]), (282, [p2_s241, p2_s242]), (345, [p2_s1474])] 344 [] 120 p2_s1475 = true := by decide +kernel
theorem p2_s1475_s {X : Int → Int} {LX : Nat} : ck_Ok p2_O X LX 344 p2_s1475 := ck_ok_s ⟨p2_nmu, ck_E1 (ck_S1 p2_s1458_s ck_S0) (ck_E1 (ck_S1 p2_s241_s (ck_S1 p2_s242_s ck_S0)) (ck_E1 (ck_S1 p2_s1474_s ck_S0) ck_E0))⟩ ck_X0 ck_l0 p2_s1475_e
set_option maxRecDepth 100000 in
/-- GlacierMail.allToldApart -/
def p2_s1476 : ck_Sum := ((2, 0, 0), 245, [.inr (.inr (.inl 1)), .inl ((-2147483648), 2147483647, [])], ([], [], []), ([], []), [(.inr (some (.inl (ck_one 1))), 245, ([], [], [])), (.inr (some (.inl (ck_one 0))), 245, ([], [], []))])
set_option maxRecDepth 100000 in
theorem p2_s1476_e : ck_ok p2_O none [] [(9, [p2_s1441]), (51, [p2_s1467])] 50 [(2, [some (.inr (.inr (.inl 1))), some (.inl ((-2147483648), 2147483647, [])), some (.inl (0, 6, [])), none], ([], [], []), 100, .inl 2, true), (20, [some (.inr (.inr (.inl 1))), some (.inl ((-2147483648), 2147483647, [])), some (.inl (0, 5, [(100, 0)])), some (.inl (1, 6, []))], ([], [], []), 300, .inl 3, true)] 200 p2_s1476 = true := by decide +kernel
theorem p2_s1476_s {X : Int → Int} {LX : Nat} : ck_Ok p2_O X LX 50 p2_s1476 := ck_ok_s ⟨p2_nmu, ck_E1 (ck_S1 p2_s1441_s ck_S0) (ck_E1 (ck_S1 p2_s1467_s ck_S0) ck_E0)⟩ ck_X0 ck_l0 p2_s1476_e
set_option maxRecDepth 100000 in
/-- java/lang/Integer.bitCount -/
def p2_s1477 : ck_Sum := ((0, 0, 0), 245, [.inl ((-2147483648), 2147483647, [])], ([], [], []), ([], []), [(.inr (some (.inl (0, 63, []))), 245, ([], [], []))])
set_option maxRecDepth 100000 in
theorem p2_s1477_e : ck_ok p2_O none [] [] 49 [] 154 p2_s1477 = true := by decide +kernel
theorem p2_s1477_s {X : Int → Int} {LX : Nat} : ck_Ok p2_O X LX 49 p2_s1477 := ck_ok_s ⟨p2_nmu, ck_E0⟩ ck_X0 ck_l0 p2_s1477_e
set_option maxRecDepth 100000 in
/-- GlacierMail.poles -/
def p2_s1478 : ck_Sum := ((3, 0, 0), 245, [.inr (.inr (.inl 1))], ([], [], []), ([], []), [(.inr (some (.inl ((-1), 2147483646, []))), 245, ([], [], []))])
set_option maxRecDepth 100000 in
theorem p2_s1478_e : ck_ok p2_O none [] [(50, [p2_s1476]), (49, [p2_s1477])] 48 [(4, [some (.inr (.inr (.inl 1))), some (.inl ((-1), 2147483646, [])), some (.inl (0, 2147483647, [])), none], ([], [], []), 100, .inl 2, true)] 206 p2_s1478 = true := by decide +kernel
theorem p2_s1478_s {X : Int → Int} {LX : Nat} : ck_Ok p2_O X LX 48 p2_s1478 := ck_ok_s ⟨p2_nmu, ck_E1 (ck_S1 p2_s1476_s ck_S0) (ck_E1 (ck_S1 p2_s1477_s ck_S0) ck_E0)⟩ ck_X0 ck_l0 p2_s1478_e
set_option maxRecDepth 100000 in
/-- GlacierMailModel.poles -/
def p2_s1479 : ck_Sum := ((2, 0, 0), 245, [.inr (.inr (.inl 226))], ([], [], [(227, 6, 6, (0, 6, [(24, 0)]))]), ([(226, 0, 0)], []), [(.inr (some (.inl ((-1), 2147483646, []))), 245, ([], [], [(226, 0, 0, ck_one 0)]))])
set_option maxRecDepth 100000 in
theorem p2_s1479_e : ck_ok p2_O none [] [(261, [p2_s166]), (49, [p2_s1477]), (345, [p2_s1474])] 347 [(9, [some (.inr (.inr (.inl 226))), some (.inl ((-1), 2147483646, [])), some (.inl (0, 2147483647, [])), none, none, none], ([], [], [(226, 0, 0, ck_one 0), (227, 6, 6, (0, 6, [(24, 0)]))]), 100, .inl 2, true), (43, [some (.inr (.inr (.inl 226))), some (.inl ((-1), 2147483646, [])), some (.inl (0, 2147483646, [(100, 0)])), some (.inl (0, 1, [])), some (.inl (0, 6, [])), none], ([], [], [(226, 0, 0, ck_one 0), (227, 6, 6, (0, 6, [(24, 0)]))]), 300, .inl 4, true), (58, [some (.inr (.inr (.inl 226))), some (.inl ((-1), 2147483646, [])), some (.inl (0, 2147483646, [(100, 0)])), some (.inl (0, 1, [])), some (.inl (0, 5, [(300, 0)])), some (.inl (0, 5, []))], ([], [], [(227, 6, 6, (1, 6, [(24, 0)])), (226, 0, 0, ck_one 0)]), 500, .inl 5, true)] 282 p2_s1479 = true := by decide +kernel
theorem p2_s1479_s {X : Int → Int} {LX : Nat} : ck_Ok p2_O X LX 347 p2_s1479 := ck_ok_s ⟨p2_nmu, ck_E1 (ck_S1 p2_s166_s ck_S0) (ck_E1 (ck_S1 p2_s1477_s ck_S0) (ck_E1 (ck_S1 p2_s1474_s ck_S0) ck_E0))⟩ ck_X0 ck_l0 p2_s1479_e
set_option maxRecDepth 100000 in
/-- GlacierMail.areReadings -/
def p2_s1480 : ck_Sum := ((0, 0, 0), 245, [.inr (.inr (.inl 1)), .inl (0, 400, [])], ([], [], []), ([], []), [(.inr (some (.inl (ck_one 0))), 245, ([], [], [])), (.inr (some (.inl (ck_one 1))), 245, ([], [], []))])
set_option maxRecDepth 100000 in
theorem p2_s1480_e : ck_ok p2_O none [] [] 198 [(10, [some (.inr (.inr (.inl 1))), some (.inl (0, 400, [])), some (.inl (0, 400, [])), none, none], ([], [], []), 100, .inl 2, true)] 302 p2_s1480 = true := by decide +kernel
theorem p2_s1480_s {X : Int → Int} {LX : Nat} : ck_Ok p2_O X LX 198 p2_s1480 := ck_ok_s ⟨p2_nmu, ck_E0⟩ ck_X0 ck_l0 p2_s1480_e
set_option maxRecDepth 100000 in
/-- GlacierMail.fitsReadings -/
def p2_s1481 : ck_Sum := ((1, 0, 0), 245, [.inr (.inr (.inl 1)), .inl (0, 5, []), .inl (0, 400, [])], ([], [], []), ([], []), [(.inr (some (.inl (ck_one 1))), 245, ([], [], [])), (.inr (some (.inl (ck_one 0))), 245, ([], [], []))])
set_option maxRecDepth 100000 in
theorem p2_s1481_e : ck_ok p2_O none [] [(10, [p2_s1452])] 199 [(2, [some (.inr (.inr (.inl 1))), some (.inl (0, 5, [])), some (.inl (0, 400, [])), some (.inl (0, 400, []))], ([], [], []), 100, .inl 3, true)] 214 p2_s1481 = true := by decide +kernel
theorem p2_s1481_s {X : Int → Int} {LX : Nat} : ck_Ok p2_O X LX 199 p2_s1481 := ck_ok_s ⟨p2_nmu, ck_E1 (ck_S1 p2_s1452_s ck_S0) ck_E0⟩ ck_X0 ck_l0 p2_s1481_e
set_option maxRecDepth 100000 in
/-- GlacierMail.fit -/
def p2_s1482 : ck_Sum := ((6, 1, 6), 245, [.inr (.inr (.inl 1))], ([], [], [(1, 1, 1, (0, 400, [(6, 0)]))]), ([(1, 1, 1)], []), [(.inl 0, 245, ([], [], [(1, 1, 1, ck_one 0)])), (.inr (some (.inl ((-2147483648), 2147483647, []))), 245, ([], [], [(1, 1, 1, ck_one 0)]))])
set_option maxRecDepth 100000 in
theorem p2_s1482_e : ck_ok p2_O none [] [(198, [p2_s1480]), (9, [p2_s1441]), (199, [p2_s1481])] 197 [(33, [some (.inr (.inr (.inl 1))), some (.inl (0, 400, [(6, 0)])), some (.inl ((-2147483648), 2147483647, [])), some (.inl (0, 6, []))], ([], [], [(1, 1, 1, ck_one 0)]), 100, .inl 3, true)] 170 p2_s1482 = true := by decide +kernel
theorem p2_s1482_s {X : Int → Int} {LX : Nat} : ck_Ok p2_O X LX 197 p2_s1482 := ck_ok_s ⟨p2_nmu, ck_E1 (ck_S1 p2_s1480_s ck_S0) (ck_E1 (ck_S1 p2_s1441_s ck_S0) (ck_E1 (ck_S1 p2_s1481_s ck_S0) ck_E0))⟩ ck_X0 ck_l0 p2_s1482_e
set_option maxRecDepth 100000 in
/-- GlacierMailModel.in -/
def p2_s1483 : ck_Sum := ((0, 0, 0), 245, [.inl ((-128), 127, []), .inl (ck_one 0), .inl ((-1), 5, [])], ([], [], []), ([], []), [(.inr (some (.inl (ck_one 0))), 245, ([], [], [])), (.inr (some (.inl (ck_one 1))), 245, ([], [], []))])
set_option maxRecDepth 100000 in
theorem p2_s1483_e : ck_ok p2_O none [] [] 286 [] 88 p2_s1483 = true := by decide +kernel
theorem p2_s1483_s {X : Int → Int} {LX : Nat} : ck_Ok p2_O X LX 286 p2_s1483 := ck_ok_s ⟨p2_nmu, ck_E0⟩ ck_X0 ck_l0 p2_s1483_e
set_option maxRecDepth 100000 in
/-- GlacierMailModel.noLane -/
def p2_s1484 : ck_Sum := ((1, 0, 0), 245, [.inr (.inr (.inl 226)), .inl ((-128), 127, [])], ([], [], []), ([], []), [(.inr (some (.inl (ck_one 1))), 245, ([], [], [])), (.inr (some (.inl (ck_one 0))), 245, ([], [], []))])
set_option maxRecDepth 100000 in
theorem p2_s1484_e : ck_ok p2_O none [] [(261, [p2_s166]), (286, [p2_s1483])] 288 [] 92 p2_s1484 = true := by decide +kernel
theorem p2_s1484_s {X : Int → Int} {LX : Nat} : ck_Ok p2_O X LX 288 p2_s1484 := ck_ok_s ⟨p2_nmu, ck_E1 (ck_S1 p2_s166_s ck_S0) (ck_E1 (ck_S1 p2_s1483_s ck_S0) ck_E0)⟩ ck_X0 ck_l0 p2_s1484_e
set_option maxRecDepth 100000 in
/-- GlacierMailModel.in -/
def p2_s1485 : ck_Sum := ((0, 0, 0), 245, [.inl ((-128), 127, []), .inl (ck_one 0), .inl (ck_one 20)], ([], [], []), ([], []), [(.inr (some (.inl (ck_one 0))), 245, ([], [], [])), (.inr (some (.inl (ck_one 1))), 245, ([], [], []))])
set_option maxRecDepth 100000 in
theorem p2_s1485_e : ck_ok p2_O none [] [] 286 [] 88 p2_s1485 = true := by decide +kernel
theorem p2_s1485_s {X : Int → Int} {LX : Nat} : ck_Ok p2_O X LX 286 p2_s1485 := ck_ok_s ⟨p2_nmu, ck_E0⟩ ck_X0 ck_l0 p2_s1485_e
set_option maxRecDepth 100000 in
/-- GlacierMailModel.ofTable -/
def p2_s1486 : ck_Sum := ((0, 0, 0), 245, [.inr (.inr (.inl 226)), .inl (0, 5, []), .inl ((-128), 127, [])], ([], [], []), ([], []), [(.inr (some (.inl ((-1), 999, []))), 245, ([], [], []))])
set_option maxRecDepth 100000 in
theorem p2_s1486_e : ck_ok p2_O none [] [] 343 [] 92 p2_s1486 = true := by decide +kernel
theorem p2_s1486_s {X : Int → Int} {LX : Nat} : ck_Ok p2_O X LX 343 p2_s1486 := ck_ok_s ⟨p2_nmu, ck_E0⟩ ck_X0 ck_l0 p2_s1486_e
set_option maxRecDepth 100000 in
/-- GlacierMailModel.fit -/
def p2_s1487 : ck_Sum := ((2, 0, 0), 245, [.inr (.inr (.inl 226))], ([], [], [(227, 6, 6, (0, 6, [(24, 0)])), (226, 9, 9, (0, 400, [(1, 0)])), (226, 8, 8, (0, 400, [(7, 0)]))]), ([(226, 0, 0), (226, 8, 10)], []), [(.inr (some (.inl (ck_one 0))), 245, ([], [], [(226, 0, 0, ck_one 1), (226, 9, 9, ck_one 0), (226, 8, 8, ck_one 0), (226, 10, 10, (0, 400, [(7, 0)]))])), (.inr (some (.inl ((-2147483648), 2147483647, []))), 245, ([], [], [(226, 10, 10, (0, 400, [(7, 0)])), (226, 9, 9, ck_one 0), (226, 8, 8, ck_one 0), (226, 0, 0, ck_one 0)]))])
def p2_s1487_E : List (Nat × List ck_Sum) := [(244, [p2_s146]), (282, [p2_s242, p2_s241]), (288, [p2_s1484]), (286, [p2_s1485]), (343, [p2_s1486])]
def p2_s1487_i : List (Nat × ck_C) := [(21, [some (.inr (.inr (.inl 226))), some (.inl (0, 1, [])), some (.inl (0, 400, [])), none, none], ([], [], [(226, 9, 9, ck_one 0), (226, 8, 8, ck_one 0), (226, 10, 10, (0, 400, [(7, 0)])), (226, 0, 0, ck_one 0), (227, 6, 6, (0, 6, [(24, 0)]))]), 100, .inl 2, true), (110, [some (.inr (.inr (.inl 226))), some (.inl (ck_one 1)), some (.inl ((-2147483648), 2147483647, [])), some (.inl (0, 6, [])), none], ([], [], [(226, 10, 10, (0, 400, [(7, 0)])), (226, 9, 9, ck_one 0), (226, 8, 8, ck_one 0), (226, 0, 0, ck_one 0), (227, 6, 6, (0, 6, [(24, 0)]))]), 300, .inl 3, true)]
set_option maxRecDepth 100000 in
def p2_s1487_l : List ck_H := [(124, ([some (.inr (.inr (.inl 226))), some (.inl (ck_one 1)), some (.inl ((-2147483648), 2147483647, [])), some (.inl (0, 5, [(300, 0)])), some (.inl (ck_one 400))], ([], [], [(226, 10, 10, (399, 400, [(7, 0)])), (227, 6, 6, (1, 6, [(24, 0)])), (226, 9, 9, ck_one 0), (226, 8, 8, ck_one 0), (226, 0, 0, ck_one 0)]), 2000000, .inl 2, true), 0, 0, 245), (124, ([some (.inr (.inr (.inl 226))), some (.inl (ck_one 1)), some (.inl ((-2147483648), 2147483647, [])), some (.inl (0, 5, [(300, 0)])), some (.inl (ck_one 398))], ([], [], [(226, 10, 10, (397, 400, [(7, 0)])), (227, 6, 6, (1, 6, [(24, 0)])), (226, 9, 9, ck_one 0), (226, 8, 8, ck_one 0), (226, 0, 0, ck_one 0)]), 2000001, .inl 2, true), 0, 0, 245), (124, ([some (.inr (.inr (.inl 226))), some (.inl (ck_one 1)), some (.inl ((-2147483648), 2147483647, [])), some (.inl (0, 5, [(300, 0)])), some (.inl (ck_one 396))], ([], [], [(226, 10, 10, (395, 400, [(7, 0)])), (227, 6, 6, (1, 6, [(24, 0)])), (226, 9, 9, ck_one 0), (226, 8, 8, ck_one 0), (226, 0, 0, ck_one 0)]), 2000002, .inl 2, true), 0, 0, 245), (124, ([some (.inr (.inr (.inl 226))), some (.inl (ck_one 1)), some (.inl ((-2147483648), 2147483647, [])), some (.inl (0, 5, [(300, 0)])), some (.inl (ck_one 394))], ([], [], [(226, 10, 10, (393, 400, [(7, 0)])), (227, 6, 6, (1, 6, [(24, 0)])), (226, 9, 9, ck_one 0), (226, 8, 8, ck_one 0), (226, 0, 0, ck_one 0)]), 2000003, .inl 2, true), 0, 0, 245), (124, ([some (.inr (.inr (.inl 226))), some (.inl (ck_one 1)), some (.inl ((-2147483648), 2147483647, [])), some (.inl (0, 5, [(300, 0)])), some (.inl (ck_one 392))], ([], [], [(226, 10, 10, (391, 400, [(7, 0)])), (227, 6, 6, (1, 6, [(24, 0)])), (226, 9, 9, ck_one 0), (226, 8, 8, ck_one 0), (226, 0, 0, ck_one 0)]), 2000004, .inl 2, true), 0, 0, 245), (124, ([some (.inr (.inr (.inl 226))), some (.inl (ck_one 1)), some (.inl ((-2147483648), 2147483647, [])), some (.inl (0, 5, [(300, 0)])), some (.inl (ck_one 390))], ([], [], [(226, 10, 10, (389, 400, [(7, 0)])), (227, 6, 6, (1, 6, [(24, 0)])), (226, 9, 9, ck_one 0), (226, 8, 8, ck_one 0), (226, 0, 0, ck_one 0)]), 2000005, .inl 2, true), 0, 0, 245), (124, ([some (.inr (.inr (.inl 226))), some (.inl (ck_one 1)), some (.inl ((-2147483648), 2147483647, [])), some (.inl (0, 5, [(300, 0)])), some (.inl (ck_one 388))], ([], [], [(226, 10, 10, (387, 400, [(7, 0)])), (227, 6, 6, (1, 6, [(24, 0)])), (226, 9, 9, ck_one 0), (226, 8, 8, ck_one 0), (226, 0, 0, ck_one 0)]), 2000006, .inl 2, true), 0, 0, 245), (124, ([some (.inr (.inr (.inl 226))), some (.inl (ck_one 1)), some (.inl ((-2147483648), 2147483647, [])), some (.inl (0, 5, [(300, 0)])), some (.inl (ck_one 386))], ([], [], [(226, 10, 10, (385, 400, [(7, 0)])), (227, 6, 6, (1, 6, [(24, 0)])), (226, 9, 9, ck_one 0), (226, 8, 8, ck_one 0), (226, 0, 0, ck_one 0)]), 2000007, .inl 2, true), 0, 0, 245), (124, ([some (.inr (.inr (.inl 226))), some (.inl (ck_one 1)), some (.inl ((-2147483648), 2147483647, [])), some (.inl (0, 5, [(300, 0)])), some (.inl (ck_one 384))], ([], [], [(226, 10, 10, (383, 400, [(7, 0)])), (227, 6, 6, (1, 6, [(24, 0)])), (226, 9, 9, ck_one 0), (226, 8, 8, ck_one 0), (226, 0, 0, ck_one 0)]), 2000008, .inl 2, true), 0, 0, 245), (124, ([some (.inr (.inr (.inl 226))), some (.inl (ck_one 1)), some (.inl ((-2147483648), 2147483647, [])), some (.inl (0, 5, [(300, 0)])), some (.inl (ck_one 382))], ([], [], [(226, 10, 10, (381, 400, [(7, 0)])), (227, 6, 6, (1, 6, [(24, 0)])), (226, 9, 9, ck_one 0), (226, 8, 8, ck_one 0), (226, 0, 0, ck_one 0)]), 2000009, .inl 2, true), 0, 0, 245), (124, ([some (.inr (.inr (.inl 226))), some (.inl (ck_one 1)), some (.inl ((-2147483648), 2147483647, [])), some (.inl (0, 5, [(300, 0)])), some (.inl (ck_one 380))], ([], [], [(226, 10, 10, (379, 400, [(7, 0)])), (227, 6, 6, (1, 6, [(24, 0)])), (226, 9, 9, ck_one 0), (226, 8, 8, ck_one 0), (226, 0, 0, ck_one 0)]), 2000010, .inl 2, true), 0, 0, 245), (124, ([some (.inr (.inr (.inl 226))), some (.inl (ck_one 1)), some (.inl ((-2147483648), 2147483647, [])), some (.inl (0, 5, [(300, 0)])), some (.inl (ck_one 378))], ([], [], [(226, 10, 10, (377, 400, [(7, 0)])), (227, 6, 6, (1, 6, [(24, 0)])), (226, 9, 9, ck_one 0), (226, 8, 8, ck_one 0), (226, 0, 0, ck_one 0)]), 2000011, .inl 2, true), 0, 0, 245), (124, ([some (.inr (.inr (.inl 226))), some (.inl (ck_one 1)), some (.inl ((-2147483648), 2147483647, [])), some (.inl (0, 5, [(300, 0)])), some (.inl (ck_one 376))], ([], [], [(226, 10, 10, (375, 400, [(7, 0)])), (227, 6, 6, (1, 6, [(24, 0)])), (226, 9, 9, ck_one 0), (226, 8, 8, ck_one 0), (226, 0, 0, ck_one 0)]), 2000012, .inl 2, true), 0, 0, 245), (124, ([some (.inr (.inr (.inl 226))), some (.inl (ck_one 1)), some (.inl ((-2147483648), 2147483647, [])), some (.inl (0, 5, [(300, 0)])), some (.inl (ck_one 374))], ([], [], [(226, 10, 10, (373, 400, [(7, 0)])), (227, 6, 6, (1, 6, [(24, 0)])), (226, 9, 9, ck_one 0), (226, 8, 8, ck_one 0), (226, 0, 0, ck_one 0)]), 2000013, .inl 2, true), 0, 0, 245), (124, ([some (.inr (.inr (.inl 226))), some (.inl (ck_one 1)), some (.inl ((-2147483648), 2147483647, [])), some (.inl (0, 5, [(300, 0)])), some (.inl (ck_one 372))], ([], [], [(226, 10, 10, (371, 400, [(7, 0)])), (227, 6, 6, (1, 6, [(24, 0)])), (226, 9, 9, ck_one 0), (226, 8, 8, ck_one 0), (226, 0, 0, ck_one 0)]), 2000014, .inl 2, true), 0, 0, 245), (124, ([some (.inr (.inr (.inl 226))), some (.inl (ck_one 1)), some (.inl ((-2147483648), 2147483647, [])), some (.inl (0, 5, [(300, 0)])), some (.inl (ck_one 370))], ([], [], [(226, 10, 10, (369, 400, [(7, 0)])), (227, 6, 6, (1, 6, [(24, 0)])), (226, 9, 9, ck_one 0), (226, 8, 8, ck_one 0), (226, 0, 0, ck_one 0)]), 2000015, .inl 2, true), 0, 0, 245), (124, ([some (.inr (.inr (.inl 226))), some (.inl (ck_one 1)), some (.inl ((-2147483648), 2147483647, [])), some (.inl (0, 5, [(300, 0)])), some (.inl (ck_one 368))], ([], [], [(226, 10, 10, (367, 400, [(7, 0)])), (227, 6, 6, (1, 6, [(24, 0)])), (226, 9, 9, ck_one 0), (226, 8, 8, ck_one 0), (226, 0, 0, ck_one 0)]), 2000016, .inl 2, true), 0, 0, 245), (124, ([some (.inr (.inr (.inl 226))), some (.inl (ck_one 1)), some (.inl ((-2147483648), 2147483647, [])), some (.inl (0, 5, [(300, 0)])), some (.inl (ck_one 366))], ([], [], [(226, 10, 10, (365, 400, [(7, 0)])), (227, 6, 6, (1, 6, [(24, 0)])), (226, 9, 9, ck_one 0), (226, 8, 8, ck_one 0), (226, 0, 0, ck_one 0)]), 2000017, .inl 2, true), 0, 0, 245), (124, ([some (.inr (.inr (.inl 226))), some (.inl (ck_one 1)), some (.inl ((-2147483648), 2147483647, [])), some (.inl (0, 5, [(300, 0)])), some (.inl (ck_one 364))], ([], [], [(226, 10, 10, (363, 400, [(7, 0)])), (227, 6, 6, (1, 6, [(24, 0)])), (226, 9, 9, ck_one 0), (226, 8, 8, ck_one 0), (226, 0, 0, ck_one 0)]), 2000018, .inl 2, true), 0, 0, 245), (124, ([some (.inr (.inr (.inl 226))), some (.inl (ck_one 1)), some (.inl ((-2147483648), 2147483647, [])), some (.inl (0, 5, [(300, 0)])), some (.inl (ck_one 362))], ([], [], [(226, 10, 10, (361, 400, [(7, 0)])), (227, 6, 6, (1, 6, [(24, 0)])), (226, 9, 9, ck_one 0), (226, 8, 8, ck_one 0), (226, 0, 0, ck_one 0)]), 2000019, .inl 2, true), 0, 0, 245), (124, ([some (.inr (.inr (.inl 226))), some (.inl (ck_one 1)), some (.inl ((-2147483648), 2147483647, [])), some (.inl (0, 5, [(300, 0)])), some (.inl (ck_one 360))], ([], [], [(226, 10, 10, (359, 400, [(7, 0)])), (227, 6, 6, (1, 6, [(24, 0)])), (226, 9, 9, ck_one 0), (226, 8, 8, ck_one 0), (226, 0, 0, ck_one 0)]), 2000020, .inl 2, true), 0, 0, 245), (124, ([some (.inr (.inr (.inl 226))), some (.inl (ck_one 1)), some (.inl ((-2147483648), 2147483647, [])), some (.inl (0, 5, [(300, 0)])), some (.inl (ck_one 358))], ([], [], [(226, 10, 10, (357, 400, [(7, 0)])), (227, 6, 6, (1, 6, [(24, 0)])), (226, 9, 9, ck_one 0), (226, 8, 8, ck_one 0), (226, 0, 0, ck_one 0)]), 2000021, .inl 2, true), 0, 0, 245), (124, ([some (.inr (.inr (.inl 226))), some (.inl (ck_one 1)), some (.inl ((-2147483648), 2147483647, [])), some (.inl (0, 5, [(300, 0)])), some (.inl (ck_one 356))], ([], [], [(226, 10, 10, (355, 400, [(7, 0)])), (227, 6, 6, (1, 6, [(24, 0)])), (226, 9, 9, ck_one 0), (226, 8, 8, ck_one 0), (226, 0, 0, ck_one 0)]), 2000022, .inl 2, true), 0, 0, 245), (124, ([some (.inr (.inr (.inl 226))), some (.inl (ck_one 1)), some (.inl ((-2147483648), 2147483647, [])), some (.inl (0, 5, [(300, 0)])), some (.inl (ck_one 354))], ([], [], [(226, 10, 10, (353, 400, [(7, 0)])), (227, 6, 6, (1, 6, [(24, 0)])), (226, 9, 9, ck_one 0), (226, 8, 8, ck_one 0), (226, 0, 0, ck_one 0)]), 2000023, .inl 2, true), 0, 0, 245), (124, ([some (.inr (.inr (.inl 226))), some (.inl (ck_one 1)), some (.inl ((-2147483648), 2147483647, [])), some (.inl (0, 5, [(300, 0)])), some (.inl (ck_one 352))], ([], [], [(226, 10, 10, (351, 400, [(7, 0)])), (227, 6, 6, (1, 6, [(24, 0)])), (226, 9, 9, ck_one 0), (226, 8, 8, ck_one 0), (226, 0, 0, ck_one 0)]), 2000024, .inl 2, true), 0, 0, 245), (124, ([some (.inr (.inr (.inl 226))), some (.inl (ck_one 1)), some (.inl ((-2147483648), 2147483647, [])), some (.inl (0, 5, [(300, 0)])), some (.inl (ck_one 350))], ([], [], [(226, 10, 10, (349, 400, [(7, 0)])), (227, 6, 6, (1, 6, [(24, 0)])), (226, 9, 9, ck_one 0), (226, 8, 8, ck_one 0), (226, 0, 0, ck_one 0)]), 2000025, .inl 2, true), 0, 0, 245), (124, ([some (.inr (.inr (.inl 226))), some (.inl (ck_one 1)), some (.inl ((-2147483648), 2147483647, [])), some (.inl (0, 5, [(300, 0)])), some (.inl (ck_one 348))], ([], [], [(226, 10, 10, (347, 400, [(7, 0)])), (227, 6, 6, (1, 6, [(24, 0)])), (226, 9, 9, ck_one 0), (226, 8, 8, ck_one 0), (226, 0, 0, ck_one 0)]), 2000026, .inl 2, true), 0, 0, 245), (124, ([some (.inr (.inr (.inl 226))), some (.inl (ck_one 1)), some (.inl ((-2147483648), 2147483647, [])), some (.inl (0, 5, [(300, 0)])), some (.inl (ck_one 346))], ([], [], [(226, 10, 10, (345, 400, [(7, 0)])), (227, 6, 6, (1, 6, [(24, 0)])), (226, 9, 9, ck_one 0), (226, 8, 8, ck_one 0), (226, 0, 0, ck_one 0)]), 2000027, .inl 2, true), 0, 0, 245), (124, ([some (.inr (.inr (.inl 226))), some (.inl (ck_one 1)), some (.inl ((-2147483648), 2147483647, [])), some (.inl (0, 5, [(300, 0)])), some (.inl (ck_one 344))], ([], [], [(226, 10, 10, (343, 400, [(7, 0)])), (227, 6, 6, (1, 6, [(24, 0)])), (226, 9, 9, ck_one 0), (226, 8, 8, ck_one 0), (226, 0, 0, ck_one 0)]), 2000028, .inl 2, true), 0, 0, 245), (124, ([some (.inr (.inr (.inl 226))), some (.inl (ck_one 1)), some (.inl ((-2147483648), 2147483647, [])), some (.inl (0, 5, [(300, 0)])), some (.inl (ck_one 342))], ([], [], [(226, 10, 10, (341, 400, [(7, 0)])), (227, 6, 6, (1, 6, [(24, 0)])), (226, 9, 9, ck_one 0), (226, 8, 8, ck_one 0), (226, 0, 0, ck_one 0)]), 2000029, .inl 2, true), 0, 0, 245), (124, ([some (.inr (.inr (.inl 226))), some (.inl (ck_one 1)), some (.inl ((-2147483648), 2147483647, [])), some (.inl (0, 5, [(300, 0)])), some (.inl (ck_one 340))], ([], [], [(226, 10, 10, (339, 400, [(7, 0)])), (227, 6, 6, (1, 6, [(24, 0)])), (226, 9, 9, ck_one 0), (226, 8, 8, ck_one 0), (226, 0, 0, ck_one 0)]), 2000030, .inl 2, true), 0, 0, 245), (124, ([some (.inr (.inr (.inl 226))), some (.inl (ck_one 1)), some (.inl ((-2147483648), 2147483647, [])), some (.inl (0, 5, [(300, 0)])), some (.inl (ck_one 338))], ([], [], [(226, 10, 10, (337, 400, [(7, 0)])), (227, 6, 6, (1, 6, [(24, 0)])), (226, 9, 9, ck_one 0), (226, 8, 8, ck_one 0), (226, 0, 0, ck_one 0)]), 2000031, .inl 2, true), 0, 0, 245), (124, ([some (.inr (.inr (.inl 226))), some (.inl (ck_one 1)), some (.inl ((-2147483648), 2147483647, [])), some (.inl (0, 5, [(300, 0)])), some (.inl (ck_one 336))], ([], [], [(226, 10, 10, (335, 400, [(7, 0)])), (227, 6, 6, (1, 6, [(24, 0)])), (226, 9, 9, ck_one 0), (226, 8, 8, ck_one 0), (226, 0, 0, ck_one 0)]), 2000032, .inl 2, true), 0, 0, 245), (124, ([some (.inr (.inr (.inl 226))), some (.inl (ck_one 1)), some (.inl ((-2147483648), 2147483647, [])), some (.inl (0, 5, [(300, 0)])), some (.inl (ck_one 334))], ([], [], [(226, 10, 10, (333, 400, [(7, 0)])), (227, 6, 6, (1, 6, [(24, 0)])), (226, 9, 9, ck_one 0), (226, 8, 8, ck_one 0), (226, 0, 0, ck_one 0)]), 2000033, .inl 2, true), 0, 0, 245), (124, ([some (.inr (.inr (.inl 226))), some (.inl (ck_one 1)), some (.inl ((-2147483648), 2147483647, [])), some (.inl (0, 5, [(300, 0)])), some (.inl (ck_one 332))], ([], [], [(226, 10, 10, (331, 400, [(7, 0)])), (227, 6, 6, (1, 6, [(24, 0)])), (226, 9, 9, ck_one 0), (226, 8, 8, ck_one 0), (226, 0, 0, ck_one 0)]), 2000034, .inl 2, true), 0, 0, 245), (124, ([some (.inr (.inr (.inl 226))), some (.inl (ck_one 1)), some (.inl ((-2147483648), 2147483647, [])), some (.inl (0, 5, [(300, 0)])), some (.inl (ck_one 330))], ([], [], [(226, 10, 10, (329, 400, [(7, 0)])), (227, 6, 6, (1, 6, [(24, 0)])), (226, 9, 9, ck_one 0), (226, 8, 8, ck_one 0), (226, 0, 0, ck_one 0)]), 2000035, .inl 2, true), 0, 0, 245), (124, ([some (.inr (.inr (.inl 226))), some (.inl (ck_one 1)), some (.inl ((-2147483648), 2147483647, [])), some (.inl (0, 5, [(300, 0)])), some (.inl (ck_one 328))], ([], [], [(226, 10, 10, (327, 400, [(7, 0)])), (227, 6, 6, (1, 6, [(24, 0)])), (226, 9, 9, ck_one 0), (226, 8, 8, ck_one 0), (226, 0, 0, ck_one 0)]), 2000036, .inl 2, true), 0, 0, 245), (124, ([some (.inr (.inr (.inl 226))), some (.inl (ck_one 1)), some (.inl ((-2147483648), 2147483647, [])), some (.inl (0, 5, [(300, 0)])), some (.inl (ck_one 326))], ([], [], [(226, 10, 10, (325, 400, [(7, 0)])), (227, 6, 6, (1, 6, [(24, 0)])), (226, 9, 9, ck_one 0), (226, 8, 8, ck_one 0), (226, 0, 0, ck_one 0)]), 2000037, .inl 2, true), 0, 0, 245), (124, ([some (.inr (.inr (.inl 226))), some (.inl (ck_one 1)), some (.inl ((-2147483648), 2147483647, [])), some (.inl (0, 5, [(300, 0)])), some (.inl (ck_one 324))], ([], [], [(226, 10, 10, (323, 400, [(7, 0)])), (227, 6, 6, (1, 6, [(24, 0)])), (226, 9, 9, ck_one 0), (226, 8, 8, ck_one 0), (226, 0, 0, ck_one 0)]), 2000038, .inl 2, true), 0, 0, 245), (124, ([some (.inr (.inr (.inl 226))), some (.inl (ck_one 1)), some (.inl ((-2147483648), 2147483647, [])), some (.inl (0, 5, [(300, 0)])), some (.inl (ck_one 322))], ([], [], [(226, 10, 10, (321, 400, [(7, 0)])), (227, 6, 6, (1, 6, [(24, 0)])), (226, 9, 9, ck_one 0), (226, 8, 8, ck_one 0), (226, 0, 0, ck_one 0)]), 2000039, .inl 2, true), 0, 0, 245), (124, ([some (.inr (.inr (.inl 226))), some (.inl (ck_one 1)), some (.inl ((-2147483648), 2147483647, [])), some (.inl (0, 5, [(300, 0)])), some (.inl (ck_one 320))], ([], [], [(226, 10, 10, (319, 400, [(7, 0)])), (227, 6, 6, (1, 6, [(24, 0)])), (226, 9, 9, ck_one 0), (226, 8, 8, ck_one 0), (226, 0, 0, ck_one 0)]), 2000040, .inl 2, true), 0, 0, 245), (124, ([some (.inr (.inr (.inl 226))), some (.inl (ck_one 1)), some (.inl ((-2147483648), 2147483647, [])), some (.inl (0, 5, [(300, 0)])), some (.inl (ck_one 318))], ([], [], [(226, 10, 10, (317, 400, [(7, 0)])), (227, 6, 6, (1, 6, [(24, 0)])), (226, 9, 9, ck_one 0), (226, 8, 8, ck_one 0), (226, 0, 0, ck_one 0)]), 2000041, .inl 2, true), 0, 0, 245), (124, ([some (.inr (.inr (.inl 226))), some (.inl (ck_one 1)), some (.inl ((-2147483648), 2147483647, [])), some (.inl (0, 5, [(300, 0)])), some (.inl (ck_one 316))], ([], [], [(226, 10, 10, (315, 400, [(7, 0)])), (227, 6, 6, (1, 6, [(24, 0)])), (226, 9, 9, ck_one 0), (226, 8, 8, ck_one 0), (226, 0, 0, ck_one 0)]), 2000042, .inl 2, true), 0, 0, 245), (124, ([some (.inr (.inr (.inl 226))), some (.inl (ck_one 1)), some (.inl ((-2147483648), 2147483647, [])), some (.inl (0, 5, [(300, 0)])), some (.inl (ck_one 314))], ([], [], [(226, 10, 10, (313, 400, [(7, 0)])), (227, 6, 6, (1, 6, [(24, 0)])), (226, 9, 9, ck_one 0), (226, 8, 8, ck_one 0), (226, 0, 0, ck_one 0)]), 2000043, .inl 2, true), 0, 0, 245), (124, ([some (.inr (.inr (.inl 226))), some (.inl (ck_one 1)), some (.inl ((-2147483648), 2147483647, [])), some (.inl (0, 5, [(300, 0)])), some (.inl (ck_one 312))], ([], [], [(226, 10, 10, (311, 400, [(7, 0)])), (227, 6, 6, (1, 6, [(24, 0)])), (226, 9, 9, ck_one 0), (226, 8, 8, ck_one 0), (226, 0, 0, ck_one 0)]), 2000044, .inl 2, true), 0, 0, 245), (124, ([some (.inr (.inr (.inl 226))), some (.inl (ck_one 1)), some (.inl ((-2147483648), 2147483647, [])), some (.inl (0, 5, [(300, 0)])), some (.inl (ck_one 310))], ([], [], [(226, 10, 10, (309, 400, [(7, 0)])), (227, 6, 6, (1, 6, [(24, 0)])), (226, 9, 9, ck_one 0), (226, 8, 8, ck_one 0), (226, 0, 0, ck_one 0)]), 2000045, .inl 2, true), 0, 0, 245), (124, ([some (.inr (.inr (.inl 226))), some (.inl (ck_one 1)), some (.inl ((-2147483648), 2147483647, [])), some (.inl (0, 5, [(300, 0)])), some (.inl (ck_one 308))], ([], [], [(226, 10, 10, (307, 400, [(7, 0)])), (227, 6, 6, (1, 6, [(24, 0)])), (226, 9, 9, ck_one 0), (226, 8, 8, ck_one 0), (226, 0, 0, ck_one 0)]), 2000046, .inl 2, true), 0, 0, 245), (124, ([some (.inr (.inr (.inl 226))), some (.inl (ck_one 1)), some (.inl ((-2147483648), 2147483647, [])), some (.inl (0, 5, [(300, 0)])), some (.inl (ck_one 306))], ([], [], [(226, 10, 10, (305, 400, [(7, 0)])), (227, 6, 6, (1, 6, [(24, 0)])), (226, 9, 9, ck_one 0), (226, 8, 8, ck_one 0), (226, 0, 0, ck_one 0)]), 2000047, .inl 2, true), 0, 0, 245), (124, ([some (.inr (.inr (.inl 226))), some (.inl (ck_one 1)), some (.inl ((-2147483648), 2147483647, [])), some (.inl (0, 5, [(300, 0)])), some (.inl (ck_one 304))], ([], [], [(226, 10, 10, (303, 400, [(7, 0)])), (227, 6, 6, (1, 6, [(24, 0)])), (226, 9, 9, ck_one 0), (226, 8, 8, ck_one 0), (226, 0, 0, ck_one 0)]), 2000048, .inl 2, true), 0, 0, 245), (124, ([some (.inr (.inr (.inl 226))), some (.inl (ck_one 1)), some (.inl ((-2147483648), 2147483647, [])), some (.inl (0, 5, [(300, 0)])), some (.inl (ck_one 302))], ([], [], [(226, 10, 10, (301, 400, [(7, 0)])), (227, 6, 6, (1, 6, [(24, 0)])), (226, 9, 9, ck_one 0), (226, 8, 8, ck_one 0), (226, 0, 0, ck_one 0)]), 2000049, .inl 2, true), 0, 0, 245), (124, ([some (.inr (.inr (.inl 226))), some (.inl (ck_one 1)), some (.inl ((-2147483648), 2147483647, [])), some (.inl (0, 5, [(300, 0)])), some (.inl (ck_one 300))], ([], [], [(226, 10, 10, (299, 400, [(7, 0)])), (227, 6, 6, (1, 6, [(24, 0)])), (226, 9, 9, ck_one 0), (226, 8, 8, ck_one 0), (226, 0, 0, ck_one 0)]), 2000050, .inl 2, true), 0, 0, 245), (124, ([some (.inr (.inr (.inl 226))), some (.inl (ck_one 1)), some (.inl ((-2147483648), 2147483647, [])), some (.inl (0, 5, [(300, 0)])), some (.inl (ck_one 298))], ([], [], [(226, 10, 10, (297, 400, [(7, 0)])), (227, 6, 6, (1, 6, [(24, 0)])), (226, 9, 9, ck_one 0), (226, 8, 8, ck_one 0), (226, 0, 0, ck_one 0)]), 2000051, .inl 2, true), 0, 0, 245), (124, ([some (.inr (.inr (.inl 226))), some (.inl (ck_one 1)), some (.inl ((-2147483648), 2147483647, [])), some (.inl (0, 5, [(300, 0)])), some (.inl (ck_one 296))], ([], [], [(226, 10, 10, (295, 400, [(7, 0)])), (227, 6, 6, (1, 6, [(24, 0)])), (226, 9, 9, ck_one 0), (226, 8, 8, ck_one 0), (226, 0, 0, ck_one 0)]), 2000052, .inl 2, true), 0, 0, 245), (124, ([some (.inr (.inr (.inl 226))), some (.inl (ck_one 1)), some (.inl ((-2147483648), 2147483647, [])), some (.inl (0, 5, [(300, 0)])), some (.inl (ck_one 294))], ([], [], [(226, 10, 10, (293, 400, [(7, 0)])), (227, 6, 6, (1, 6, [(24, 0)])), (226, 9, 9, ck_one 0), (226, 8, 8, ck_one 0), (226, 0, 0, ck_one 0)]), 2000053, .inl 2, true), 0, 0, 245), (124, ([some (.inr (.inr (.inl 226))), some (.inl (ck_one 1)), some (.inl ((-2147483648), 2147483647, [])), some (.inl (0, 5, [(300, 0)])), some (.inl (ck_one 292))], ([], [], [(226, 10, 10, (291, 400, [(7, 0)])), (227, 6, 6, (1, 6, [(24, 0)])), (226, 9, 9, ck_one 0), (226, 8, 8, ck_one 0), (226, 0, 0, ck_one 0)]), 2000054, .inl 2, true), 0, 0, 245), (124, ([some (.inr (.inr (.inl 226))), some (.inl (ck_one 1)), some (.inl ((-2147483648), 2147483647, [])), some (.inl (0, 5, [(300, 0)])), some (.inl (ck_one 290))], ([], [], [(226, 10, 10, (289, 400, [(7, 0)])), (227, 6, 6, (1, 6, [(24, 0)])), (226, 9, 9, ck_one 0), (226, 8, 8, ck_one 0), (226, 0, 0, ck_one 0)]), 2000055, .inl 2, true), 0, 0, 245), (124, ([some (.inr (.inr (.inl 226))), some (.inl (ck_one 1)), some (.inl ((-2147483648), 2147483647, [])), some (.inl (0, 5, [(300, 0)])), some (.inl (ck_one 288))], ([], [], [(226, 10, 10, (287, 400, [(7, 0)])), (227, 6, 6, (1, 6, [(24, 0)])), (226, 9, 9, ck_one 0), (226, 8, 8, ck_one 0), (226, 0, 0, ck_one 0)]), 2000056, .inl 2, true), 0, 0, 245), (124, ([some (.inr (.inr (.inl 226))), some (.inl (ck_one 1)), some (.inl ((-2147483648), 2147483647, [])), some (.inl (0, 5, [(300, 0)])), some (.inl (ck_one 286))], ([], [], [(226, 10, 10, (285, 400, [(7, 0)])), (227, 6, 6, (1, 6, [(24, 0)])), (226, 9, 9, ck_one 0), (226, 8, 8, ck_one 0), (226, 0, 0, ck_one 0)]), 2000057, .inl 2, true), 0, 0, 245), (124, ([some (.inr (.inr (.inl 226))), some (.inl (ck_one 1)), some (.inl ((-2147483648), 2147483647, [])), some (.inl (0, 5, [(300, 0)])), some (.inl (ck_one 284))], ([], [], [(226, 10, 10, (283, 400, [(7, 0)])), (227, 6, 6, (1, 6, [(24, 0)])), (226, 9, 9, ck_one 0), (226, 8, 8, ck_one 0), (226, 0, 0, ck_one 0)]), 2000058, .inl 2, true), 0, 0, 245), (124, ([some (.inr (.inr (.inl 226))), some (.inl (ck_one 1)), some (.inl ((-2147483648), 2147483647, [])), some (.inl (0, 5, [(300, 0)])), some (.inl (ck_one 282))], ([], [], [(226, 10, 10, (281, 400, [(7, 0)])), (227, 6, 6, (1, 6, [(24, 0)])), (226, 9, 9, ck_one 0), (226, 8, 8, ck_one 0), (226, 0, 0, ck_one 0)]), 2000059, .inl 2, true), 0, 0, 245), (124, ([some (.inr (.inr (.inl 226))), some (.inl (ck_one 1)), some (.inl ((-2147483648), 2147483647, [])), some (.inl (0, 5, [(300, 0)])), some (.inl (ck_one 280))], ([], [], [(226, 10, 10, (279, 400, [(7, 0)])), (227, 6, 6, (1, 6, [(24, 0)])), (226, 9, 9, ck_one 0), (226, 8, 8, ck_one 0), (226, 0, 0, ck_one 0)]), 2000060, .inl 2, true), 0, 0, 245), (124, ([some (.inr (.inr (.inl 226))), some (.inl (ck_one 1)), some (.inl ((-2147483648), 2147483647, [])), some (.inl (0, 5, [(300, 0)])), some (.inl (ck_one 278))], ([], [], [(226, 10, 10, (277, 400, [(7, 0)])), (227, 6, 6, (1, 6, [(24, 0)])), (226, 9, 9, ck_one 0), (226, 8, 8, ck_one 0), (226, 0, 0, ck_one 0)]), 2000061, .inl 2, true), 0, 0, 245), (124, ([some (.inr (.inr (.inl 226))), some (.inl (ck_one 1)), some (.inl ((-2147483648), 2147483647, [])), some (.inl (0, 5, [(300, 0)])), some (.inl (ck_one 276))], ([], [], [(226, 10, 10, (275, 400, [(7, 0)])), (227, 6, 6, (1, 6, [(24, 0)])), (226, 9, 9, ck_one 0), (226, 8, 8, ck_one 0), (226, 0, 0, ck_one 0)]), 2000062, .inl 2, true), 0, 0, 245), (124, ([some (.inr (.inr (.inl 226))), some (.inl (ck_one 1)), some (.inl ((-2147483648), 2147483647, [])), some (.inl (0, 5, [(300, 0)])), some (.inl (ck_one 274))], ([], [], [(226, 10, 10, (273, 400, [(7, 0)])), (227, 6, 6, (1, 6, [(24, 0)])), (226, 9, 9, ck_one 0), (226, 8, 8, ck_one 0), (226, 0, 0, ck_one 0)]), 2000063, .inl 2, true), 0, 0, 245), (124, ([some (.inr (.inr (.inl 226))), some (.inl (ck_one 1)), some (.inl ((-2147483648), 2147483647, [])), some (.inl (0, 5, [(300, 0)])), some (.inl (ck_one 272))], ([], [], [(226, 10, 10, (271, 400, [(7, 0)])), (227, 6, 6, (1, 6, [(24, 0)])), (226, 9, 9, ck_one 0), (226, 8, 8, ck_one 0), (226, 0, 0, ck_one 0)]), 2000064, .inl 2, true), 0, 0, 245), (124, ([some (.inr (.inr (.inl 226))), some (.inl (ck_one 1)), some (.inl ((-2147483648), 2147483647, [])), some (.inl (0, 5, [(300, 0)])), some (.inl (ck_one 270))], ([], [], [(226, 10, 10, (269, 400, [(7, 0)])), (227, 6, 6, (1, 6, [(24, 0)])), (226, 9, 9, ck_one 0), (226, 8, 8, ck_one 0), (226, 0, 0, ck_one 0)]), 2000065, .inl 2, true), 0, 0, 245), (124, ([some (.inr (.inr (.inl 226))), some (.inl (ck_one 1)), some (.inl ((-2147483648), 2147483647, [])), some (.inl (0, 5, [(300, 0)])), some (.inl (ck_one 268))], ([], [], [(226, 10, 10, (267, 400, [(7, 0)])), (227, 6, 6, (1, 6, [(24, 0)])), (226, 9, 9, ck_one 0), (226, 8, 8, ck_one 0), (226, 0, 0, ck_one 0)]), 2000066, .inl 2, true), 0, 0, 245), (124, ([some (.inr (.inr (.inl 226))), some (.inl (ck_one 1)), some (.inl ((-2147483648), 2147483647, [])), some (.inl (0, 5, [(300, 0)])), some (.inl (ck_one 266))], ([], [], [(226, 10, 10, (265, 400, [(7, 0)])), (227, 6, 6, (1, 6, [(24, 0)])), (226, 9, 9, ck_one 0), (226, 8, 8, ck_one 0), (226, 0, 0, ck_one 0)]), 2000067, .inl 2, true), 0, 0, 245), (124, ([some (.inr (.inr (.inl 226))), some (.inl (ck_one 1)), some (.inl ((-2147483648), 2147483647, [])), some (.inl (0, 5, [(300, 0)])), some (.inl (ck_one 264))], ([], [], [(226, 10, 10, (263, 400, [(7, 0)])), (227, 6, 6, (1, 6, [(24, 0)])), (226, 9, 9, ck_one 0), (226, 8, 8, ck_one 0), (226, 0, 0, ck_one 0)]), 2000068, .inl 2, true), 0, 0, 245), (124, ([some (.inr (.inr (.inl 226))), some (.inl (ck_one 1)), some (.inl ((-2147483648), 2147483647, [])), some (.inl (0, 5, [(300, 0)])), some (.inl (ck_one 262))], ([], [], [(226, 10, 10, (261, 400, [(7, 0)])), (227, 6, 6, (1, 6, [(24, 0)])), (226, 9, 9, ck_one 0), (226, 8, 8, ck_one 0), (226, 0, 0, ck_one 0)]), 2000069, .inl 2, true), 0, 0, 245), (124, ([some (.inr (.inr (.inl 226))), some (.inl (ck_one 1)), some (.inl ((-2147483648), 2147483647, [])), some (.inl (0, 5, [(300, 0)])), some (.inl (ck_one 260))], ([], [], [(226, 10, 10, (259, 400, [(7, 0)])), (227, 6, 6, (1, 6, [(24, 0)])), (226, 9, 9, ck_one 0), (226, 8, 8, ck_one 0), (226, 0, 0, ck_one 0)]), 2000070, .inl 2, true), 0, 0, 245), (124, ([some (.inr (.inr (.inl 226))), some (.inl (ck_one 1)), some (.inl ((-2147483648), 2147483647, [])), some (.inl (0, 5, [(300, 0)])), some (.inl (ck_one 258))], ([], [], [(226, 10, 10, (257, 400, [(7, 0)])), (227, 6, 6, (1, 6, [(24, 0)])), (226, 9, 9, ck_one 0), (226, 8, 8, ck_one 0), (226, 0, 0, ck_one 0)]), 2000071, .inl 2, true), 0, 0, 245), (124, ([some (.inr (.inr (.inl 226))), some (.inl (ck_one 1)), some (.inl ((-2147483648), 2147483647, [])), some (.inl (0, 5, [(300, 0)])), some (.inl (ck_one 256))], ([], [], [(226, 10, 10, (255, 400, [(7, 0)])), (227, 6, 6, (1, 6, [(24, 0)])), (226, 9, 9, ck_one 0), (226, 8, 8, ck_one 0), (226, 0, 0, ck_one 0)]), 2000072, .inl 2, true), 0, 0, 245), (124, ([some (.inr (.inr (.inl 226))), some (.inl (ck_one 1)), some (.inl ((-2147483648), 2147483647, [])), some (.inl (0, 5, [(300, 0)])), some (.inl (ck_one 254))], ([], [], [(226, 10, 10, (253, 400, [(7, 0)])), (227, 6, 6, (1, 6, [(24, 0)])), (226, 9, 9, ck_one 0), (226, 8, 8, ck_one 0), (226, 0, 0, ck_one 0)]), 2000073, .inl 2, true), 0, 0, 245), (124, ([some (.inr (.inr (.inl 226))), some (.inl (ck_one 1)), some (.inl ((-2147483648), 2147483647, [])), some (.inl (0, 5, [(300, 0)])), some (.inl (ck_one 252))], ([], [], [(226, 10, 10, (251, 400, [(7, 0)])), (227, 6, 6, (1, 6, [(24, 0)])), (226, 9, 9, ck_one 0), (226, 8, 8, ck_one 0), (226, 0, 0, ck_one 0)]), 2000074, .inl 2, true), 0, 0, 245), (124, ([some (.inr (.inr (.inl 226))), some (.inl (ck_one 1)), some (.inl ((-2147483648), 2147483647, [])), some (.inl (0, 5, [(300, 0)])), some (.inl (ck_one 250))], ([], [], [(226, 10, 10, (249, 400, [(7, 0)])), (227, 6, 6, (1, 6, [(24, 0)])), (226, 9, 9, ck_one 0), (226, 8, 8, ck_one 0), (226, 0, 0, ck_one 0)]), 2000075, .inl 2, true), 0, 0, 245), (124, ([some (.inr (.inr (.inl 226))), some (.inl (ck_one 1)), some (.inl ((-2147483648), 2147483647, [])), some (.inl (0, 5, [(300, 0)])), some (.inl (ck_one 248))], ([], [], [(226, 10, 10, (247, 400, [(7, 0)])), (227, 6, 6, (1, 6, [(24, 0)])), (226, 9, 9, ck_one 0), (226, 8, 8, ck_one 0), (226, 0, 0, ck_one 0)]), 2000076, .inl 2, true), 0, 0, 245), (124, ([some (.inr (.inr (.inl 226))), some (.inl (ck_one 1)), some (.inl ((-2147483648), 2147483647, [])), some (.inl (0, 5, [(300, 0)])), some (.inl (ck_one 246))], ([], [], [(226, 10, 10, (245, 400, [(7, 0)])), (227, 6, 6, (1, 6, [(24, 0)])), (226, 9, 9, ck_one 0), (226, 8, 8, ck_one 0), (226, 0, 0, ck_one 0)]), 2000077, .inl 2, true), 0, 0, 245), (124, ([some (.inr (.inr (.inl 226))), some (.inl (ck_one 1)), some (.inl ((-2147483648), 2147483647, [])), some (.inl (0, 5, [(300, 0)])), some (.inl (ck_one 244))], ([], [], [(226, 10, 10, (243, 400, [(7, 0)])), (227, 6, 6, (1, 6, [(24, 0)])), (226, 9, 9, ck_one 0), (226, 8, 8, ck_one 0), (226, 0, 0, ck_one 0)]), 2000078, .inl 2, true), 0, 0, 245), (124, ([some (.inr (.inr (.inl 226))), some (.inl (ck_one 1)), some (.inl ((-2147483648), 2147483647, [])), some (.inl (0, 5, [(300, 0)])), some (.inl (ck_one 242))], ([], [], [(226, 10, 10, (241, 400, [(7, 0)])), (227, 6, 6, (1, 6, [(24, 0)])), (226, 9, 9, ck_one 0), (226, 8, 8, ck_one 0), (226, 0, 0, ck_one 0)]), 2000079, .inl 2, true), 0, 0, 245), (124, ([some (.inr (.inr (.inl 226))), some (.inl (ck_one 1)), some (.inl ((-2147483648), 2147483647, [])), some (.inl (0, 5, [(300, 0)])), some (.inl (ck_one 240))], ([], [], [(226, 10, 10, (239, 400, [(7, 0)])), (227, 6, 6, (1, 6, [(24, 0)])), (226, 9, 9, ck_one 0), (226, 8, 8, ck_one 0), (226, 0, 0, ck_one 0)]), 2000080, .inl 2, true), 0, 0, 245), (124, ([some (.inr (.inr (.inl 226))), some (.inl (ck_one 1)), some (.inl ((-2147483648), 2147483647, [])), some (.inl (0, 5, [(300, 0)])), some (.inl (ck_one 238))], ([], [], [(226, 10, 10, (237, 400, [(7, 0)])), (227, 6, 6, (1, 6, [(24, 0)])), (226, 9, 9, ck_one 0), (226, 8, 8, ck_one 0), (226, 0, 0, ck_one 0)]), 2000081, .inl 2, true), 0, 0, 245), (124, ([some (.inr (.inr (.inl 226))), some (.inl (ck_one 1)), some (.inl ((-2147483648), 2147483647, [])), some (.inl (0, 5, [(300, 0)])), some (.inl (ck_one 236))], ([], [], [(226, 10, 10, (235, 400, [(7, 0)])), (227, 6, 6, (1, 6, [(24, 0)])), (226, 9, 9, ck_one 0), (226, 8, 8, ck_one 0), (226, 0, 0, ck_one 0)]), 2000082, .inl 2, true), 0, 0, 245), (124, ([some (.inr (.inr (.inl 226))), some (.inl (ck_one 1)), some (.inl ((-2147483648), 2147483647, [])), some (.inl (0, 5, [(300, 0)])), some (.inl (ck_one 234))], ([], [], [(226, 10, 10, (233, 400, [(7, 0)])), (227, 6, 6, (1, 6, [(24, 0)])), (226, 9, 9, ck_one 0), (226, 8, 8, ck_one 0), (226, 0, 0, ck_one 0)]), 2000083, .inl 2, true), 0, 0, 245), (124, ([some (.inr (.inr (.inl 226))), some (.inl (ck_one 1)), some (.inl ((-2147483648), 2147483647, [])), some (.inl (0, 5, [(300, 0)])), some (.inl (ck_one 232))], ([], [], [(226, 10, 10, (231, 400, [(7, 0)])), (227, 6, 6, (1, 6, [(24, 0)])), (226, 9, 9, ck_one 0), (226, 8, 8, ck_one 0), (226, 0, 0, ck_one 0)]), 2000084, .inl 2, true), 0, 0, 245), (124, ([some (.inr (.inr (.inl 226))), some (.inl (ck_one 1)), some (.inl ((-2147483648), 2147483647, [])), some (.inl (0, 5, [(300, 0)])), some (.inl (ck_one 230))], ([], [], [(226, 10, 10, (229, 400, [(7, 0)])), (227, 6, 6, (1, 6, [(24, 0)])), (226, 9, 9, ck_one 0), (226, 8, 8, ck_one 0), (226, 0, 0, ck_one 0)]), 2000085, .inl 2, true), 0, 0, 245), (124, ([some (.inr (.inr (.inl 226))), some (.inl (ck_one 1)), some (.inl ((-2147483648), 2147483647, [])), some (.inl (0, 5, [(300, 0)])), some (.inl (ck_one 228))], ([], [], [(226, 10, 10, (227, 400, [(7, 0)])), (227, 6, 6, (1, 6, [(24, 0)])), (226, 9, 9, ck_one 0), (226, 8, 8, ck_one 0), (226, 0, 0, ck_one 0)]), 2000086, .inl 2, true), 0, 0, 245), (124, ([some (.inr (.inr (.inl 226))), some (.inl (ck_one 1)), some (.inl ((-2147483648), 2147483647, [])), some (.inl (0, 5, [(300, 0)])), some (.inl (ck_one 226))], ([], [], [(226, 10, 10, (225, 400, [(7, 0)])), (227, 6, 6, (1, 6, [(24, 0)])), (226, 9, 9, ck_one 0), (226, 8, 8, ck_one 0), (226, 0, 0, ck_one 0)]), 2000087, .inl 2, true), 0, 0, 245), (124, ([some (.inr (.inr (.inl 226))), some (.inl (ck_one 1)), some (.inl ((-2147483648), 2147483647, [])), some (.inl (0, 5, [(300, 0)])), some (.inl (ck_one 224))], ([], [], [(226, 10, 10, (223, 400, [(7, 0)])), (227, 6, 6, (1, 6, [(24, 0)])), (226, 9, 9, ck_one 0), (226, 8, 8, ck_one 0), (226, 0, 0, ck_one 0)]), 2000088, .inl 2, true), 0, 0, 245), (124, ([some (.inr (.inr (.inl 226))), some (.inl (ck_one 1)), some (.inl ((-2147483648), 2147483647, [])), some (.inl (0, 5, [(300, 0)])), some (.inl (ck_one 222))], ([], [], [(226, 10, 10, (221, 400, [(7, 0)])), (227, 6, 6, (1, 6, [(24, 0)])), (226, 9, 9, ck_one 0), (226, 8, 8, ck_one 0), (226, 0, 0, ck_one 0)]), 2000089, .inl 2, true), 0, 0, 245), (124, ([some (.inr (.inr (.inl 226))), some (.inl (ck_one 1)), some (.inl ((-2147483648), 2147483647, [])), some (.inl (0, 5, [(300, 0)])), some (.inl (ck_one 220))], ([], [], [(226, 10, 10, (219, 400, [(7, 0)])), (227, 6, 6, (1, 6, [(24, 0)])), (226, 9, 9, ck_one 0), (226, 8, 8, ck_one 0), (226, 0, 0, ck_one 0)]), 2000090, .inl 2, true), 0, 0, 245), (124, ([some (.inr (.inr (.inl 226))), some (.inl (ck_one 1)), some (.inl ((-2147483648), 2147483647, [])), some (.inl (0, 5, [(300, 0)])), some (.inl (ck_one 218))], ([], [], [(226, 10, 10, (217, 400, [(7, 0)])), (227, 6, 6, (1, 6, [(24, 0)])), (226, 9, 9, ck_one 0), (226, 8, 8, ck_one 0), (226, 0, 0, ck_one 0)]), 2000091, .inl 2, true), 0, 0, 245), (124, ([some (.inr (.inr (.inl 226))), some (.inl (ck_one 1)), some (.inl ((-2147483648), 2147483647, [])), some (.inl (0, 5, [(300, 0)])), some (.inl (ck_one 216))], ([], [], [(226, 10, 10, (215, 400, [(7, 0)])), (227, 6, 6, (1, 6, [(24, 0)])), (226, 9, 9, ck_one 0), (226, 8, 8, ck_one 0), (226, 0, 0, ck_one 0)]), 2000092, .inl 2, true), 0, 0, 245), (124, ([some (.inr (.inr (.inl 226))), some (.inl (ck_one 1)), some (.inl ((-2147483648), 2147483647, [])), some (.inl (0, 5, [(300, 0)])), some (.inl (ck_one 214))], ([], [], [(226, 10, 10, (213, 400, [(7, 0)])), (227, 6, 6, (1, 6, [(24, 0)])), (226, 9, 9, ck_one 0), (226, 8, 8, ck_one 0), (226, 0, 0, ck_one 0)]), 2000093, .inl 2, true), 0, 0, 245), (124, ([some (.inr (.inr (.inl 226))), some (.inl (ck_one 1)), some (.inl ((-2147483648), 2147483647, [])), some (.inl (0, 5, [(300, 0)])), some (.inl (ck_one 212))], ([], [], [(226, 10, 10, (211, 400, [(7, 0)])), (227, 6, 6, (1, 6, [(24, 0)])), (226, 9, 9, ck_one 0), (226, 8, 8, ck_one 0), (226, 0, 0, ck_one 0)]), 2000094, .inl 2, true), 0, 0, 245), (124, ([some (.inr (.inr (.inl 226))), some (.inl (ck_one 1)), some (.inl ((-2147483648), 2147483647, [])), some (.inl (0, 5, [(300, 0)])), some (.inl (ck_one 210))], ([], [], [(226, 10, 10, (209, 400, [(7, 0)])), (227, 6, 6, (1, 6, [(24, 0)])), (226, 9, 9, ck_one 0), (226, 8, 8, ck_one 0), (226, 0, 0, ck_one 0)]), 2000095, .inl 2, true), 0, 0, 245), (124, ([some (.inr (.inr (.inl 226))), some (.inl (ck_one 1)), some (.inl ((-2147483648), 2147483647, [])), some (.inl (0, 5, [(300, 0)])), some (.inl (ck_one 208))], ([], [], [(226, 10, 10, (207, 400, [(7, 0)])), (227, 6, 6, (1, 6, [(24, 0)])), (226, 9, 9, ck_one 0), (226, 8, 8, ck_one 0), (226, 0, 0, ck_one 0)]), 2000096, .inl 2, true), 0, 0, 245), (124, ([some (.inr (.inr (.inl 226))), some (.inl (ck_one 1)), some (.inl ((-2147483648), 2147483647, [])), some (.inl (0, 5, [(300, 0)])), some (.inl (ck_one 206))], ([], [], [(226, 10, 10, (205, 400, [(7, 0)])), (227, 6, 6, (1, 6, [(24, 0)])), (226, 9, 9, ck_one 0), (226, 8, 8, ck_one 0), (226, 0, 0, ck_one 0)]), 2000097, .inl 2, true), 0, 0, 245), (124, ([some (.inr (.inr (.inl 226))), some (.inl (ck_one 1)), some (.inl ((-2147483648), 2147483647, [])), some (.inl (0, 5, [(300, 0)])), some (.inl (ck_one 204))], ([], [], [(226, 10, 10, (203, 400, [(7, 0)])), (227, 6, 6, (1, 6, [(24, 0)])), (226, 9, 9, ck_one 0), (226, 8, 8, ck_one 0), (226, 0, 0, ck_one 0)]), 2000098, .inl 2, true), 0, 0, 245), (124, ([some (.inr (.inr (.inl 226))), some (.inl (ck_one 1)), some (.inl ((-2147483648), 2147483647, [])), some (.inl (0, 5, [(300, 0)])), some (.inl (ck_one 202))], ([], [], [(226, 10, 10, (201, 400, [(7, 0)])), (227, 6, 6, (1, 6, [(24, 0)])), (226, 9, 9, ck_one 0), (226, 8, 8, ck_one 0), (226, 0, 0, ck_one 0)]), 2000099, .inl 2, true), 0, 0, 245), (124, ([some (.inr (.inr (.inl 226))), some (.inl (ck_one 1)), some (.inl ((-2147483648), 2147483647, [])), some (.inl (0, 5, [(300, 0)])), some (.inl (ck_one 200))], ([], [], [(226, 10, 10, (199, 400, [(7, 0)])), (227, 6, 6, (1, 6, [(24, 0)])), (226, 9, 9, ck_one 0), (226, 8, 8, ck_one 0), (226, 0, 0, ck_one 0)]), 2000100, .inl 2, true), 0, 0, 245), (124, ([some (.inr (.inr (.inl 226))), some (.inl (ck_one 1)), some (.inl ((-2147483648), 2147483647, [])), some (.inl (0, 5, [(300, 0)])), some (.inl (ck_one 198))], ([], [], [(226, 10, 10, (197, 400, [(7, 0)])), (227, 6, 6, (1, 6, [(24, 0)])), (226, 9, 9, ck_one 0), (226, 8, 8, ck_one 0), (226, 0, 0, ck_one 0)]), 2000101, .inl 2, true), 0, 0, 245), (124, ([some (.inr (.inr (.inl 226))), some (.inl (ck_one 1)), some (.inl ((-2147483648), 2147483647, [])), some (.inl (0, 5, [(300, 0)])), some (.inl (ck_one 196))], ([], [], [(226, 10, 10, (195, 400, [(7, 0)])), (227, 6, 6, (1, 6, [(24, 0)])), (226, 9, 9, ck_one 0), (226, 8, 8, ck_one 0), (226, 0, 0, ck_one 0)]), 2000102, .inl 2, true), 0, 0, 245), (124, ([some (.inr (.inr (.inl 226))), some (.inl (ck_one 1)), some (.inl ((-2147483648), 2147483647, [])), some (.inl (0, 5, [(300, 0)])), some (.inl (ck_one 194))], ([], [], [(226, 10, 10, (193, 400, [(7, 0)])), (227, 6, 6, (1, 6, [(24, 0)])), (226, 9, 9, ck_one 0), (226, 8, 8, ck_one 0), (226, 0, 0, ck_one 0)]), 2000103, .inl 2, true), 0, 0, 245), (124, ([some (.inr (.inr (.inl 226))), some (.inl (ck_one 1)), some (.inl ((-2147483648), 2147483647, [])), some (.inl (0, 5, [(300, 0)])), some (.inl (ck_one 192))], ([], [], [(226, 10, 10, (191, 400, [(7, 0)])), (227, 6, 6, (1, 6, [(24, 0)])), (226, 9, 9, ck_one 0), (226, 8, 8, ck_one 0), (226, 0, 0, ck_one 0)]), 2000104, .inl 2, true), 0, 0, 245), (124, ([some (.inr (.inr (.inl 226))), some (.inl (ck_one 1)), some (.inl ((-2147483648), 2147483647, [])), some (.inl (0, 5, [(300, 0)])), some (.inl (ck_one 190))], ([], [], [(226, 10, 10, (189, 400, [(7, 0)])), (227, 6, 6, (1, 6, [(24, 0)])), (226, 9, 9, ck_one 0), (226, 8, 8, ck_one 0), (226, 0, 0, ck_one 0)]), 2000105, .inl 2, true), 0, 0, 245), (124, ([some (.inr (.inr (.inl 226))), some (.inl (ck_one 1)), some (.inl ((-2147483648), 2147483647, [])), some (.inl (0, 5, [(300, 0)])), some (.inl (ck_one 188))], ([], [], [(226, 10, 10, (187, 400, [(7, 0)])), (227, 6, 6, (1, 6, [(24, 0)])), (226, 9, 9, ck_one 0), (226, 8, 8, ck_one 0), (226, 0, 0, ck_one 0)]), 2000106, .inl 2, true), 0, 0, 245), (124, ([some (.inr (.inr (.inl 226))), some (.inl (ck_one 1)), some (.inl ((-2147483648), 2147483647, [])), some (.inl (0, 5, [(300, 0)])), some (.inl (ck_one 186))], ([], [], [(226, 10, 10, (185, 400, [(7, 0)])), (227, 6, 6, (1, 6, [(24, 0)])), (226, 9, 9, ck_one 0), (226, 8, 8, ck_one 0), (226, 0, 0, ck_one 0)]), 2000107, .inl 2, true), 0, 0, 245), (124, ([some (.inr (.inr (.inl 226))), some (.inl (ck_one 1)), some (.inl ((-2147483648), 2147483647, [])), some (.inl (0, 5, [(300, 0)])), some (.inl (ck_one 184))], ([], [], [(226, 10, 10, (183, 400, [(7, 0)])), (227, 6, 6, (1, 6, [(24, 0)])), (226, 9, 9, ck_one 0), (226, 8, 8, ck_one 0), (226, 0, 0, ck_one 0)]), 2000108, .inl 2, true), 0, 0, 245), (124, ([some (.inr (.inr (.inl 226))), some (.inl (ck_one 1)), some (.inl ((-2147483648), 2147483647, [])), some (.inl (0, 5, [(300, 0)])), some (.inl (ck_one 182))], ([], [], [(226, 10, 10, (181, 400, [(7, 0)])), (227, 6, 6, (1, 6, [(24, 0)])), (226, 9, 9, ck_one 0), (226, 8, 8, ck_one 0), (226, 0, 0, ck_one 0)]), 2000109, .inl 2, true), 0, 0, 245), (124, ([some (.inr (.inr (.inl 226))), some (.inl (ck_one 1)), some (.inl ((-2147483648), 2147483647, [])), some (.inl (0, 5, [(300, 0)])), some (.inl (ck_one 180))], ([], [], [(226, 10, 10, (179, 400, [(7, 0)])), (227, 6, 6, (1, 6, [(24, 0)])), (226, 9, 9, ck_one 0), (226, 8, 8, ck_one 0), (226, 0, 0, ck_one 0)]), 2000110, .inl 2, true), 0, 0, 245), (124, ([some (.inr (.inr (.inl 226))), some (.inl (ck_one 1)), some (.inl ((-2147483648), 2147483647, [])), some (.inl (0, 5, [(300, 0)])), some (.inl (ck_one 178))], ([], [], [(226, 10, 10, (177, 400, [(7, 0)])), (227, 6, 6, (1, 6, [(24, 0)])), (226, 9, 9, ck_one 0), (226, 8, 8, ck_one 0), (226, 0, 0, ck_one 0)]), 2000111, .inl 2, true), 0, 0, 245), (124, ([some (.inr (.inr (.inl 226))), some (.inl (ck_one 1)), some (.inl ((-2147483648), 2147483647, [])), some (.inl (0, 5, [(300, 0)])), some (.inl (ck_one 176))], ([], [], [(226, 10, 10, (175, 400, [(7, 0)])), (227, 6, 6, (1, 6, [(24, 0)])), (226, 9, 9, ck_one 0), (226, 8, 8, ck_one 0), (226, 0, 0, ck_one 0)]), 2000112, .inl 2, true), 0, 0, 245), (124, ([some (.inr (.inr (.inl 226))), some (.inl (ck_one 1)), some (.inl ((-2147483648), 2147483647, [])), some (.inl (0, 5, [(300, 0)])), some (.inl (ck_one 174))], ([], [], [(226, 10, 10, (173, 400, [(7, 0)])), (227, 6, 6, (1, 6, [(24, 0)])), (226, 9, 9, ck_one 0), (226, 8, 8, ck_one 0), (226, 0, 0, ck_one 0)]), 2000113, .inl 2, true), 0, 0, 245), (124, ([some (.inr (.inr (.inl 226))), some (.inl (ck_one 1)), some (.inl ((-2147483648), 2147483647, [])), some (.inl (0, 5, [(300, 0)])), some (.inl (ck_one 172))], ([], [], [(226, 10, 10, (171, 400, [(7, 0)])), (227, 6, 6, (1, 6, [(24, 0)])), (226, 9, 9, ck_one 0), (226, 8, 8, ck_one 0), (226, 0, 0, ck_one 0)]), 2000114, .inl 2, true), 0, 0, 245), (124, ([some (.inr (.inr (.inl 226))), some (.inl (ck_one 1)), some (.inl ((-2147483648), 2147483647, [])), some (.inl (0, 5, [(300, 0)])), some (.inl (ck_one 170))], ([], [], [(226, 10, 10, (169, 400, [(7, 0)])), (227, 6, 6, (1, 6, [(24, 0)])), (226, 9, 9, ck_one 0), (226, 8, 8, ck_one 0), (226, 0, 0, ck_one 0)]), 2000115, .inl 2, true), 0, 0, 245), (124, ([some (.inr (.inr (.inl 226))), some (.inl (ck_one 1)), some (.inl ((-2147483648), 2147483647, [])), some (.inl (0, 5, [(300, 0)])), some (.inl (ck_one 168))], ([], [], [(226, 10, 10, (167, 400, [(7, 0)])), (227, 6, 6, (1, 6, [(24, 0)])), (226, 9, 9, ck_one 0), (226, 8, 8, ck_one 0), (226, 0, 0, ck_one 0)]), 2000116, .inl 2, true), 0, 0, 245), (124, ([some (.inr (.inr (.inl 226))), some (.inl (ck_one 1)), some (.inl ((-2147483648), 2147483647, [])), some (.inl (0, 5, [(300, 0)])), some (.inl (ck_one 166))], ([], [], [(226, 10, 10, (165, 400, [(7, 0)])), (227, 6, 6, (1, 6, [(24, 0)])), (226, 9, 9, ck_one 0), (226, 8, 8, ck_one 0), (226, 0, 0, ck_one 0)]), 2000117, .inl 2, true), 0, 0, 245), (124, ([some (.inr (.inr (.inl 226))), some (.inl (ck_one 1)), some (.inl ((-2147483648), 2147483647, [])), some (.inl (0, 5, [(300, 0)])), some (.inl (ck_one 164))], ([], [], [(226, 10, 10, (163, 400, [(7, 0)])), (227, 6, 6, (1, 6, [(24, 0)])), (226, 9, 9, ck_one 0), (226, 8, 8, ck_one 0), (226, 0, 0, ck_one 0)]), 2000118, .inl 2, true), 0, 0, 245), (124, ([some (.inr (.inr (.inl 226))), some (.inl (ck_one 1)), some (.inl ((-2147483648), 2147483647, [])), some (.inl (0, 5, [(300, 0)])), some (.inl (ck_one 162))], ([], [], [(226, 10, 10, (161, 400, [(7, 0)])), (227, 6, 6, (1, 6, [(24, 0)])), (226, 9, 9, ck_one 0), (226, 8, 8, ck_one 0), (226, 0, 0, ck_one 0)]), 2000119, .inl 2, true), 0, 0, 245), (124, ([some (.inr (.inr (.inl 226))), some (.inl (ck_one 1)), some (.inl ((-2147483648), 2147483647, [])), some (.inl (0, 5, [(300, 0)])), some (.inl (ck_one 160))], ([], [], [(226, 10, 10, (159, 400, [(7, 0)])), (227, 6, 6, (1, 6, [(24, 0)])), (226, 9, 9, ck_one 0), (226, 8, 8, ck_one 0), (226, 0, 0, ck_one 0)]), 2000120, .inl 2, true), 0, 0, 245), (124, ([some (.inr (.inr (.inl 226))), some (.inl (ck_one 1)), some (.inl ((-2147483648), 2147483647, [])), some (.inl (0, 5, [(300, 0)])), some (.inl (ck_one 158))], ([], [], [(226, 10, 10, (157, 400, [(7, 0)])), (227, 6, 6, (1, 6, [(24, 0)])), (226, 9, 9, ck_one 0), (226, 8, 8, ck_one 0), (226, 0, 0, ck_one 0)]), 2000121, .inl 2, true), 0, 0, 245), (124, ([some (.inr (.inr (.inl 226))), some (.inl (ck_one 1)), some (.inl ((-2147483648), 2147483647, [])), some (.inl (0, 5, [(300, 0)])), some (.inl (ck_one 156))], ([], [], [(226, 10, 10, (155, 400, [(7, 0)])), (227, 6, 6, (1, 6, [(24, 0)])), (226, 9, 9, ck_one 0), (226, 8, 8, ck_one 0), (226, 0, 0, ck_one 0)]), 2000122, .inl 2, true), 0, 0, 245), (124, ([some (.inr (.inr (.inl 226))), some (.inl (ck_one 1)), some (.inl ((-2147483648), 2147483647, [])), some (.inl (0, 5, [(300, 0)])), some (.inl (ck_one 154))], ([], [], [(226, 10, 10, (153, 400, [(7, 0)])), (227, 6, 6, (1, 6, [(24, 0)])), (226, 9, 9, ck_one 0), (226, 8, 8, ck_one 0), (226, 0, 0, ck_one 0)]), 2000123, .inl 2, true), 0, 0, 245), (124, ([some (.inr (.inr (.inl 226))), some (.inl (ck_one 1)), some (.inl ((-2147483648), 2147483647, [])), some (.inl (0, 5, [(300, 0)])), some (.inl (ck_one 152))], ([], [], [(226, 10, 10, (151, 400, [(7, 0)])), (227, 6, 6, (1, 6, [(24, 0)])), (226, 9, 9, ck_one 0), (226, 8, 8, ck_one 0), (226, 0, 0, ck_one 0)]), 2000124, .inl 2, true), 0, 0, 245), (124, ([some (.inr (.inr (.inl 226))), some (.inl (ck_one 1)), some (.inl ((-2147483648), 2147483647, [])), some (.inl (0, 5, [(300, 0)])), some (.inl (ck_one 150))], ([], [], [(226, 10, 10, (149, 400, [(7, 0)])), (227, 6, 6, (1, 6, [(24, 0)])), (226, 9, 9, ck_one 0), (226, 8, 8, ck_one 0), (226, 0, 0, ck_one 0)]), 2000125, .inl 2, true), 0, 0, 245), (124, ([some (.inr (.inr (.inl 226))), some (.inl (ck_one 1)), some (.inl ((-2147483648), 2147483647, [])), some (.inl (0, 5, [(300, 0)])), some (.inl (ck_one 148))], ([], [], [(226, 10, 10, (147, 400, [(7, 0)])), (227, 6, 6, (1, 6, [(24, 0)])), (226, 9, 9, ck_one 0), (226, 8, 8, ck_one 0), (226, 0, 0, ck_one 0)]), 2000126, .inl 2, true), 0, 0, 245), (124, ([some (.inr (.inr (.inl 226))), some (.inl (ck_one 1)), some (.inl ((-2147483648), 2147483647, [])), some (.inl (0, 5, [(300, 0)])), some (.inl (ck_one 146))], ([], [], [(226, 10, 10, (145, 400, [(7, 0)])), (227, 6, 6, (1, 6, [(24, 0)])), (226, 9, 9, ck_one 0), (226, 8, 8, ck_one 0), (226, 0, 0, ck_one 0)]), 2000127, .inl 2, true), 0, 0, 245), (124, ([some (.inr (.inr (.inl 226))), some (.inl (ck_one 1)), some (.inl ((-2147483648), 2147483647, [])), some (.inl (0, 5, [(300, 0)])), some (.inl (ck_one 144))], ([], [], [(226, 10, 10, (143, 400, [(7, 0)])), (227, 6, 6, (1, 6, [(24, 0)])), (226, 9, 9, ck_one 0), (226, 8, 8, ck_one 0), (226, 0, 0, ck_one 0)]), 2000128, .inl 2, true), 0, 0, 245), (124, ([some (.inr (.inr (.inl 226))), some (.inl (ck_one 1)), some (.inl ((-2147483648), 2147483647, [])), some (.inl (0, 5, [(300, 0)])), some (.inl (ck_one 142))], ([], [], [(226, 10, 10, (141, 400, [(7, 0)])), (227, 6, 6, (1, 6, [(24, 0)])), (226, 9, 9, ck_one 0), (226, 8, 8, ck_one 0), (226, 0, 0, ck_one 0)]), 2000129, .inl 2, true), 0, 0, 245), (124, ([some (.inr (.inr (.inl 226))), some (.inl (ck_one 1)), some (.inl ((-2147483648), 2147483647, [])), some (.inl (0, 5, [(300, 0)])), some (.inl (ck_one 140))], ([], [], [(226, 10, 10, (139, 400, [(7, 0)])), (227, 6, 6, (1, 6, [(24, 0)])), (226, 9, 9, ck_one 0), (226, 8, 8, ck_one 0), (226, 0, 0, ck_one 0)]), 2000130, .inl 2, true), 0, 0, 245), (124, ([some (.inr (.inr (.inl 226))), some (.inl (ck_one 1)), some (.inl ((-2147483648), 2147483647, [])), some (.inl (0, 5, [(300, 0)])), some (.inl (ck_one 138))], ([], [], [(226, 10, 10, (137, 400, [(7, 0)])), (227, 6, 6, (1, 6, [(24, 0)])), (226, 9, 9, ck_one 0), (226, 8, 8, ck_one 0), (226, 0, 0, ck_one 0)]), 2000131, .inl 2, true), 0, 0, 245), (124, ([some (.inr (.inr (.inl 226))), some (.inl (ck_one 1)), some (.inl ((-2147483648), 2147483647, [])), some (.inl (0, 5, [(300, 0)])), some (.inl (ck_one 136))], ([], [], [(226, 10, 10, (135, 400, [(7, 0)])), (227, 6, 6, (1, 6, [(24, 0)])), (226, 9, 9, ck_one 0), (226, 8, 8, ck_one 0), (226, 0, 0, ck_one 0)]), 2000132, .inl 2, true), 0, 0, 245), (124, ([some (.inr (.inr (.inl 226))), some (.inl (ck_one 1)), some (.inl ((-2147483648), 2147483647, [])), some (.inl (0, 5, [(300, 0)])), some (.inl (ck_one 134))], ([], [], [(226, 10, 10, (133, 400, [(7, 0)])), (227, 6, 6, (1, 6, [(24, 0)])), (226, 9, 9, ck_one 0), (226, 8, 8, ck_one 0), (226, 0, 0, ck_one 0)]), 2000133, .inl 2, true), 0, 0, 245), (124, ([some (.inr (.inr (.inl 226))), some (.inl (ck_one 1)), some (.inl ((-2147483648), 2147483647, [])), some (.inl (0, 5, [(300, 0)])), some (.inl (ck_one 132))], ([], [], [(226, 10, 10, (131, 400, [(7, 0)])), (227, 6, 6, (1, 6, [(24, 0)])), (226, 9, 9, ck_one 0), (226, 8, 8, ck_one 0), (226, 0, 0, ck_one 0)]), 2000134, .inl 2, true), 0, 0, 245), (124, ([some (.inr (.inr (.inl 226))), some (.inl (ck_one 1)), some (.inl ((-2147483648), 2147483647, [])), some (.inl (0, 5, [(300, 0)])), some (.inl (ck_one 130))], ([], [], [(226, 10, 10, (129, 400, [(7, 0)])), (227, 6, 6, (1, 6, [(24, 0)])), (226, 9, 9, ck_one 0), (226, 8, 8, ck_one 0), (226, 0, 0, ck_one 0)]), 2000135, .inl 2, true), 0, 0, 245), (124, ([some (.inr (.inr (.inl 226))), some (.inl (ck_one 1)), some (.inl ((-2147483648), 2147483647, [])), some (.inl (0, 5, [(300, 0)])), some (.inl (ck_one 128))], ([], [], [(226, 10, 10, (127, 400, [(7, 0)])), (227, 6, 6, (1, 6, [(24, 0)])), (226, 9, 9, ck_one 0), (226, 8, 8, ck_one 0), (226, 0, 0, ck_one 0)]), 2000136, .inl 2, true), 0, 0, 245), (124, ([some (.inr (.inr (.inl 226))), some (.inl (ck_one 1)), some (.inl ((-2147483648), 2147483647, [])), some (.inl (0, 5, [(300, 0)])), some (.inl (ck_one 126))], ([], [], [(226, 10, 10, (125, 400, [(7, 0)])), (227, 6, 6, (1, 6, [(24, 0)])), (226, 9, 9, ck_one 0), (226, 8, 8, ck_one 0), (226, 0, 0, ck_one 0)]), 2000137, .inl 2, true), 0, 0, 245), (124, ([some (.inr (.inr (.inl 226))), some (.inl (ck_one 1)), some (.inl ((-2147483648), 2147483647, [])), some (.inl (0, 5, [(300, 0)])), some (.inl (ck_one 124))], ([], [], [(226, 10, 10, (123, 400, [(7, 0)])), (227, 6, 6, (1, 6, [(24, 0)])), (226, 9, 9, ck_one 0), (226, 8, 8, ck_one 0), (226, 0, 0, ck_one 0)]), 2000138, .inl 2, true), 0, 0, 245), (124, ([some (.inr (.inr (.inl 226))), some (.inl (ck_one 1)), some (.inl ((-2147483648), 2147483647, [])), some (.inl (0, 5, [(300, 0)])), some (.inl (ck_one 122))], ([], [], [(226, 10, 10, (121, 400, [(7, 0)])), (227, 6, 6, (1, 6, [(24, 0)])), (226, 9, 9, ck_one 0), (226, 8, 8, ck_one 0), (226, 0, 0, ck_one 0)]), 2000139, .inl 2, true), 0, 0, 245), (124, ([some (.inr (.inr (.inl 226))), some (.inl (ck_one 1)), some (.inl ((-2147483648), 2147483647, [])), some (.inl (0, 5, [(300, 0)])), some (.inl (ck_one 120))], ([], [], [(226, 10, 10, (119, 400, [(7, 0)])), (227, 6, 6, (1, 6, [(24, 0)])), (226, 9, 9, ck_one 0), (226, 8, 8, ck_one 0), (226, 0, 0, ck_one 0)]), 2000140, .inl 2, true), 0, 0, 245), (124, ([some (.inr (.inr (.inl 226))), some (.inl (ck_one 1)), some (.inl ((-2147483648), 2147483647, [])), some (.inl (0, 5, [(300, 0)])), some (.inl (ck_one 118))], ([], [], [(226, 10, 10, (117, 400, [(7, 0)])), (227, 6, 6, (1, 6, [(24, 0)])), (226, 9, 9, ck_one 0), (226, 8, 8, ck_one 0), (226, 0, 0, ck_one 0)]), 2000141, .inl 2, true), 0, 0, 245), (124, ([some (.inr (.inr (.inl 226))), some (.inl (ck_one 1)), some (.inl ((-2147483648), 2147483647, [])), some (.inl (0, 5, [(300, 0)])), some (.inl (ck_one 116))], ([], [], [(226, 10, 10, (115, 400, [(7, 0)])), (227, 6, 6, (1, 6, [(24, 0)])), (226, 9, 9, ck_one 0), (226, 8, 8, ck_one 0), (226, 0, 0, ck_one 0)]), 2000142, .inl 2, true), 0, 0, 245), (124, ([some (.inr (.inr (.inl 226))), some (.inl (ck_one 1)), some (.inl ((-2147483648), 2147483647, [])), some (.inl (0, 5, [(300, 0)])), some (.inl (ck_one 114))], ([], [], [(226, 10, 10, (113, 400, [(7, 0)])), (227, 6, 6, (1, 6, [(24, 0)])), (226, 9, 9, ck_one 0), (226, 8, 8, ck_one 0), (226, 0, 0, ck_one 0)]), 2000143, .inl 2, true), 0, 0, 245), (124, ([some (.inr (.inr (.inl 226))), some (.inl (ck_one 1)), some (.inl ((-2147483648), 2147483647, [])), some (.inl (0, 5, [(300, 0)])), some (.inl (ck_one 112))], ([], [], [(226, 10, 10, (111, 400, [(7, 0)])), (227, 6, 6, (1, 6, [(24, 0)])), (226, 9, 9, ck_one 0), (226, 8, 8, ck_one 0), (226, 0, 0, ck_one 0)]), 2000144, .inl 2, true), 0, 0, 245), (124, ([some (.inr (.inr (.inl 226))), some (.inl (ck_one 1)), some (.inl ((-2147483648), 2147483647, [])), some (.inl (0, 5, [(300, 0)])), some (.inl (ck_one 110))], ([], [], [(226, 10, 10, (109, 400, [(7, 0)])), (227, 6, 6, (1, 6, [(24, 0)])), (226, 9, 9, ck_one 0), (226, 8, 8, ck_one 0), (226, 0, 0, ck_one 0)]), 2000145, .inl 2, true), 0, 0, 245), (124, ([some (.inr (.inr (.inl 226))), some (.inl (ck_one 1)), some (.inl ((-2147483648), 2147483647, [])), some (.inl (0, 5, [(300, 0)])), some (.inl (ck_one 108))], ([], [], [(226, 10, 10, (107, 400, [(7, 0)])), (227, 6, 6, (1, 6, [(24, 0)])), (226, 9, 9, ck_one 0), (226, 8, 8, ck_one 0), (226, 0, 0, ck_one 0)]), 2000146, .inl 2, true), 0, 0, 245), (124, ([some (.inr (.inr (.inl 226))), some (.inl (ck_one 1)), some (.inl ((-2147483648), 2147483647, [])), some (.inl (0, 5, [(300, 0)])), some (.inl (ck_one 106))], ([], [], [(226, 10, 10, (105, 400, [(7, 0)])), (227, 6, 6, (1, 6, [(24, 0)])), (226, 9, 9, ck_one 0), (226, 8, 8, ck_one 0), (226, 0, 0, ck_one 0)]), 2000147, .inl 2, true), 0, 0, 245), (124, ([some (.inr (.inr (.inl 226))), some (.inl (ck_one 1)), some (.inl ((-2147483648), 2147483647, [])), some (.inl (0, 5, [(300, 0)])), some (.inl (ck_one 104))], ([], [], [(226, 10, 10, (103, 400, [(7, 0)])), (227, 6, 6, (1, 6, [(24, 0)])), (226, 9, 9, ck_one 0), (226, 8, 8, ck_one 0), (226, 0, 0, ck_one 0)]), 2000148, .inl 2, true), 0, 0, 245), (124, ([some (.inr (.inr (.inl 226))), some (.inl (ck_one 1)), some (.inl ((-2147483648), 2147483647, [])), some (.inl (0, 5, [(300, 0)])), some (.inl (ck_one 102))], ([], [], [(226, 10, 10, (101, 400, [(7, 0)])), (227, 6, 6, (1, 6, [(24, 0)])), (226, 9, 9, ck_one 0), (226, 8, 8, ck_one 0), (226, 0, 0, ck_one 0)]), 2000149, .inl 2, true), 0, 0, 245), (124, ([some (.inr (.inr (.inl 226))), some (.inl (ck_one 1)), some (.inl ((-2147483648), 2147483647, [])), some (.inl (0, 5, [(300, 0)])), some (.inl (ck_one 100))], ([], [], [(226, 10, 10, (99, 400, [(7, 0)])), (227, 6, 6, (1, 6, [(24, 0)])), (226, 9, 9, ck_one 0), (226, 8, 8, ck_one 0), (226, 0, 0, ck_one 0)]), 2000150, .inl 2, true), 0, 0, 245), (124, ([some (.inr (.inr (.inl 226))), some (.inl (ck_one 1)), some (.inl ((-2147483648), 2147483647, [])), some (.inl (0, 5, [(300, 0)])), some (.inl (ck_one 98))], ([], [], [(226, 10, 10, (97, 400, [(7, 0)])), (227, 6, 6, (1, 6, [(24, 0)])), (226, 9, 9, ck_one 0), (226, 8, 8, ck_one 0), (226, 0, 0, ck_one 0)]), 2000151, .inl 2, true), 0, 0, 245), (124, ([some (.inr (.inr (.inl 226))), some (.inl (ck_one 1)), some (.inl ((-2147483648), 2147483647, [])), some (.inl (0, 5, [(300, 0)])), some (.inl (ck_one 96))], ([], [], [(226, 10, 10, (95, 400, [(7, 0)])), (227, 6, 6, (1, 6, [(24, 0)])), (226, 9, 9, ck_one 0), (226, 8, 8, ck_one 0), (226, 0, 0, ck_one 0)]), 2000152, .inl 2, true), 0, 0, 245), (124, ([some (.inr (.inr (.inl 226))), some (.inl (ck_one 1)), some (.inl ((-2147483648), 2147483647, [])), some (.inl (0, 5, [(300, 0)])), some (.inl (ck_one 94))], ([], [], [(226, 10, 10, (93, 400, [(7, 0)])), (227, 6, 6, (1, 6, [(24, 0)])), (226, 9, 9, ck_one 0), (226, 8, 8, ck_one 0), (226, 0, 0, ck_one 0)]), 2000153, .inl 2, true), 0, 0, 245), (124, ([some (.inr (.inr (.inl 226))), some (.inl (ck_one 1)), some (.inl ((-2147483648), 2147483647, [])), some (.inl (0, 5, [(300, 0)])), some (.inl (ck_one 92))], ([], [], [(226, 10, 10, (91, 400, [(7, 0)])), (227, 6, 6, (1, 6, [(24, 0)])), (226, 9, 9, ck_one 0), (226, 8, 8, ck_one 0), (226, 0, 0, ck_one 0)]), 2000154, .inl 2, true), 0, 0, 245), (124, ([some (.inr (.inr (.inl 226))), some (.inl (ck_one 1)), some (.inl ((-2147483648), 2147483647, [])), some (.inl (0, 5, [(300, 0)])), some (.inl (ck_one 90))], ([], [], [(226, 10, 10, (89, 400, [(7, 0)])), (227, 6, 6, (1, 6, [(24, 0)])), (226, 9, 9, ck_one 0), (226, 8, 8, ck_one 0), (226, 0, 0, ck_one 0)]), 2000155, .inl 2, true), 0, 0, 245), (124, ([some (.inr (.inr (.inl 226))), some (.inl (ck_one 1)), some (.inl ((-2147483648), 2147483647, [])), some (.inl (0, 5, [(300, 0)])), some (.inl (ck_one 88))], ([], [], [(226, 10, 10, (87, 400, [(7, 0)])), (227, 6, 6, (1, 6, [(24, 0)])), (226, 9, 9, ck_one 0), (226, 8, 8, ck_one 0), (226, 0, 0, ck_one 0)]), 2000156, .inl 2, true), 0, 0, 245), (124, ([some (.inr (.inr (.inl 226))), some (.inl (ck_one 1)), some (.inl ((-2147483648), 2147483647, [])), some (.inl (0, 5, [(300, 0)])), some (.inl (ck_one 86))], ([], [], [(226, 10, 10, (85, 400, [(7, 0)])), (227, 6, 6, (1, 6, [(24, 0)])), (226, 9, 9, ck_one 0), (226, 8, 8, ck_one 0), (226, 0, 0, ck_one 0)]), 2000157, .inl 2, true), 0, 0, 245), (124, ([some (.inr (.inr (.inl 226))), some (.inl (ck_one 1)), some (.inl ((-2147483648), 2147483647, [])), some (.inl (0, 5, [(300, 0)])), some (.inl (ck_one 84))], ([], [], [(226, 10, 10, (83, 400, [(7, 0)])), (227, 6, 6, (1, 6, [(24, 0)])), (226, 9, 9, ck_one 0), (226, 8, 8, ck_one 0), (226, 0, 0, ck_one 0)]), 2000158, .inl 2, true), 0, 0, 245), (124, ([some (.inr (.inr (.inl 226))), some (.inl (ck_one 1)), some (.inl ((-2147483648), 2147483647, [])), some (.inl (0, 5, [(300, 0)])), some (.inl (ck_one 82))], ([], [], [(226, 10, 10, (81, 400, [(7, 0)])), (227, 6, 6, (1, 6, [(24, 0)])), (226, 9, 9, ck_one 0), (226, 8, 8, ck_one 0), (226, 0, 0, ck_one 0)]), 2000159, .inl 2, true), 0, 0, 245), (124, ([some (.inr (.inr (.inl 226))), some (.inl (ck_one 1)), some (.inl ((-2147483648), 2147483647, [])), some (.inl (0, 5, [(300, 0)])), some (.inl (ck_one 80))], ([], [], [(226, 10, 10, (79, 400, [(7, 0)])), (227, 6, 6, (1, 6, [(24, 0)])), (226, 9, 9, ck_one 0), (226, 8, 8, ck_one 0), (226, 0, 0, ck_one 0)]), 2000160, .inl 2, true), 0, 0, 245), (124, ([some (.inr (.inr (.inl 226))), some (.inl (ck_one 1)), some (.inl ((-2147483648), 2147483647, [])), some (.inl (0, 5, [(300, 0)])), some (.inl (ck_one 78))], ([], [], [(226, 10, 10, (77, 400, [(7, 0)])), (227, 6, 6, (1, 6, [(24, 0)])), (226, 9, 9, ck_one 0), (226, 8, 8, ck_one 0), (226, 0, 0, ck_one 0)]), 2000161, .inl 2, true), 0, 0, 245), (124, ([some (.inr (.inr (.inl 226))), some (.inl (ck_one 1)), some (.inl ((-2147483648), 2147483647, [])), some (.inl (0, 5, [(300, 0)])), some (.inl (ck_one 76))], ([], [], [(226, 10, 10, (75, 400, [(7, 0)])), (227, 6, 6, (1, 6, [(24, 0)])), (226, 9, 9, ck_one 0), (226, 8, 8, ck_one 0), (226, 0, 0, ck_one 0)]), 2000162, .inl 2, true), 0, 0, 245), (124, ([some (.inr (.inr (.inl 226))), some (.inl (ck_one 1)), some (.inl ((-2147483648), 2147483647, [])), some (.inl (0, 5, [(300, 0)])), some (.inl (ck_one 74))], ([], [], [(226, 10, 10, (73, 400, [(7, 0)])), (227, 6, 6, (1, 6, [(24, 0)])), (226, 9, 9, ck_one 0), (226, 8, 8, ck_one 0), (226, 0, 0, ck_one 0)]), 2000163, .inl 2, true), 0, 0, 245), (124, ([some (.inr (.inr (.inl 226))), some (.inl (ck_one 1)), some (.inl ((-2147483648), 2147483647, [])), some (.inl (0, 5, [(300, 0)])), some (.inl (ck_one 72))], ([], [], [(226, 10, 10, (71, 400, [(7, 0)])), (227, 6, 6, (1, 6, [(24, 0)])), (226, 9, 9, ck_one 0), (226, 8, 8, ck_one 0), (226, 0, 0, ck_one 0)]), 2000164, .inl 2, true), 0, 0, 245), (124, ([some (.inr (.inr (.inl 226))), some (.inl (ck_one 1)), some (.inl ((-2147483648), 2147483647, [])), some (.inl (0, 5, [(300, 0)])), some (.inl (ck_one 70))], ([], [], [(226, 10, 10, (69, 400, [(7, 0)])), (227, 6, 6, (1, 6, [(24, 0)])), (226, 9, 9, ck_one 0), (226, 8, 8, ck_one 0), (226, 0, 0, ck_one 0)]), 2000165, .inl 2, true), 0, 0, 245), (124, ([some (.inr (.inr (.inl 226))), some (.inl (ck_one 1)), some (.inl ((-2147483648), 2147483647, [])), some (.inl (0, 5, [(300, 0)])), some (.inl (ck_one 68))], ([], [], [(226, 10, 10, (67, 400, [(7, 0)])), (227, 6, 6, (1, 6, [(24, 0)])), (226, 9, 9, ck_one 0), (226, 8, 8, ck_one 0), (226, 0, 0, ck_one 0)]), 2000166, .inl 2, true), 0, 0, 245), (124, ([some (.inr (.inr (.inl 226))), some (.inl (ck_one 1)), some (.inl ((-2147483648), 2147483647, [])), some (.inl (0, 5, [(300, 0)])), some (.inl (ck_one 66))], ([], [], [(226, 10, 10, (65, 400, [(7, 0)])), (227, 6, 6, (1, 6, [(24, 0)])), (226, 9, 9, ck_one 0), (226, 8, 8, ck_one 0), (226, 0, 0, ck_one 0)]), 2000167, .inl 2, true), 0, 0, 245), (124, ([some (.inr (.inr (.inl 226))), some (.inl (ck_one 1)), some (.inl ((-2147483648), 2147483647, [])), some (.inl (0, 5, [(300, 0)])), some (.inl (ck_one 64))], ([], [], [(226, 10, 10, (63, 400, [(7, 0)])), (227, 6, 6, (1, 6, [(24, 0)])), (226, 9, 9, ck_one 0), (226, 8, 8, ck_one 0), (226, 0, 0, ck_one 0)]), 2000168, .inl 2, true), 0, 0, 245), (124, ([some (.inr (.inr (.inl 226))), some (.inl (ck_one 1)), some (.inl ((-2147483648), 2147483647, [])), some (.inl (0, 5, [(300, 0)])), some (.inl (ck_one 62))], ([], [], [(226, 10, 10, (61, 400, [(7, 0)])), (227, 6, 6, (1, 6, [(24, 0)])), (226, 9, 9, ck_one 0), (226, 8, 8, ck_one 0), (226, 0, 0, ck_one 0)]), 2000169, .inl 2, true), 0, 0, 245), (124, ([some (.inr (.inr (.inl 226))), some (.inl (ck_one 1)), some (.inl ((-2147483648), 2147483647, [])), some (.inl (0, 5, [(300, 0)])), some (.inl (ck_one 60))], ([], [], [(226, 10, 10, (59, 400, [(7, 0)])), (227, 6, 6, (1, 6, [(24, 0)])), (226, 9, 9, ck_one 0), (226, 8, 8, ck_one 0), (226, 0, 0, ck_one 0)]), 2000170, .inl 2, true), 0, 0, 245), (124, ([some (.inr (.inr (.inl 226))), some (.inl (ck_one 1)), some (.inl ((-2147483648), 2147483647, [])), some (.inl (0, 5, [(300, 0)])), some (.inl (ck_one 58))], ([], [], [(226, 10, 10, (57, 400, [(7, 0)])), (227, 6, 6, (1, 6, [(24, 0)])), (226, 9, 9, ck_one 0), (226, 8, 8, ck_one 0), (226, 0, 0, ck_one 0)]), 2000171, .inl 2, true), 0, 0, 245), (124, ([some (.inr (.inr (.inl 226))), some (.inl (ck_one 1)), some (.inl ((-2147483648), 2147483647, [])), some (.inl (0, 5, [(300, 0)])), some (.inl (ck_one 56))], ([], [], [(226, 10, 10, (55, 400, [(7, 0)])), (227, 6, 6, (1, 6, [(24, 0)])), (226, 9, 9, ck_one 0), (226, 8, 8, ck_one 0), (226, 0, 0, ck_one 0)]), 2000172, .inl 2, true), 0, 0, 245), (124, ([some (.inr (.inr (.inl 226))), some (.inl (ck_one 1)), some (.inl ((-2147483648), 2147483647, [])), some (.inl (0, 5, [(300, 0)])), some (.inl (ck_one 54))], ([], [], [(226, 10, 10, (53, 400, [(7, 0)])), (227, 6, 6, (1, 6, [(24, 0)])), (226, 9, 9, ck_one 0), (226, 8, 8, ck_one 0), (226, 0, 0, ck_one 0)]), 2000173, .inl 2, true), 0, 0, 245), (124, ([some (.inr (.inr (.inl 226))), some (.inl (ck_one 1)), some (.inl ((-2147483648), 2147483647, [])), some (.inl (0, 5, [(300, 0)])), some (.inl (ck_one 52))], ([], [], [(226, 10, 10, (51, 400, [(7, 0)])), (227, 6, 6, (1, 6, [(24, 0)])), (226, 9, 9, ck_one 0), (226, 8, 8, ck_one 0), (226, 0, 0, ck_one 0)]), 2000174, .inl 2, true), 0, 0, 245), (124, ([some (.inr (.inr (.inl 226))), some (.inl (ck_one 1)), some (.inl ((-2147483648), 2147483647, [])), some (.inl (0, 5, [(300, 0)])), some (.inl (ck_one 50))], ([], [], [(226, 10, 10, (49, 400, [(7, 0)])), (227, 6, 6, (1, 6, [(24, 0)])), (226, 9, 9, ck_one 0), (226, 8, 8, ck_one 0), (226, 0, 0, ck_one 0)]), 2000175, .inl 2, true), 0, 0, 245), (124, ([some (.inr (.inr (.inl 226))), some (.inl (ck_one 1)), some (.inl ((-2147483648), 2147483647, [])), some (.inl (0, 5, [(300, 0)])), some (.inl (ck_one 48))], ([], [], [(226, 10, 10, (47, 400, [(7, 0)])), (227, 6, 6, (1, 6, [(24, 0)])), (226, 9, 9, ck_one 0), (226, 8, 8, ck_one 0), (226, 0, 0, ck_one 0)]), 2000176, .inl 2, true), 0, 0, 245), (124, ([some (.inr (.inr (.inl 226))), some (.inl (ck_one 1)), some (.inl ((-2147483648), 2147483647, [])), some (.inl (0, 5, [(300, 0)])), some (.inl (ck_one 46))], ([], [], [(226, 10, 10, (45, 400, [(7, 0)])), (227, 6, 6, (1, 6, [(24, 0)])), (226, 9, 9, ck_one 0), (226, 8, 8, ck_one 0), (226, 0, 0, ck_one 0)]), 2000177, .inl 2, true), 0, 0, 245), (124, ([some (.inr (.inr (.inl 226))), some (.inl (ck_one 1)), some (.inl ((-2147483648), 2147483647, [])), some (.inl (0, 5, [(300, 0)])), some (.inl (ck_one 44))], ([], [], [(226, 10, 10, (43, 400, [(7, 0)])), (227, 6, 6, (1, 6, [(24, 0)])), (226, 9, 9, ck_one 0), (226, 8, 8, ck_one 0), (226, 0, 0, ck_one 0)]), 2000178, .inl 2, true), 0, 0, 245), (124, ([some (.inr (.inr (.inl 226))), some (.inl (ck_one 1)), some (.inl ((-2147483648), 2147483647, [])), some (.inl (0, 5, [(300, 0)])), some (.inl (ck_one 42))], ([], [], [(226, 10, 10, (41, 400, [(7, 0)])), (227, 6, 6, (1, 6, [(24, 0)])), (226, 9, 9, ck_one 0), (226, 8, 8, ck_one 0), (226, 0, 0, ck_one 0)]), 2000179, .inl 2, true), 0, 0, 245), (124, ([some (.inr (.inr (.inl 226))), some (.inl (ck_one 1)), some (.inl ((-2147483648), 2147483647, [])), some (.inl (0, 5, [(300, 0)])), some (.inl (ck_one 40))], ([], [], [(226, 10, 10, (39, 400, [(7, 0)])), (227, 6, 6, (1, 6, [(24, 0)])), (226, 9, 9, ck_one 0), (226, 8, 8, ck_one 0), (226, 0, 0, ck_one 0)]), 2000180, .inl 2, true), 0, 0, 245), (124, ([some (.inr (.inr (.inl 226))), some (.inl (ck_one 1)), some (.inl ((-2147483648), 2147483647, [])), some (.inl (0, 5, [(300, 0)])), some (.inl (ck_one 38))], ([], [], [(226, 10, 10, (37, 400, [(7, 0)])), (227, 6, 6, (1, 6, [(24, 0)])), (226, 9, 9, ck_one 0), (226, 8, 8, ck_one 0), (226, 0, 0, ck_one 0)]), 2000181, .inl 2, true), 0, 0, 245), (124, ([some (.inr (.inr (.inl 226))), some (.inl (ck_one 1)), some (.inl ((-2147483648), 2147483647, [])), some (.inl (0, 5, [(300, 0)])), some (.inl (ck_one 36))], ([], [], [(226, 10, 10, (35, 400, [(7, 0)])), (227, 6, 6, (1, 6, [(24, 0)])), (226, 9, 9, ck_one 0), (226, 8, 8, ck_one 0), (226, 0, 0, ck_one 0)]), 2000182, .inl 2, true), 0, 0, 245), (124, ([some (.inr (.inr (.inl 226))), some (.inl (ck_one 1)), some (.inl ((-2147483648), 2147483647, [])), some (.inl (0, 5, [(300, 0)])), some (.inl (ck_one 34))], ([], [], [(226, 10, 10, (33, 400, [(7, 0)])), (227, 6, 6, (1, 6, [(24, 0)])), (226, 9, 9, ck_one 0), (226, 8, 8, ck_one 0), (226, 0, 0, ck_one 0)]), 2000183, .inl 2, true), 0, 0, 245), (124, ([some (.inr (.inr (.inl 226))), some (.inl (ck_one 1)), some (.inl ((-2147483648), 2147483647, [])), some (.inl (0, 5, [(300, 0)])), some (.inl (ck_one 32))], ([], [], [(226, 10, 10, (31, 400, [(7, 0)])), (227, 6, 6, (1, 6, [(24, 0)])), (226, 9, 9, ck_one 0), (226, 8, 8, ck_one 0), (226, 0, 0, ck_one 0)]), 2000184, .inl 2, true), 0, 0, 245), (124, ([some (.inr (.inr (.inl 226))), some (.inl (ck_one 1)), some (.inl ((-2147483648), 2147483647, [])), some (.inl (0, 5, [(300, 0)])), some (.inl (ck_one 30))], ([], [], [(226, 10, 10, (29, 400, [(7, 0)])), (227, 6, 6, (1, 6, [(24, 0)])), (226, 9, 9, ck_one 0), (226, 8, 8, ck_one 0), (226, 0, 0, ck_one 0)]), 2000185, .inl 2, true), 0, 0, 245), (124, ([some (.inr (.inr (.inl 226))), some (.inl (ck_one 1)), some (.inl ((-2147483648), 2147483647, [])), some (.inl (0, 5, [(300, 0)])), some (.inl (ck_one 28))], ([], [], [(226, 10, 10, (27, 400, [(7, 0)])), (227, 6, 6, (1, 6, [(24, 0)])), (226, 9, 9, ck_one 0), (226, 8, 8, ck_one 0), (226, 0, 0, ck_one 0)]), 2000186, .inl 2, true), 0, 0, 245), (124, ([some (.inr (.inr (.inl 226))), some (.inl (ck_one 1)), some (.inl ((-2147483648), 2147483647, [])), some (.inl (0, 5, [(300, 0)])), some (.inl (ck_one 26))], ([], [], [(226, 10, 10, (25, 400, [(7, 0)])), (227, 6, 6, (1, 6, [(24, 0)])), (226, 9, 9, ck_one 0), (226, 8, 8, ck_one 0), (226, 0, 0, ck_one 0)]), 2000187, .inl 2, true), 0, 0, 245), (124, ([some (.inr (.inr (.inl 226))), some (.inl (ck_one 1)), some (.inl ((-2147483648), 2147483647, [])), some (.inl (0, 5, [(300, 0)])), some (.inl (ck_one 24))], ([], [], [(226, 10, 10, (23, 400, [(7, 0)])), (227, 6, 6, (1, 6, [(24, 0)])), (226, 9, 9, ck_one 0), (226, 8, 8, ck_one 0), (226, 0, 0, ck_one 0)]), 2000188, .inl 2, true), 0, 0, 245), (124, ([some (.inr (.inr (.inl 226))), some (.inl (ck_one 1)), some (.inl ((-2147483648), 2147483647, [])), some (.inl (0, 5, [(300, 0)])), some (.inl (ck_one 22))], ([], [], [(226, 10, 10, (21, 400, [(7, 0)])), (227, 6, 6, (1, 6, [(24, 0)])), (226, 9, 9, ck_one 0), (226, 8, 8, ck_one 0), (226, 0, 0, ck_one 0)]), 2000189, .inl 2, true), 0, 0, 245), (124, ([some (.inr (.inr (.inl 226))), some (.inl (ck_one 1)), some (.inl ((-2147483648), 2147483647, [])), some (.inl (0, 5, [(300, 0)])), some (.inl (ck_one 20))], ([], [], [(226, 10, 10, (19, 400, [(7, 0)])), (227, 6, 6, (1, 6, [(24, 0)])), (226, 9, 9, ck_one 0), (226, 8, 8, ck_one 0), (226, 0, 0, ck_one 0)]), 2000190, .inl 2, true), 0, 0, 245), (124, ([some (.inr (.inr (.inl 226))), some (.inl (ck_one 1)), some (.inl ((-2147483648), 2147483647, [])), some (.inl (0, 5, [(300, 0)])), some (.inl (ck_one 18))], ([], [], [(226, 10, 10, (17, 400, [(7, 0)])), (227, 6, 6, (1, 6, [(24, 0)])), (226, 9, 9, ck_one 0), (226, 8, 8, ck_one 0), (226, 0, 0, ck_one 0)]), 2000191, .inl 2, true), 0, 0, 245), (124, ([some (.inr (.inr (.inl 226))), some (.inl (ck_one 1)), some (.inl ((-2147483648), 2147483647, [])), some (.inl (0, 5, [(300, 0)])), some (.inl (ck_one 16))], ([], [], [(226, 10, 10, (15, 400, [(7, 0)])), (227, 6, 6, (1, 6, [(24, 0)])), (226, 9, 9, ck_one 0), (226, 8, 8, ck_one 0), (226, 0, 0, ck_one 0)]), 2000192, .inl 2, true), 0, 0, 245), (124, ([some (.inr (.inr (.inl 226))), some (.inl (ck_one 1)), some (.inl ((-2147483648), 2147483647, [])), some (.inl (0, 5, [(300, 0)])), some (.inl (ck_one 14))], ([], [], [(226, 10, 10, (13, 400, [(7, 0)])), (227, 6, 6, (1, 6, [(24, 0)])), (226, 9, 9, ck_one 0), (226, 8, 8, ck_one 0), (226, 0, 0, ck_one 0)]), 2000193, .inl 2, true), 0, 0, 245), (124, ([some (.inr (.inr (.inl 226))), some (.inl (ck_one 1)), some (.inl ((-2147483648), 2147483647, [])), some (.inl (0, 5, [(300, 0)])), some (.inl (ck_one 12))], ([], [], [(226, 10, 10, (11, 400, [(7, 0)])), (227, 6, 6, (1, 6, [(24, 0)])), (226, 9, 9, ck_one 0), (226, 8, 8, ck_one 0), (226, 0, 0, ck_one 0)]), 2000194, .inl 2, true), 0, 0, 245), (124, ([some (.inr (.inr (.inl 226))), some (.inl (ck_one 1)), some (.inl ((-2147483648), 2147483647, [])), some (.inl (0, 5, [(300, 0)])), some (.inl (ck_one 10))], ([], [], [(226, 10, 10, (9, 400, [(7, 0)])), (227, 6, 6, (1, 6, [(24, 0)])), (226, 9, 9, ck_one 0), (226, 8, 8, ck_one 0), (226, 0, 0, ck_one 0)]), 2000195, .inl 2, true), 0, 0, 245), (124, ([some (.inr (.inr (.inl 226))), some (.inl (ck_one 1)), some (.inl ((-2147483648), 2147483647, [])), some (.inl (0, 5, [(300, 0)])), some (.inl (ck_one 8))], ([], [], [(226, 10, 10, (7, 400, [(7, 0)])), (227, 6, 6, (1, 6, [(24, 0)])), (226, 9, 9, ck_one 0), (226, 8, 8, ck_one 0), (226, 0, 0, ck_one 0)]), 2000196, .inl 2, true), 0, 0, 245), (124, ([some (.inr (.inr (.inl 226))), some (.inl (ck_one 1)), some (.inl ((-2147483648), 2147483647, [])), some (.inl (0, 5, [(300, 0)])), some (.inl (ck_one 6))], ([], [], [(226, 10, 10, (5, 400, [(7, 0)])), (227, 6, 6, (1, 6, [(24, 0)])), (226, 9, 9, ck_one 0), (226, 8, 8, ck_one 0), (226, 0, 0, ck_one 0)]), 2000197, .inl 2, true), 0, 0, 245), (124, ([some (.inr (.inr (.inl 226))), some (.inl (ck_one 1)), some (.inl ((-2147483648), 2147483647, [])), some (.inl (0, 5, [(300, 0)])), some (.inl (ck_one 4))], ([], [], [(226, 10, 10, (3, 400, [(7, 0)])), (227, 6, 6, (1, 6, [(24, 0)])), (226, 9, 9, ck_one 0), (226, 8, 8, ck_one 0), (226, 0, 0, ck_one 0)]), 2000198, .inl 2, true), 0, 0, 245), (124, ([some (.inr (.inr (.inl 226))), some (.inl (ck_one 1)), some (.inl ((-2147483648), 2147483647, [])), some (.inl (0, 5, [(300, 0)])), some (.inl (ck_one 2))], ([], [], [(226, 10, 10, (1, 400, [(7, 0)])), (227, 6, 6, (1, 6, [(24, 0)])), (226, 9, 9, ck_one 0), (226, 8, 8, ck_one 0), (226, 0, 0, ck_one 0)]), 2000199, .inl 2, true), 0, 0, 245), (124, ([some (.inr (.inr (.inl 226))), some (.inl (ck_one 1)), some (.inl ((-2147483648), 2147483647, [])), some (.inl (0, 5, [(300, 0)])), some (.inl (ck_one 0))], ([], [], [(227, 6, 6, (1, 6, [(24, 0)])), (226, 10, 10, (0, 400, [(7, 0)])), (226, 9, 9, ck_one 0), (226, 8, 8, ck_one 0), (226, 0, 0, ck_one 0)]), 2000200, .inl 2, true), 0, 0, 245)]
set_option maxRecDepth 100000 in
theorem p2_s1487_a : (decide (p2_s1487.2.2.1.length ≤ gm_ml 348) && ck_cu (p2_s1487_l.map (fun h => (h.1, h.2.1)) ++ p2_s1487_i)) = true := by decide +kernel
set_option maxRecDepth 100000 in
theorem p2_s1487_e0 : ck_stpi p2_O p2_s1487_E 348 p2_s1487.1.1 p2_s1487.2.1 p2_s1487.2.2.2.2.1 p2_s1487.2.2.2.2.2 (p2_s1487_l.map (fun h => (h.1, h.2.1)) ++ p2_s1487_i) 16778 p2_s1487_l 0 = true := by decide +kernel
set_option maxRecDepth 100000 in
theorem p2_s1487_e1 : ck_stpi p2_O p2_s1487_E 348 p2_s1487.1.1 p2_s1487.2.1 p2_s1487.2.2.2.2.1 p2_s1487.2.2.2.2.2 (p2_s1487_l.map (fun h => (h.1, h.2.1)) ++ p2_s1487_i) 16778 p2_s1487_l 1 = true := by decide +kernel
set_option maxRecDepth 100000 in
theorem p2_s1487_e2 : ck_stpi p2_O p2_s1487_E 348 p2_s1487.1.1 p2_s1487.2.1 p2_s1487.2.2.2.2.1 p2_s1487.2.2.2.2.2 (p2_s1487_l.map (fun h => (h.1, h.2.1)) ++ p2_s1487_i) 16778 p2_s1487_l 2 = true := by decide +kernel
set_option maxRecDepth 100000 in
theorem p2_s1487_e3 : ck_stpi p2_O p2_s1487_E 348 p2_s1487.1.1 p2_s1487.2.1 p2_s1487.2.2.2.2.1 p2_s1487.2.2.2.2.2 (p2_s1487_l.map (fun h => (h.1, h.2.1)) ++ p2_s1487_i) 16778 p2_s1487_l 3 = true := by decide +kernel
set_option maxRecDepth 100000 in
theorem p2_s1487_e4 : ck_stpi p2_O p2_s1487_E 348 p2_s1487.1.1 p2_s1487.2.1 p2_s1487.2.2.2.2.1 p2_s1487.2.2.2.2.2 (p2_s1487_l.map (fun h => (h.1, h.2.1)) ++ p2_s1487_i) 16778 p2_s1487_l 4 = true := by decide +kernel
set_option maxRecDepth 100000 in
theorem p2_s1487_e5 : ck_stpi p2_O p2_s1487_E 348 p2_s1487.1.1 p2_s1487.2.1 p2_s1487.2.2.2.2.1 p2_s1487.2.2.2.2.2 (p2_s1487_l.map (fun h => (h.1, h.2.1)) ++ p2_s1487_i) 16778 p2_s1487_l 5 = true := by decide +kernel
set_option maxRecDepth 100000 in
theorem p2_s1487_e6 : ck_stpi p2_O p2_s1487_E 348 p2_s1487.1.1 p2_s1487.2.1 p2_s1487.2.2.2.2.1 p2_s1487.2.2.2.2.2 (p2_s1487_l.map (fun h => (h.1, h.2.1)) ++ p2_s1487_i) 16778 p2_s1487_l 6 = true := by decide +kernel
set_option maxRecDepth 100000 in
theorem p2_s1487_e7 : ck_stpi p2_O p2_s1487_E 348 p2_s1487.1.1 p2_s1487.2.1 p2_s1487.2.2.2.2.1 p2_s1487.2.2.2.2.2 (p2_s1487_l.map (fun h => (h.1, h.2.1)) ++ p2_s1487_i) 16778 p2_s1487_l 7 = true := by decide +kernel
set_option maxRecDepth 100000 in
theorem p2_s1487_e8 : ck_stpi p2_O p2_s1487_E 348 p2_s1487.1.1 p2_s1487.2.1 p2_s1487.2.2.2.2.1 p2_s1487.2.2.2.2.2 (p2_s1487_l.map (fun h => (h.1, h.2.1)) ++ p2_s1487_i) 16778 p2_s1487_l 8 = true := by decide +kernel
set_option maxRecDepth 100000 in
theorem p2_s1487_e9 : ck_stpi p2_O p2_s1487_E 348 p2_s1487.1.1 p2_s1487.2.1 p2_s1487.2.2.2.2.1 p2_s1487.2.2.2.2.2 (p2_s1487_l.map (fun h => (h.1, h.2.1)) ++ p2_s1487_i) 16778 p2_s1487_l 9 = true := by decide +kernel
set_option maxRecDepth 100000 in
theorem p2_s1487_e10 : ck_stpi p2_O p2_s1487_E 348 p2_s1487.1.1 p2_s1487.2.1 p2_s1487.2.2.2.2.1 p2_s1487.2.2.2.2.2 (p2_s1487_l.map (fun h => (h.1, h.2.1)) ++ p2_s1487_i) 16778 p2_s1487_l 10 = true := by decide +kernel
set_option maxRecDepth 100000 in
theorem p2_s1487_e11 : ck_stpi p2_O p2_s1487_E 348 p2_s1487.1.1 p2_s1487.2.1 p2_s1487.2.2.2.2.1 p2_s1487.2.2.2.2.2 (p2_s1487_l.map (fun h => (h.1, h.2.1)) ++ p2_s1487_i) 16778 p2_s1487_l 11 = true := by decide +kernel
set_option maxRecDepth 100000 in
theorem p2_s1487_e12 : ck_stpi p2_O p2_s1487_E 348 p2_s1487.1.1 p2_s1487.2.1 p2_s1487.2.2.2.2.1 p2_s1487.2.2.2.2.2 (p2_s1487_l.map (fun h => (h.1, h.2.1)) ++ p2_s1487_i) 16778 p2_s1487_l 12 = true := by decide +kernel
set_option maxRecDepth 100000 in
theorem p2_s1487_e13 : ck_stpi p2_O p2_s1487_E 348 p2_s1487.1.1 p2_s1487.2.1 p2_s1487.2.2.2.2.1 p2_s1487.2.2.2.2.2 (p2_s1487_l.map (fun h => (h.1, h.2.1)) ++ p2_s1487_i) 16778 p2_s1487_l 13 = true := by decide +kernel
set_option maxRecDepth 100000 in
theorem p2_s1487_e14 : ck_stpi p2_O p2_s1487_E 348 p2_s1487.1.1 p2_s1487.2.1 p2_s1487.2.2.2.2.1 p2_s1487.2.2.2.2.2 (p2_s1487_l.map (fun h => (h.1, h.2.1)) ++ p2_s1487_i) 16778 p2_s1487_l 14 = true := by decide +kernel
set_option maxRecDepth 100000 in
theorem p2_s1487_e15 : ck_stpi p2_O p2_s1487_E 348 p2_s1487.1.1 p2_s1487.2.1 p2_s1487.2.2.2.2.1 p2_s1487.2.2.2.2.2 (p2_s1487_l.map (fun h => (h.1, h.2.1)) ++ p2_s1487_i) 16778 p2_s1487_l 15 = true := by decide +kernel
set_option maxRecDepth 100000 in
theorem p2_s1487_e16 : ck_stpi p2_O p2_s1487_E 348 p2_s1487.1.1 p2_s1487.2.1 p2_s1487.2.2.2.2.1 p2_s1487.2.2.2.2.2 (p2_s1487_l.map (fun h => (h.1, h.2.1)) ++ p2_s1487_i) 16778 p2_s1487_l 16 = true := by decide +kernel
set_option maxRecDepth 100000 in
theorem p2_s1487_e17 : ck_stpi p2_O p2_s1487_E 348 p2_s1487.1.1 p2_s1487.2.1 p2_s1487.2.2.2.2.1 p2_s1487.2.2.2.2.2 (p2_s1487_l.map (fun h => (h.1, h.2.1)) ++ p2_s1487_i) 16778 p2_s1487_l 17 = true := by decide +kernel
set_option maxRecDepth 100000 in
theorem p2_s1487_e18 : ck_stpi p2_O p2_s1487_E 348 p2_s1487.1.1 p2_s1487.2.1 p2_s1487.2.2.2.2.1 p2_s1487.2.2.2.2.2 (p2_s1487_l.map (fun h => (h.1, h.2.1)) ++ p2_s1487_i) 16778 p2_s1487_l 18 = true := by decide +kernel
set_option maxRecDepth 100000 in
theorem p2_s1487_e19 : ck_stpi p2_O p2_s1487_E 348 p2_s1487.1.1 p2_s1487.2.1 p2_s1487.2.2.2.2.1 p2_s1487.2.2.2.2.2 (p2_s1487_l.map (fun h => (h.1, h.2.1)) ++ p2_s1487_i) 16778 p2_s1487_l 19 = true := by decide +kernel
set_option maxRecDepth 100000 in
theorem p2_s1487_e20 : ck_stpi p2_O p2_s1487_E 348 p2_s1487.1.1 p2_s1487.2.1 p2_s1487.2.2.2.2.1 p2_s1487.2.2.2.2.2 (p2_s1487_l.map (fun h => (h.1, h.2.1)) ++ p2_s1487_i) 16778 p2_s1487_l 20 = true := by decide +kernel
set_option maxRecDepth 100000 in
theorem p2_s1487_e21 : ck_stpi p2_O p2_s1487_E 348 p2_s1487.1.1 p2_s1487.2.1 p2_s1487.2.2.2.2.1 p2_s1487.2.2.2.2.2 (p2_s1487_l.map (fun h => (h.1, h.2.1)) ++ p2_s1487_i) 16778 p2_s1487_l 21 = true := by decide +kernel
set_option maxRecDepth 100000 in
theorem p2_s1487_e22 : ck_stpi p2_O p2_s1487_E 348 p2_s1487.1.1 p2_s1487.2.1 p2_s1487.2.2.2.2.1 p2_s1487.2.2.2.2.2 (p2_s1487_l.map (fun h => (h.1, h.2.1)) ++ p2_s1487_i) 16778 p2_s1487_l 22 = true := by decide +kernel
set_option maxRecDepth 100000 in
theorem p2_s1487_e23 : ck_stpi p2_O p2_s1487_E 348 p2_s1487.1.1 p2_s1487.2.1 p2_s1487.2.2.2.2.1 p2_s1487.2.2.2.2.2 (p2_s1487_l.map (fun h => (h.1, h.2.1)) ++ p2_s1487_i) 16778 p2_s1487_l 23 = true := by decide +kernel
set_option maxRecDepth 100000 in
theorem p2_s1487_e24 : ck_stpi p2_O p2_s1487_E 348 p2_s1487.1.1 p2_s1487.2.1 p2_s1487.2.2.2.2.1 p2_s1487.2.2.2.2.2 (p2_s1487_l.map (fun h => (h.1, h.2.1)) ++ p2_s1487_i) 16778 p2_s1487_l 24 = true := by decide +kernel
set_option maxRecDepth 100000 in
theorem p2_s1487_e25 : ck_stpi p2_O p2_s1487_E 348 p2_s1487.1.1 p2_s1487.2.1 p2_s1487.2.2.2.2.1 p2_s1487.2.2.2.2.2 (p2_s1487_l.map (fun h => (h.1, h.2.1)) ++ p2_s1487_i) 16778 p2_s1487_l 25 = true := by decide +kernel
set_option maxRecDepth 100000 in
theorem p2_s1487_e26 : ck_stpi p2_O p2_s1487_E 348 p2_s1487.1.1 p2_s1487.2.1 p2_s1487.2.2.2.2.1 p2_s1487.2.2.2.2.2 (p2_s1487_l.map (fun h => (h.1, h.2.1)) ++ p2_s1487_i) 16778 p2_s1487_l 26 = true := by decide +kernel
set_option maxRecDepth 100000 in
theorem p2_s1487_e27 : ck_stpi p2_O p2_s1487_E 348 p2_s1487.1.1 p2_s1487.2.1 p2_s1487.2.2.2.2.1 p2_s1487.2.2.2.2.2 (p2_s1487_l.map (fun h => (h.1, h.2.1)) ++ p2_s1487_i) 16778 p2_s1487_l 27 = true := by decide +kernel
set_option maxRecDepth 100000 in
theorem p2_s1487_e28 : ck_stpi p2_O p2_s1487_E 348 p2_s1487.1.1 p2_s1487.2.1 p2_s1487.2.2.2.2.1 p2_s1487.2.2.2.2.2 (p2_s1487_l.map (fun h => (h.1, h.2.1)) ++ p2_s1487_i) 16778 p2_s1487_l 28 = true := by decide +kernel
set_option maxRecDepth 100000 in
theorem p2_s1487_e29 : ck_stpi p2_O p2_s1487_E 348 p2_s1487.1.1 p2_s1487.2.1 p2_s1487.2.2.2.2.1 p2_s1487.2.2.2.2.2 (p2_s1487_l.map (fun h => (h.1, h.2.1)) ++ p2_s1487_i) 16778 p2_s1487_l 29 = true := by decide +kernel
set_option maxRecDepth 100000 in
theorem p2_s1487_e30 : ck_stpi p2_O p2_s1487_E 348 p2_s1487.1.1 p2_s1487.2.1 p2_s1487.2.2.2.2.1 p2_s1487.2.2.2.2.2 (p2_s1487_l.map (fun h => (h.1, h.2.1)) ++ p2_s1487_i) 16778 p2_s1487_l 30 = true := by decide +kernel
set_option maxRecDepth 100000 in
theorem p2_s1487_e31 : ck_stpi p2_O p2_s1487_E 348 p2_s1487.1.1 p2_s1487.2.1 p2_s1487.2.2.2.2.1 p2_s1487.2.2.2.2.2 (p2_s1487_l.map (fun h => (h.1, h.2.1)) ++ p2_s1487_i) 16778 p2_s1487_l 31 = true := by decide +kernel
set_option maxRecDepth 100000 in
theorem p2_s1487_e32 : ck_stpi p2_O p2_s1487_E 348 p2_s1487.1.1 p2_s1487.2.1 p2_s1487.2.2.2.2.1 p2_s1487.2.2.2.2.2 (p2_s1487_l.map (fun h => (h.1, h.2.1)) ++ p2_s1487_i) 16778 p2_s1487_l 32 = true := by decide +kernel
set_option maxRecDepth 100000 in
theorem p2_s1487_e33 : ck_stpi p2_O p2_s1487_E 348 p2_s1487.1.1 p2_s1487.2.1 p2_s1487.2.2.2.2.1 p2_s1487.2.2.2.2.2 (p2_s1487_l.map (fun h => (h.1, h.2.1)) ++ p2_s1487_i) 16778 p2_s1487_l 33 = true := by decide +kernel
set_option maxRecDepth 100000 in
theorem p2_s1487_e34 : ck_stpi p2_O p2_s1487_E 348 p2_s1487.1.1 p2_s1487.2.1 p2_s1487.2.2.2.2.1 p2_s1487.2.2.2.2.2 (p2_s1487_l.map (fun h => (h.1, h.2.1)) ++ p2_s1487_i) 16778 p2_s1487_l 34 = true := by decide +kernel
set_option maxRecDepth 100000 in
theorem p2_s1487_e35 : ck_stpi p2_O p2_s1487_E 348 p2_s1487.1.1 p2_s1487.2.1 p2_s1487.2.2.2.2.1 p2_s1487.2.2.2.2.2 (p2_s1487_l.map (fun h => (h.1, h.2.1)) ++ p2_s1487_i) 16778 p2_s1487_l 35 = true := by decide +kernel
set_option maxRecDepth 100000 in
theorem p2_s1487_e36 : ck_stpi p2_O p2_s1487_E 348 p2_s1487.1.1 p2_s1487.2.1 p2_s1487.2.2.2.2.1 p2_s1487.2.2.2.2.2 (p2_s1487_l.map (fun h => (h.1, h.2.1)) ++ p2_s1487_i) 16778 p2_s1487_l 36 = true := by decide +kernel
set_option maxRecDepth 100000 in
theorem p2_s1487_e37 : ck_stpi p2_O p2_s1487_E 348 p2_s1487.1.1 p2_s1487.2.1 p2_s1487.2.2.2.2.1 p2_s1487.2.2.2.2.2 (p2_s1487_l.map (fun h => (h.1, h.2.1)) ++ p2_s1487_i) 16778 p2_s1487_l 37 = true := by decide +kernel
set_option maxRecDepth 100000 in
theorem p2_s1487_e38 : ck_stpi p2_O p2_s1487_E 348 p2_s1487.1.1 p2_s1487.2.1 p2_s1487.2.2.2.2.1 p2_s1487.2.2.2.2.2 (p2_s1487_l.map (fun h => (h.1, h.2.1)) ++ p2_s1487_i) 16778 p2_s1487_l 38 = true := by decide +kernel
set_option maxRecDepth 100000 in
theorem p2_s1487_e39 : ck_stpi p2_O p2_s1487_E 348 p2_s1487.1.1 p2_s1487.2.1 p2_s1487.2.2.2.2.1 p2_s1487.2.2.2.2.2 (p2_s1487_l.map (fun h => (h.1, h.2.1)) ++ p2_s1487_i) 16778 p2_s1487_l 39 = true := by decide +kernel
set_option maxRecDepth 100000 in
theorem p2_s1487_e40 : ck_stpi p2_O p2_s1487_E 348 p2_s1487.1.1 p2_s1487.2.1 p2_s1487.2.2.2.2.1 p2_s1487.2.2.2.2.2 (p2_s1487_l.map (fun h => (h.1, h.2.1)) ++ p2_s1487_i) 16778 p2_s1487_l 40 = true := by decide +kernel
set_option maxRecDepth 100000 in
theorem p2_s1487_e41 : ck_stpi p2_O p2_s1487_E 348 p2_s1487.1.1 p2_s1487.2.1 p2_s1487.2.2.2.2.1 p2_s1487.2.2.2.2.2 (p2_s1487_l.map (fun h => (h.1, h.2.1)) ++ p2_s1487_i) 16778 p2_s1487_l 41 = true := by decide +kernel
set_option maxRecDepth 100000 in
theorem p2_s1487_e42 : ck_stpi p2_O p2_s1487_E 348 p2_s1487.1.1 p2_s1487.2.1 p2_s1487.2.2.2.2.1 p2_s1487.2.2.2.2.2 (p2_s1487_l.map (fun h => (h.1, h.2.1)) ++ p2_s1487_i) 16778 p2_s1487_l 42 = true := by decide +kernel
set_option maxRecDepth 100000 in
theorem p2_s1487_e43 : ck_stpi p2_O p2_s1487_E 348 p2_s1487.1.1 p2_s1487.2.1 p2_s1487.2.2.2.2.1 p2_s1487.2.2.2.2.2 (p2_s1487_l.map (fun h => (h.1, h.2.1)) ++ p2_s1487_i) 16778 p2_s1487_l 43 = true := by decide +kernel
set_option maxRecDepth 100000 in
theorem p2_s1487_e44 : ck_stpi p2_O p2_s1487_E 348 p2_s1487.1.1 p2_s1487.2.1 p2_s1487.2.2.2.2.1 p2_s1487.2.2.2.2.2 (p2_s1487_l.map (fun h => (h.1, h.2.1)) ++ p2_s1487_i) 16778 p2_s1487_l 44 = true := by decide +kernel
set_option maxRecDepth 100000 in
theorem p2_s1487_e45 : ck_stpi p2_O p2_s1487_E 348 p2_s1487.1.1 p2_s1487.2.1 p2_s1487.2.2.2.2.1 p2_s1487.2.2.2.2.2 (p2_s1487_l.map (fun h => (h.1, h.2.1)) ++ p2_s1487_i) 16778 p2_s1487_l 45 = true := by decide +kernel
set_option maxRecDepth 100000 in
theorem p2_s1487_e46 : ck_stpi p2_O p2_s1487_E 348 p2_s1487.1.1 p2_s1487.2.1 p2_s1487.2.2.2.2.1 p2_s1487.2.2.2.2.2 (p2_s1487_l.map (fun h => (h.1, h.2.1)) ++ p2_s1487_i) 16778 p2_s1487_l 46 = true := by decide +kernel
set_option maxRecDepth 100000 in
theorem p2_s1487_e47 : ck_stpi p2_O p2_s1487_E 348 p2_s1487.1.1 p2_s1487.2.1 p2_s1487.2.2.2.2.1 p2_s1487.2.2.2.2.2 (p2_s1487_l.map (fun h => (h.1, h.2.1)) ++ p2_s1487_i) 16778 p2_s1487_l 47 = true := by decide +kernel
set_option maxRecDepth 100000 in
theorem p2_s1487_e48 : ck_stpi p2_O p2_s1487_E 348 p2_s1487.1.1 p2_s1487.2.1 p2_s1487.2.2.2.2.1 p2_s1487.2.2.2.2.2 (p2_s1487_l.map (fun h => (h.1, h.2.1)) ++ p2_s1487_i) 16778 p2_s1487_l 48 = true := by decide +kernel
set_option maxRecDepth 100000 in
theorem p2_s1487_e49 : ck_stpi p2_O p2_s1487_E 348 p2_s1487.1.1 p2_s1487.2.1 p2_s1487.2.2.2.2.1 p2_s1487.2.2.2.2.2 (p2_s1487_l.map (fun h => (h.1, h.2.1)) ++ p2_s1487_i) 16778 p2_s1487_l 49 = true := by decide +kernel
set_option maxRecDepth 100000 in
theorem p2_s1487_e50 : ck_stpi p2_O p2_s1487_E 348 p2_s1487.1.1 p2_s1487.2.1 p2_s1487.2.2.2.2.1 p2_s1487.2.2.2.2.2 (p2_s1487_l.map (fun h => (h.1, h.2.1)) ++ p2_s1487_i) 16778 p2_s1487_l 50 = true := by decide +kernel
set_option maxRecDepth 100000 in
theorem p2_s1487_e51 : ck_stpi p2_O p2_s1487_E 348 p2_s1487.1.1 p2_s1487.2.1 p2_s1487.2.2.2.2.1 p2_s1487.2.2.2.2.2 (p2_s1487_l.map (fun h => (h.1, h.2.1)) ++ p2_s1487_i) 16778 p2_s1487_l 51 = true := by decide +kernel
set_option maxRecDepth 100000 in
theorem p2_s1487_e52 : ck_stpi p2_O p2_s1487_E 348 p2_s1487.1.1 p2_s1487.2.1 p2_s1487.2.2.2.2.1 p2_s1487.2.2.2.2.2 (p2_s1487_l.map (fun h => (h.1, h.2.1)) ++ p2_s1487_i) 16778 p2_s1487_l 52 = true := by decide +kernel
set_option maxRecDepth 100000 in
theorem p2_s1487_e53 : ck_stpi p2_O p2_s1487_E 348 p2_s1487.1.1 p2_s1487.2.1 p2_s1487.2.2.2.2.1 p2_s1487.2.2.2.2.2 (p2_s1487_l.map (fun h => (h.1, h.2.1)) ++ p2_s1487_i) 16778 p2_s1487_l 53 = true := by decide +kernel
set_option maxRecDepth 100000 in
theorem p2_s1487_e54 : ck_stpi p2_O p2_s1487_E 348 p2_s1487.1.1 p2_s1487.2.1 p2_s1487.2.2.2.2.1 p2_s1487.2.2.2.2.2 (p2_s1487_l.map (fun h => (h.1, h.2.1)) ++ p2_s1487_i) 16778 p2_s1487_l 54 = true := by decide +kernel
set_option maxRecDepth 100000 in
theorem p2_s1487_e55 : ck_stpi p2_O p2_s1487_E 348 p2_s1487.1.1 p2_s1487.2.1 p2_s1487.2.2.2.2.1 p2_s1487.2.2.2.2.2 (p2_s1487_l.map (fun h => (h.1, h.2.1)) ++ p2_s1487_i) 16778 p2_s1487_l 55 = true := by decide +kernel
set_option maxRecDepth 100000 in
theorem p2_s1487_e56 : ck_stpi p2_O p2_s1487_E 348 p2_s1487.1.1 p2_s1487.2.1 p2_s1487.2.2.2.2.1 p2_s1487.2.2.2.2.2 (p2_s1487_l.map (fun h => (h.1, h.2.1)) ++ p2_s1487_i) 16778 p2_s1487_l 56 = true := by decide +kernel
set_option maxRecDepth 100000 in
theorem p2_s1487_e57 : ck_stpi p2_O p2_s1487_E 348 p2_s1487.1.1 p2_s1487.2.1 p2_s1487.2.2.2.2.1 p2_s1487.2.2.2.2.2 (p2_s1487_l.map (fun h => (h.1, h.2.1)) ++ p2_s1487_i) 16778 p2_s1487_l 57 = true := by decide +kernel
set_option maxRecDepth 100000 in
theorem p2_s1487_e58 : ck_stpi p2_O p2_s1487_E 348 p2_s1487.1.1 p2_s1487.2.1 p2_s1487.2.2.2.2.1 p2_s1487.2.2.2.2.2 (p2_s1487_l.map (fun h => (h.1, h.2.1)) ++ p2_s1487_i) 16778 p2_s1487_l 58 = true := by decide +kernel
set_option maxRecDepth 100000 in
theorem p2_s1487_e59 : ck_stpi p2_O p2_s1487_E 348 p2_s1487.1.1 p2_s1487.2.1 p2_s1487.2.2.2.2.1 p2_s1487.2.2.2.2.2 (p2_s1487_l.map (fun h => (h.1, h.2.1)) ++ p2_s1487_i) 16778 p2_s1487_l 59 = true := by decide +kernel
set_option maxRecDepth 100000 in
theorem p2_s1487_e60 : ck_stpi p2_O p2_s1487_E 348 p2_s1487.1.1 p2_s1487.2.1 p2_s1487.2.2.2.2.1 p2_s1487.2.2.2.2.2 (p2_s1487_l.map (fun h => (h.1, h.2.1)) ++ p2_s1487_i) 16778 p2_s1487_l 60 = true := by decide +kernel
set_option maxRecDepth 100000 in
theorem p2_s1487_e61 : ck_stpi p2_O p2_s1487_E 348 p2_s1487.1.1 p2_s1487.2.1 p2_s1487.2.2.2.2.1 p2_s1487.2.2.2.2.2 (p2_s1487_l.map (fun h => (h.1, h.2.1)) ++ p2_s1487_i) 16778 p2_s1487_l 61 = true := by decide +kernel
set_option maxRecDepth 100000 in
theorem p2_s1487_e62 : ck_stpi p2_O p2_s1487_E 348 p2_s1487.1.1 p2_s1487.2.1 p2_s1487.2.2.2.2.1 p2_s1487.2.2.2.2.2 (p2_s1487_l.map (fun h => (h.1, h.2.1)) ++ p2_s1487_i) 16778 p2_s1487_l 62 = true := by decide +kernel
set_option maxRecDepth 100000 in
theorem p2_s1487_e63 : ck_stpi p2_O p2_s1487_E 348 p2_s1487.1.1 p2_s1487.2.1 p2_s1487.2.2.2.2.1 p2_s1487.2.2.2.2.2 (p2_s1487_l.map (fun h => (h.1, h.2.1)) ++ p2_s1487_i) 16778 p2_s1487_l 63 = true := by decide +kernel
set_option maxRecDepth 100000 in
theorem p2_s1487_e64 : ck_stpi p2_O p2_s1487_E 348 p2_s1487.1.1 p2_s1487.2.1 p2_s1487.2.2.2.2.1 p2_s1487.2.2.2.2.2 (p2_s1487_l.map (fun h => (h.1, h.2.1)) ++ p2_s1487_i) 16778 p2_s1487_l 64 = true := by decide +kernel
set_option maxRecDepth 100000 in
theorem p2_s1487_e65 : ck_stpi p2_O p2_s1487_E 348 p2_s1487.1.1 p2_s1487.2.1 p2_s1487.2.2.2.2.1 p2_s1487.2.2.2.2.2 (p2_s1487_l.map (fun h => (h.1, h.2.1)) ++ p2_s1487_i) 16778 p2_s1487_l 65 = true := by decide +kernel
set_option maxRecDepth 100000 in
theorem p2_s1487_e66 : ck_stpi p2_O p2_s1487_E 348 p2_s1487.1.1 p2_s1487.2.1 p2_s1487.2.2.2.2.1 p2_s1487.2.2.2.2.2 (p2_s1487_l.map (fun h => (h.1, h.2.1)) ++ p2_s1487_i) 16778 p2_s1487_l 66 = true := by decide +kernel
set_option maxRecDepth 100000 in
theorem p2_s1487_e67 : ck_stpi p2_O p2_s1487_E 348 p2_s1487.1.1 p2_s1487.2.1 p2_s1487.2.2.2.2.1 p2_s1487.2.2.2.2.2 (p2_s1487_l.map (fun h => (h.1, h.2.1)) ++ p2_s1487_i) 16778 p2_s1487_l 67 = true := by decide +kernel
set_option maxRecDepth 100000 in
theorem p2_s1487_e68 : ck_stpi p2_O p2_s1487_E 348 p2_s1487.1.1 p2_s1487.2.1 p2_s1487.2.2.2.2.1 p2_s1487.2.2.2.2.2 (p2_s1487_l.map (fun h => (h.1, h.2.1)) ++ p2_s1487_i) 16778 p2_s1487_l 68 = true := by decide +kernel
set_option maxRecDepth 100000 in
theorem p2_s1487_e69 : ck_stpi p2_O p2_s1487_E 348 p2_s1487.1.1 p2_s1487.2.1 p2_s1487.2.2.2.2.1 p2_s1487.2.2.2.2.2 (p2_s1487_l.map (fun h => (h.1, h.2.1)) ++ p2_s1487_i) 16778 p2_s1487_l 69 = true := by decide +kernel
set_option maxRecDepth 100000 in
theorem p2_s1487_e70 : ck_stpi p2_O p2_s1487_E 348 p2_s1487.1.1 p2_s1487.2.1 p2_s1487.2.2.2.2.1 p2_s1487.2.2.2.2.2 (p2_s1487_l.map (fun h => (h.1, h.2.1)) ++ p2_s1487_i) 16778 p2_s1487_l 70 = true := by decide +kernel
set_option maxRecDepth 100000 in
theorem p2_s1487_e71 : ck_stpi p2_O p2_s1487_E 348 p2_s1487.1.1 p2_s1487.2.1 p2_s1487.2.2.2.2.1 p2_s1487.2.2.2.2.2 (p2_s1487_l.map (fun h => (h.1, h.2.1)) ++ p2_s1487_i) 16778 p2_s1487_l 71 = true := by decide +kernel
set_option maxRecDepth 100000 in
theorem p2_s1487_e72 : ck_stpi p2_O p2_s1487_E 348 p2_s1487.1.1 p2_s1487.2.1 p2_s1487.2.2.2.2.1 p2_s1487.2.2.2.2.2 (p2_s1487_l.map (fun h => (h.1, h.2.1)) ++ p2_s1487_i) 16778 p2_s1487_l 72 = true := by decide +kernel
set_option maxRecDepth 100000 in
theorem p2_s1487_e73 : ck_stpi p2_O p2_s1487_E 348 p2_s1487.1.1 p2_s1487.2.1 p2_s1487.2.2.2.2.1 p2_s1487.2.2.2.2.2 (p2_s1487_l.map (fun h => (h.1, h.2.1)) ++ p2_s1487_i) 16778 p2_s1487_l 73 = true := by decide +kernel
set_option maxRecDepth 100000 in
theorem p2_s1487_e74 : ck_stpi p2_O p2_s1487_E 348 p2_s1487.1.1 p2_s1487.2.1 p2_s1487.2.2.2.2.1 p2_s1487.2.2.2.2.2 (p2_s1487_l.map (fun h => (h.1, h.2.1)) ++ p2_s1487_i) 16778 p2_s1487_l 74 = true := by decide +kernel
set_option maxRecDepth 100000 in
theorem p2_s1487_e75 : ck_stpi p2_O p2_s1487_E 348 p2_s1487.1.1 p2_s1487.2.1 p2_s1487.2.2.2.2.1 p2_s1487.2.2.2.2.2 (p2_s1487_l.map (fun h => (h.1, h.2.1)) ++ p2_s1487_i) 16778 p2_s1487_l 75 = true := by decide +kernel
set_option maxRecDepth 100000 in
theorem p2_s1487_e76 : ck_stpi p2_O p2_s1487_E 348 p2_s1487.1.1 p2_s1487.2.1 p2_s1487.2.2.2.2.1 p2_s1487.2.2.2.2.2 (p2_s1487_l.map (fun h => (h.1, h.2.1)) ++ p2_s1487_i) 16778 p2_s1487_l 76 = true := by decide +kernel
set_option maxRecDepth 100000 in
theorem p2_s1487_e77 : ck_stpi p2_O p2_s1487_E 348 p2_s1487.1.1 p2_s1487.2.1 p2_s1487.2.2.2.2.1 p2_s1487.2.2.2.2.2 (p2_s1487_l.map (fun h => (h.1, h.2.1)) ++ p2_s1487_i) 16778 p2_s1487_l 77 = true := by decide +kernel
set_option maxRecDepth 100000 in
theorem p2_s1487_e78 : ck_stpi p2_O p2_s1487_E 348 p2_s1487.1.1 p2_s1487.2.1 p2_s1487.2.2.2.2.1 p2_s1487.2.2.2.2.2 (p2_s1487_l.map (fun h => (h.1, h.2.1)) ++ p2_s1487_i) 16778 p2_s1487_l 78 = true := by decide +kernel
set_option maxRecDepth 100000 in
theorem p2_s1487_e79 : ck_stpi p2_O p2_s1487_E 348 p2_s1487.1.1 p2_s1487.2.1 p2_s1487.2.2.2.2.1 p2_s1487.2.2.2.2.2 (p2_s1487_l.map (fun h => (h.1, h.2.1)) ++ p2_s1487_i) 16778 p2_s1487_l 79 = true := by decide +kernel
set_option maxRecDepth 100000 in
theorem p2_s1487_e80 : ck_stpi p2_O p2_s1487_E 348 p2_s1487.1.1 p2_s1487.2.1 p2_s1487.2.2.2.2.1 p2_s1487.2.2.2.2.2 (p2_s1487_l.map (fun h => (h.1, h.2.1)) ++ p2_s1487_i) 16778 p2_s1487_l 80 = true := by decide +kernel
set_option maxRecDepth 100000 in
theorem p2_s1487_e81 : ck_stpi p2_O p2_s1487_E 348 p2_s1487.1.1 p2_s1487.2.1 p2_s1487.2.2.2.2.1 p2_s1487.2.2.2.2.2 (p2_s1487_l.map (fun h => (h.1, h.2.1)) ++ p2_s1487_i) 16778 p2_s1487_l 81 = true := by decide +kernel
set_option maxRecDepth 100000 in
theorem p2_s1487_e82 : ck_stpi p2_O p2_s1487_E 348 p2_s1487.1.1 p2_s1487.2.1 p2_s1487.2.2.2.2.1 p2_s1487.2.2.2.2.2 (p2_s1487_l.map (fun h => (h.1, h.2.1)) ++ p2_s1487_i) 16778 p2_s1487_l 82 = true := by decide +kernel
set_option maxRecDepth 100000 in
theorem p2_s1487_e83 : ck_stpi p2_O p2_s1487_E 348 p2_s1487.1.1 p2_s1487.2.1 p2_s1487.2.2.2.2.1 p2_s1487.2.2.2.2.2 (p2_s1487_l.map (fun h => (h.1, h.2.1)) ++ p2_s1487_i) 16778 p2_s1487_l 83 = true := by decide +kernel
set_option maxRecDepth 100000 in
theorem p2_s1487_e84 : ck_stpi p2_O p2_s1487_E 348 p2_s1487.1.1 p2_s1487.2.1 p2_s1487.2.2.2.2.1 p2_s1487.2.2.2.2.2 (p2_s1487_l.map (fun h => (h.1, h.2.1)) ++ p2_s1487_i) 16778 p2_s1487_l 84 = true := by decide +kernel
set_option maxRecDepth 100000 in
theorem p2_s1487_e85 : ck_stpi p2_O p2_s1487_E 348 p2_s1487.1.1 p2_s1487.2.1 p2_s1487.2.2.2.2.1 p2_s1487.2.2.2.2.2 (p2_s1487_l.map (fun h => (h.1, h.2.1)) ++ p2_s1487_i) 16778 p2_s1487_l 85 = true := by decide +kernel
set_option maxRecDepth 100000 in
theorem p2_s1487_e86 : ck_stpi p2_O p2_s1487_E 348 p2_s1487.1.1 p2_s1487.2.1 p2_s1487.2.2.2.2.1 p2_s1487.2.2.2.2.2 (p2_s1487_l.map (fun h => (h.1, h.2.1)) ++ p2_s1487_i) 16778 p2_s1487_l 86 = true := by decide +kernel
set_option maxRecDepth 100000 in
theorem p2_s1487_e87 : ck_stpi p2_O p2_s1487_E 348 p2_s1487.1.1 p2_s1487.2.1 p2_s1487.2.2.2.2.1 p2_s1487.2.2.2.2.2 (p2_s1487_l.map (fun h => (h.1, h.2.1)) ++ p2_s1487_i) 16778 p2_s1487_l 87 = true := by decide +kernel
set_option maxRecDepth 100000 in
theorem p2_s1487_e88 : ck_stpi p2_O p2_s1487_E 348 p2_s1487.1.1 p2_s1487.2.1 p2_s1487.2.2.2.2.1 p2_s1487.2.2.2.2.2 (p2_s1487_l.map (fun h => (h.1, h.2.1)) ++ p2_s1487_i) 16778 p2_s1487_l 88 = true := by decide +kernel
set_option maxRecDepth 100000 in
theorem p2_s1487_e89 : ck_stpi p2_O p2_s1487_E 348 p2_s1487.1.1 p2_s1487.2.1 p2_s1487.2.2.2.2.1 p2_s1487.2.2.2.2.2 (p2_s1487_l.map (fun h => (h.1, h.2.1)) ++ p2_s1487_i) 16778 p2_s1487_l 89 = true := by decide +kernel
set_option maxRecDepth 100000 in
theorem p2_s1487_e90 : ck_stpi p2_O p2_s1487_E 348 p2_s1487.1.1 p2_s1487.2.1 p2_s1487.2.2.2.2.1 p2_s1487.2.2.2.2.2 (p2_s1487_l.map (fun h => (h.1, h.2.1)) ++ p2_s1487_i) 16778 p2_s1487_l 90 = true := by decide +kernel
set_option maxRecDepth 100000 in
theorem p2_s1487_e91 : ck_stpi p2_O p2_s1487_E 348 p2_s1487.1.1 p2_s1487.2.1 p2_s1487.2.2.2.2.1 p2_s1487.2.2.2.2.2 (p2_s1487_l.map (fun h => (h.1, h.2.1)) ++ p2_s1487_i) 16778 p2_s1487_l 91 = true := by decide +kernel
set_option maxRecDepth 100000 in
theorem p2_s1487_e92 : ck_stpi p2_O p2_s1487_E 348 p2_s1487.1.1 p2_s1487.2.1 p2_s1487.2.2.2.2.1 p2_s1487.2.2.2.2.2 (p2_s1487_l.map (fun h => (h.1, h.2.1)) ++ p2_s1487_i) 16778 p2_s1487_l 92 = true := by decide +kernel
set_option maxRecDepth 100000 in
theorem p2_s1487_e93 : ck_stpi p2_O p2_s1487_E 348 p2_s1487.1.1 p2_s1487.2.1 p2_s1487.2.2.2.2.1 p2_s1487.2.2.2.2.2 (p2_s1487_l.map (fun h => (h.1, h.2.1)) ++ p2_s1487_i) 16778 p2_s1487_l 93 = true := by decide +kernel
set_option maxRecDepth 100000 in
theorem p2_s1487_e94 : ck_stpi p2_O p2_s1487_E 348 p2_s1487.1.1 p2_s1487.2.1 p2_s1487.2.2.2.2.1 p2_s1487.2.2.2.2.2 (p2_s1487_l.map (fun h => (h.1, h.2.1)) ++ p2_s1487_i) 16778 p2_s1487_l 94 = true := by decide +kernel
set_option maxRecDepth 100000 in
theorem p2_s1487_e95 : ck_stpi p2_O p2_s1487_E 348 p2_s1487.1.1 p2_s1487.2.1 p2_s1487.2.2.2.2.1 p2_s1487.2.2.2.2.2 (p2_s1487_l.map (fun h => (h.1, h.2.1)) ++ p2_s1487_i) 16778 p2_s1487_l 95 = true := by decide +kernel
set_option maxRecDepth 100000 in
theorem p2_s1487_e96 : ck_stpi p2_O p2_s1487_E 348 p2_s1487.1.1 p2_s1487.2.1 p2_s1487.2.2.2.2.1 p2_s1487.2.2.2.2.2 (p2_s1487_l.map (fun h => (h.1, h.2.1)) ++ p2_s1487_i) 16778 p2_s1487_l 96 = true := by decide +kernel
set_option maxRecDepth 100000 in
theorem p2_s1487_e97 : ck_stpi p2_O p2_s1487_E 348 p2_s1487.1.1 p2_s1487.2.1 p2_s1487.2.2.2.2.1 p2_s1487.2.2.2.2.2 (p2_s1487_l.map (fun h => (h.1, h.2.1)) ++ p2_s1487_i) 16778 p2_s1487_l 97 = true := by decide +kernel
set_option maxRecDepth 100000 in
theorem p2_s1487_e98 : ck_stpi p2_O p2_s1487_E 348 p2_s1487.1.1 p2_s1487.2.1 p2_s1487.2.2.2.2.1 p2_s1487.2.2.2.2.2 (p2_s1487_l.map (fun h => (h.1, h.2.1)) ++ p2_s1487_i) 16778 p2_s1487_l 98 = true := by decide +kernel
set_option maxRecDepth 100000 in
theorem p2_s1487_e99 : ck_stpi p2_O p2_s1487_E 348 p2_s1487.1.1 p2_s1487.2.1 p2_s1487.2.2.2.2.1 p2_s1487.2.2.2.2.2 (p2_s1487_l.map (fun h => (h.1, h.2.1)) ++ p2_s1487_i) 16778 p2_s1487_l 99 = true := by decide +kernel
set_option maxRecDepth 100000 in
theorem p2_s1487_e100 : ck_stpi p2_O p2_s1487_E 348 p2_s1487.1.1 p2_s1487.2.1 p2_s1487.2.2.2.2.1 p2_s1487.2.2.2.2.2 (p2_s1487_l.map (fun h => (h.1, h.2.1)) ++ p2_s1487_i) 16778 p2_s1487_l 100 = true := by decide +kernel
set_option maxRecDepth 100000 in
theorem p2_s1487_e101 : ck_stpi p2_O p2_s1487_E 348 p2_s1487.1.1 p2_s1487.2.1 p2_s1487.2.2.2.2.1 p2_s1487.2.2.2.2.2 (p2_s1487_l.map (fun h => (h.1, h.2.1)) ++ p2_s1487_i) 16778 p2_s1487_l 101 = true := by decide +kernel
set_option maxRecDepth 100000 in
theorem p2_s1487_e102 : ck_stpi p2_O p2_s1487_E 348 p2_s1487.1.1 p2_s1487.2.1 p2_s1487.2.2.2.2.1 p2_s1487.2.2.2.2.2 (p2_s1487_l.map (fun h => (h.1, h.2.1)) ++ p2_s1487_i) 16778 p2_s1487_l 102 = true := by decide +kernel
set_option maxRecDepth 100000 in
theorem p2_s1487_e103 : ck_stpi p2_O p2_s1487_E 348 p2_s1487.1.1 p2_s1487.2.1 p2_s1487.2.2.2.2.1 p2_s1487.2.2.2.2.2 (p2_s1487_l.map (fun h => (h.1, h.2.1)) ++ p2_s1487_i) 16778 p2_s1487_l 103 = true := by decide +kernel
set_option maxRecDepth 100000 in
theorem p2_s1487_e104 : ck_stpi p2_O p2_s1487_E 348 p2_s1487.1.1 p2_s1487.2.1 p2_s1487.2.2.2.2.1 p2_s1487.2.2.2.2.2 (p2_s1487_l.map (fun h => (h.1, h.2.1)) ++ p2_s1487_i) 16778 p2_s1487_l 104 = true := by decide +kernel
set_option maxRecDepth 100000 in
theorem p2_s1487_e105 : ck_stpi p2_O p2_s1487_E 348 p2_s1487.1.1 p2_s1487.2.1 p2_s1487.2.2.2.2.1 p2_s1487.2.2.2.2.2 (p2_s1487_l.map (fun h => (h.1, h.2.1)) ++ p2_s1487_i) 16778 p2_s1487_l 105 = true := by decide +kernel
set_option maxRecDepth 100000 in
theorem p2_s1487_e106 : ck_stpi p2_O p2_s1487_E 348 p2_s1487.1.1 p2_s1487.2.1 p2_s1487.2.2.2.2.1 p2_s1487.2.2.2.2.2 (p2_s1487_l.map (fun h => (h.1, h.2.1)) ++ p2_s1487_i) 16778 p2_s1487_l 106 = true := by decide +kernel
set_option maxRecDepth 100000 in
theorem p2_s1487_e107 : ck_stpi p2_O p2_s1487_E 348 p2_s1487.1.1 p2_s1487.2.1 p2_s1487.2.2.2.2.1 p2_s1487.2.2.2.2.2 (p2_s1487_l.map (fun h => (h.1, h.2.1)) ++ p2_s1487_i) 16778 p2_s1487_l 107 = true := by decide +kernel
set_option maxRecDepth 100000 in
theorem p2_s1487_e108 : ck_stpi p2_O p2_s1487_E 348 p2_s1487.1.1 p2_s1487.2.1 p2_s1487.2.2.2.2.1 p2_s1487.2.2.2.2.2 (p2_s1487_l.map (fun h => (h.1, h.2.1)) ++ p2_s1487_i) 16778 p2_s1487_l 108 = true := by decide +kernel
set_option maxRecDepth 100000 in
theorem p2_s1487_e109 : ck_stpi p2_O p2_s1487_E 348 p2_s1487.1.1 p2_s1487.2.1 p2_s1487.2.2.2.2.1 p2_s1487.2.2.2.2.2 (p2_s1487_l.map (fun h => (h.1, h.2.1)) ++ p2_s1487_i) 16778 p2_s1487_l 109 = true := by decide +kernel
set_option maxRecDepth 100000 in
theorem p2_s1487_e110 : ck_stpi p2_O p2_s1487_E 348 p2_s1487.1.1 p2_s1487.2.1 p2_s1487.2.2.2.2.1 p2_s1487.2.2.2.2.2 (p2_s1487_l.map (fun h => (h.1, h.2.1)) ++ p2_s1487_i) 16778 p2_s1487_l 110 = true := by decide +kernel
set_option maxRecDepth 100000 in
theorem p2_s1487_e111 : ck_stpi p2_O p2_s1487_E 348 p2_s1487.1.1 p2_s1487.2.1 p2_s1487.2.2.2.2.1 p2_s1487.2.2.2.2.2 (p2_s1487_l.map (fun h => (h.1, h.2.1)) ++ p2_s1487_i) 16778 p2_s1487_l 111 = true := by decide +kernel
set_option maxRecDepth 100000 in
theorem p2_s1487_e112 : ck_stpi p2_O p2_s1487_E 348 p2_s1487.1.1 p2_s1487.2.1 p2_s1487.2.2.2.2.1 p2_s1487.2.2.2.2.2 (p2_s1487_l.map (fun h => (h.1, h.2.1)) ++ p2_s1487_i) 16778 p2_s1487_l 112 = true := by decide +kernel
set_option maxRecDepth 100000 in
theorem p2_s1487_e113 : ck_stpi p2_O p2_s1487_E 348 p2_s1487.1.1 p2_s1487.2.1 p2_s1487.2.2.2.2.1 p2_s1487.2.2.2.2.2 (p2_s1487_l.map (fun h => (h.1, h.2.1)) ++ p2_s1487_i) 16778 p2_s1487_l 113 = true := by decide +kernel
set_option maxRecDepth 100000 in
theorem p2_s1487_e114 : ck_stpi p2_O p2_s1487_E 348 p2_s1487.1.1 p2_s1487.2.1 p2_s1487.2.2.2.2.1 p2_s1487.2.2.2.2.2 (p2_s1487_l.map (fun h => (h.1, h.2.1)) ++ p2_s1487_i) 16778 p2_s1487_l 114 = true := by decide +kernel
set_option maxRecDepth 100000 in
theorem p2_s1487_e115 : ck_stpi p2_O p2_s1487_E 348 p2_s1487.1.1 p2_s1487.2.1 p2_s1487.2.2.2.2.1 p2_s1487.2.2.2.2.2 (p2_s1487_l.map (fun h => (h.1, h.2.1)) ++ p2_s1487_i) 16778 p2_s1487_l 115 = true := by decide +kernel
set_option maxRecDepth 100000 in
theorem p2_s1487_e116 : ck_stpi p2_O p2_s1487_E 348 p2_s1487.1.1 p2_s1487.2.1 p2_s1487.2.2.2.2.1 p2_s1487.2.2.2.2.2 (p2_s1487_l.map (fun h => (h.1, h.2.1)) ++ p2_s1487_i) 16778 p2_s1487_l 116 = true := by decide +kernel
set_option maxRecDepth 100000 in
theorem p2_s1487_e117 : ck_stpi p2_O p2_s1487_E 348 p2_s1487.1.1 p2_s1487.2.1 p2_s1487.2.2.2.2.1 p2_s1487.2.2.2.2.2 (p2_s1487_l.map (fun h => (h.1, h.2.1)) ++ p2_s1487_i) 16778 p2_s1487_l 117 = true := by decide +kernel
set_option maxRecDepth 100000 in
theorem p2_s1487_e118 : ck_stpi p2_O p2_s1487_E 348 p2_s1487.1.1 p2_s1487.2.1 p2_s1487.2.2.2.2.1 p2_s1487.2.2.2.2.2 (p2_s1487_l.map (fun h => (h.1, h.2.1)) ++ p2_s1487_i) 16778 p2_s1487_l 118 = true := by decide +kernel
set_option maxRecDepth 100000 in
theorem p2_s1487_e119 : ck_stpi p2_O p2_s1487_E 348 p2_s1487.1.1 p2_s1487.2.1 p2_s1487.2.2.2.2.1 p2_s1487.2.2.2.2.2 (p2_s1487_l.map (fun h => (h.1, h.2.1)) ++ p2_s1487_i) 16778 p2_s1487_l 119 = true := by decide +kernel
set_option maxRecDepth 100000 in
theorem p2_s1487_e120 : ck_stpi p2_O p2_s1487_E 348 p2_s1487.1.1 p2_s1487.2.1 p2_s1487.2.2.2.2.1 p2_s1487.2.2.2.2.2 (p2_s1487_l.map (fun h => (h.1, h.2.1)) ++ p2_s1487_i) 16778 p2_s1487_l 120 = true := by decide +kernel
set_option maxRecDepth 100000 in
theorem p2_s1487_e121 : ck_stpi p2_O p2_s1487_E 348 p2_s1487.1.1 p2_s1487.2.1 p2_s1487.2.2.2.2.1 p2_s1487.2.2.2.2.2 (p2_s1487_l.map (fun h => (h.1, h.2.1)) ++ p2_s1487_i) 16778 p2_s1487_l 121 = true := by decide +kernel
set_option maxRecDepth 100000 in
theorem p2_s1487_e122 : ck_stpi p2_O p2_s1487_E 348 p2_s1487.1.1 p2_s1487.2.1 p2_s1487.2.2.2.2.1 p2_s1487.2.2.2.2.2 (p2_s1487_l.map (fun h => (h.1, h.2.1)) ++ p2_s1487_i) 16778 p2_s1487_l 122 = true := by decide +kernel
set_option maxRecDepth 100000 in
theorem p2_s1487_e123 : ck_stpi p2_O p2_s1487_E 348 p2_s1487.1.1 p2_s1487.2.1 p2_s1487.2.2.2.2.1 p2_s1487.2.2.2.2.2 (p2_s1487_l.map (fun h => (h.1, h.2.1)) ++ p2_s1487_i) 16778 p2_s1487_l 123 = true := by decide +kernel
set_option maxRecDepth 100000 in
theorem p2_s1487_e124 : ck_stpi p2_O p2_s1487_E 348 p2_s1487.1.1 p2_s1487.2.1 p2_s1487.2.2.2.2.1 p2_s1487.2.2.2.2.2 (p2_s1487_l.map (fun h => (h.1, h.2.1)) ++ p2_s1487_i) 16778 p2_s1487_l 124 = true := by decide +kernel
set_option maxRecDepth 100000 in
theorem p2_s1487_e125 : ck_stpi p2_O p2_s1487_E 348 p2_s1487.1.1 p2_s1487.2.1 p2_s1487.2.2.2.2.1 p2_s1487.2.2.2.2.2 (p2_s1487_l.map (fun h => (h.1, h.2.1)) ++ p2_s1487_i) 16778 p2_s1487_l 125 = true := by decide +kernel
set_option maxRecDepth 100000 in
theorem p2_s1487_e126 : ck_stpi p2_O p2_s1487_E 348 p2_s1487.1.1 p2_s1487.2.1 p2_s1487.2.2.2.2.1 p2_s1487.2.2.2.2.2 (p2_s1487_l.map (fun h => (h.1, h.2.1)) ++ p2_s1487_i) 16778 p2_s1487_l 126 = true := by decide +kernel
set_option maxRecDepth 100000 in
theorem p2_s1487_e127 : ck_stpi p2_O p2_s1487_E 348 p2_s1487.1.1 p2_s1487.2.1 p2_s1487.2.2.2.2.1 p2_s1487.2.2.2.2.2 (p2_s1487_l.map (fun h => (h.1, h.2.1)) ++ p2_s1487_i) 16778 p2_s1487_l 127 = true := by decide +kernel
set_option maxRecDepth 100000 in
theorem p2_s1487_e128 : ck_stpi p2_O p2_s1487_E 348 p2_s1487.1.1 p2_s1487.2.1 p2_s1487.2.2.2.2.1 p2_s1487.2.2.2.2.2 (p2_s1487_l.map (fun h => (h.1, h.2.1)) ++ p2_s1487_i) 16778 p2_s1487_l 128 = true := by decide +kernel
set_option maxRecDepth 100000 in
theorem p2_s1487_e129 : ck_stpi p2_O p2_s1487_E 348 p2_s1487.1.1 p2_s1487.2.1 p2_s1487.2.2.2.2.1 p2_s1487.2.2.2.2.2 (p2_s1487_l.map (fun h => (h.1, h.2.1)) ++ p2_s1487_i) 16778 p2_s1487_l 129 = true := by decide +kernel
set_option maxRecDepth 100000 in
theorem p2_s1487_e130 : ck_stpi p2_O p2_s1487_E 348 p2_s1487.1.1 p2_s1487.2.1 p2_s1487.2.2.2.2.1 p2_s1487.2.2.2.2.2 (p2_s1487_l.map (fun h => (h.1, h.2.1)) ++ p2_s1487_i) 16778 p2_s1487_l 130 = true := by decide +kernel
set_option maxRecDepth 100000 in
theorem p2_s1487_e131 : ck_stpi p2_O p2_s1487_E 348 p2_s1487.1.1 p2_s1487.2.1 p2_s1487.2.2.2.2.1 p2_s1487.2.2.2.2.2 (p2_s1487_l.map (fun h => (h.1, h.2.1)) ++ p2_s1487_i) 16778 p2_s1487_l 131 = true := by decide +kernel
set_option maxRecDepth 100000 in
theorem p2_s1487_e132 : ck_stpi p2_O p2_s1487_E 348 p2_s1487.1.1 p2_s1487.2.1 p2_s1487.2.2.2.2.1 p2_s1487.2.2.2.2.2 (p2_s1487_l.map (fun h => (h.1, h.2.1)) ++ p2_s1487_i) 16778 p2_s1487_l 132 = true := by decide +kernel
set_option maxRecDepth 100000 in
theorem p2_s1487_e133 : ck_stpi p2_O p2_s1487_E 348 p2_s1487.1.1 p2_s1487.2.1 p2_s1487.2.2.2.2.1 p2_s1487.2.2.2.2.2 (p2_s1487_l.map (fun h => (h.1, h.2.1)) ++ p2_s1487_i) 16778 p2_s1487_l 133 = true := by decide +kernel
set_option maxRecDepth 100000 in
theorem p2_s1487_e134 : ck_stpi p2_O p2_s1487_E 348 p2_s1487.1.1 p2_s1487.2.1 p2_s1487.2.2.2.2.1 p2_s1487.2.2.2.2.2 (p2_s1487_l.map (fun h => (h.1, h.2.1)) ++ p2_s1487_i) 16778 p2_s1487_l 134 = true := by decide +kernel
set_option maxRecDepth 100000 in
theorem p2_s1487_e135 : ck_stpi p2_O p2_s1487_E 348 p2_s1487.1.1 p2_s1487.2.1 p2_s1487.2.2.2.2.1 p2_s1487.2.2.2.2.2 (p2_s1487_l.map (fun h => (h.1, h.2.1)) ++ p2_s1487_i) 16778 p2_s1487_l 135 = true := by decide +kernel
set_option maxRecDepth 100000 in
theorem p2_s1487_e136 : ck_stpi p2_O p2_s1487_E 348 p2_s1487.1.1 p2_s1487.2.1 p2_s1487.2.2.2.2.1 p2_s1487.2.2.2.2.2 (p2_s1487_l.map (fun h => (h.1, h.2.1)) ++ p2_s1487_i) 16778 p2_s1487_l 136 = true := by decide +kernel
set_option maxRecDepth 100000 in
theorem p2_s1487_e137 : ck_stpi p2_O p2_s1487_E 348 p2_s1487.1.1 p2_s1487.2.1 p2_s1487.2.2.2.2.1 p2_s1487.2.2.2.2.2 (p2_s1487_l.map (fun h => (h.1, h.2.1)) ++ p2_s1487_i) 16778 p2_s1487_l 137 = true := by decide +kernel
set_option maxRecDepth 100000 in
theorem p2_s1487_e138 : ck_stpi p2_O p2_s1487_E 348 p2_s1487.1.1 p2_s1487.2.1 p2_s1487.2.2.2.2.1 p2_s1487.2.2.2.2.2 (p2_s1487_l.map (fun h => (h.1, h.2.1)) ++ p2_s1487_i) 16778 p2_s1487_l 138 = true := by decide +kernel
set_option maxRecDepth 100000 in
theorem p2_s1487_e139 : ck_stpi p2_O p2_s1487_E 348 p2_s1487.1.1 p2_s1487.2.1 p2_s1487.2.2.2.2.1 p2_s1487.2.2.2.2.2 (p2_s1487_l.map (fun h => (h.1, h.2.1)) ++ p2_s1487_i) 16778 p2_s1487_l 139 = true := by decide +kernel
set_option maxRecDepth 100000 in
theorem p2_s1487_e140 : ck_stpi p2_O p2_s1487_E 348 p2_s1487.1.1 p2_s1487.2.1 p2_s1487.2.2.2.2.1 p2_s1487.2.2.2.2.2 (p2_s1487_l.map (fun h => (h.1, h.2.1)) ++ p2_s1487_i) 16778 p2_s1487_l 140 = true := by decide +kernel
set_option maxRecDepth 100000 in
theorem p2_s1487_e141 : ck_stpi p2_O p2_s1487_E 348 p2_s1487.1.1 p2_s1487.2.1 p2_s1487.2.2.2.2.1 p2_s1487.2.2.2.2.2 (p2_s1487_l.map (fun h => (h.1, h.2.1)) ++ p2_s1487_i) 16778 p2_s1487_l 141 = true := by decide +kernel
set_option maxRecDepth 100000 in
theorem p2_s1487_e142 : ck_stpi p2_O p2_s1487_E 348 p2_s1487.1.1 p2_s1487.2.1 p2_s1487.2.2.2.2.1 p2_s1487.2.2.2.2.2 (p2_s1487_l.map (fun h => (h.1, h.2.1)) ++ p2_s1487_i) 16778 p2_s1487_l 142 = true := by decide +kernel
set_option maxRecDepth 100000 in
theorem p2_s1487_e143 : ck_stpi p2_O p2_s1487_E 348 p2_s1487.1.1 p2_s1487.2.1 p2_s1487.2.2.2.2.1 p2_s1487.2.2.2.2.2 (p2_s1487_l.map (fun h => (h.1, h.2.1)) ++ p2_s1487_i) 16778 p2_s1487_l 143 = true := by decide +kernel
set_option maxRecDepth 100000 in
theorem p2_s1487_e144 : ck_stpi p2_O p2_s1487_E 348 p2_s1487.1.1 p2_s1487.2.1 p2_s1487.2.2.2.2.1 p2_s1487.2.2.2.2.2 (p2_s1487_l.map (fun h => (h.1, h.2.1)) ++ p2_s1487_i) 16778 p2_s1487_l 144 = true := by decide +kernel
set_option maxRecDepth 100000 in
theorem p2_s1487_e145 : ck_stpi p2_O p2_s1487_E 348 p2_s1487.1.1 p2_s1487.2.1 p2_s1487.2.2.2.2.1 p2_s1487.2.2.2.2.2 (p2_s1487_l.map (fun h => (h.1, h.2.1)) ++ p2_s1487_i) 16778 p2_s1487_l 145 = true := by decide +kernel
set_option maxRecDepth 100000 in
theorem p2_s1487_e146 : ck_stpi p2_O p2_s1487_E 348 p2_s1487.1.1 p2_s1487.2.1 p2_s1487.2.2.2.2.1 p2_s1487.2.2.2.2.2 (p2_s1487_l.map (fun h => (h.1, h.2.1)) ++ p2_s1487_i) 16778 p2_s1487_l 146 = true := by decide +kernel
set_option maxRecDepth 100000 in
theorem p2_s1487_e147 : ck_stpi p2_O p2_s1487_E 348 p2_s1487.1.1 p2_s1487.2.1 p2_s1487.2.2.2.2.1 p2_s1487.2.2.2.2.2 (p2_s1487_l.map (fun h => (h.1, h.2.1)) ++ p2_s1487_i) 16778 p2_s1487_l 147 = true := by decide +kernel
set_option maxRecDepth 100000 in
theorem p2_s1487_e148 : ck_stpi p2_O p2_s1487_E 348 p2_s1487.1.1 p2_s1487.2.1 p2_s1487.2.2.2.2.1 p2_s1487.2.2.2.2.2 (p2_s1487_l.map (fun h => (h.1, h.2.1)) ++ p2_s1487_i) 16778 p2_s1487_l 148 = true := by decide +kernel
set_option maxRecDepth 100000 in
theorem p2_s1487_e149 : ck_stpi p2_O p2_s1487_E 348 p2_s1487.1.1 p2_s1487.2.1 p2_s1487.2.2.2.2.1 p2_s1487.2.2.2.2.2 (p2_s1487_l.map (fun h => (h.1, h.2.1)) ++ p2_s1487_i) 16778 p2_s1487_l 149 = true := by decide +kernel
set_option maxRecDepth 100000 in
theorem p2_s1487_e150 : ck_stpi p2_O p2_s1487_E 348 p2_s1487.1.1 p2_s1487.2.1 p2_s1487.2.2.2.2.1 p2_s1487.2.2.2.2.2 (p2_s1487_l.map (fun h => (h.1, h.2.1)) ++ p2_s1487_i) 16778 p2_s1487_l 150 = true := by decide +kernel
set_option maxRecDepth 100000 in
theorem p2_s1487_e151 : ck_stpi p2_O p2_s1487_E 348 p2_s1487.1.1 p2_s1487.2.1 p2_s1487.2.2.2.2.1 p2_s1487.2.2.2.2.2 (p2_s1487_l.map (fun h => (h.1, h.2.1)) ++ p2_s1487_i) 16778 p2_s1487_l 151 = true := by decide +kernel
set_option maxRecDepth 100000 in
theorem p2_s1487_e152 : ck_stpi p2_O p2_s1487_E 348 p2_s1487.1.1 p2_s1487.2.1 p2_s1487.2.2.2.2.1 p2_s1487.2.2.2.2.2 (p2_s1487_l.map (fun h => (h.1, h.2.1)) ++ p2_s1487_i) 16778 p2_s1487_l 152 = true := by decide +kernel
set_option maxRecDepth 100000 in
theorem p2_s1487_e153 : ck_stpi p2_O p2_s1487_E 348 p2_s1487.1.1 p2_s1487.2.1 p2_s1487.2.2.2.2.1 p2_s1487.2.2.2.2.2 (p2_s1487_l.map (fun h => (h.1, h.2.1)) ++ p2_s1487_i) 16778 p2_s1487_l 153 = true := by decide +kernel
set_option maxRecDepth 100000 in
theorem p2_s1487_e154 : ck_stpi p2_O p2_s1487_E 348 p2_s1487.1.1 p2_s1487.2.1 p2_s1487.2.2.2.2.1 p2_s1487.2.2.2.2.2 (p2_s1487_l.map (fun h => (h.1, h.2.1)) ++ p2_s1487_i) 16778 p2_s1487_l 154 = true := by decide +kernel
set_option maxRecDepth 100000 in
theorem p2_s1487_e155 : ck_stpi p2_O p2_s1487_E 348 p2_s1487.1.1 p2_s1487.2.1 p2_s1487.2.2.2.2.1 p2_s1487.2.2.2.2.2 (p2_s1487_l.map (fun h => (h.1, h.2.1)) ++ p2_s1487_i) 16778 p2_s1487_l 155 = true := by decide +kernel
set_option maxRecDepth 100000 in
theorem p2_s1487_e156 : ck_stpi p2_O p2_s1487_E 348 p2_s1487.1.1 p2_s1487.2.1 p2_s1487.2.2.2.2.1 p2_s1487.2.2.2.2.2 (p2_s1487_l.map (fun h => (h.1, h.2.1)) ++ p2_s1487_i) 16778 p2_s1487_l 156 = true := by decide +kernel
set_option maxRecDepth 100000 in
theorem p2_s1487_e157 : ck_stpi p2_O p2_s1487_E 348 p2_s1487.1.1 p2_s1487.2.1 p2_s1487.2.2.2.2.1 p2_s1487.2.2.2.2.2 (p2_s1487_l.map (fun h => (h.1, h.2.1)) ++ p2_s1487_i) 16778 p2_s1487_l 157 = true := by decide +kernel
set_option maxRecDepth 100000 in
theorem p2_s1487_e158 : ck_stpi p2_O p2_s1487_E 348 p2_s1487.1.1 p2_s1487.2.1 p2_s1487.2.2.2.2.1 p2_s1487.2.2.2.2.2 (p2_s1487_l.map (fun h => (h.1, h.2.1)) ++ p2_s1487_i) 16778 p2_s1487_l 158 = true := by decide +kernel
set_option maxRecDepth 100000 in
theorem p2_s1487_e159 : ck_stpi p2_O p2_s1487_E 348 p2_s1487.1.1 p2_s1487.2.1 p2_s1487.2.2.2.2.1 p2_s1487.2.2.2.2.2 (p2_s1487_l.map (fun h => (h.1, h.2.1)) ++ p2_s1487_i) 16778 p2_s1487_l 159 = true := by decide +kernel
set_option maxRecDepth 100000 in
theorem p2_s1487_e160 : ck_stpi p2_O p2_s1487_E 348 p2_s1487.1.1 p2_s1487.2.1 p2_s1487.2.2.2.2.1 p2_s1487.2.2.2.2.2 (p2_s1487_l.map (fun h => (h.1, h.2.1)) ++ p2_s1487_i) 16778 p2_s1487_l 160 = true := by decide +kernel
set_option maxRecDepth 100000 in
theorem p2_s1487_e161 : ck_stpi p2_O p2_s1487_E 348 p2_s1487.1.1 p2_s1487.2.1 p2_s1487.2.2.2.2.1 p2_s1487.2.2.2.2.2 (p2_s1487_l.map (fun h => (h.1, h.2.1)) ++ p2_s1487_i) 16778 p2_s1487_l 161 = true := by decide +kernel
set_option maxRecDepth 100000 in
theorem p2_s1487_e162 : ck_stpi p2_O p2_s1487_E 348 p2_s1487.1.1 p2_s1487.2.1 p2_s1487.2.2.2.2.1 p2_s1487.2.2.2.2.2 (p2_s1487_l.map (fun h => (h.1, h.2.1)) ++ p2_s1487_i) 16778 p2_s1487_l 162 = true := by decide +kernel
set_option maxRecDepth 100000 in
theorem p2_s1487_e163 : ck_stpi p2_O p2_s1487_E 348 p2_s1487.1.1 p2_s1487.2.1 p2_s1487.2.2.2.2.1 p2_s1487.2.2.2.2.2 (p2_s1487_l.map (fun h => (h.1, h.2.1)) ++ p2_s1487_i) 16778 p2_s1487_l 163 = true := by decide +kernel
set_option maxRecDepth 100000 in
theorem p2_s1487_e164 : ck_stpi p2_O p2_s1487_E 348 p2_s1487.1.1 p2_s1487.2.1 p2_s1487.2.2.2.2.1 p2_s1487.2.2.2.2.2 (p2_s1487_l.map (fun h => (h.1, h.2.1)) ++ p2_s1487_i) 16778 p2_s1487_l 164 = true := by decide +kernel
set_option maxRecDepth 100000 in
theorem p2_s1487_e165 : ck_stpi p2_O p2_s1487_E 348 p2_s1487.1.1 p2_s1487.2.1 p2_s1487.2.2.2.2.1 p2_s1487.2.2.2.2.2 (p2_s1487_l.map (fun h => (h.1, h.2.1)) ++ p2_s1487_i) 16778 p2_s1487_l 165 = true := by decide +kernel
set_option maxRecDepth 100000 in
theorem p2_s1487_e166 : ck_stpi p2_O p2_s1487_E 348 p2_s1487.1.1 p2_s1487.2.1 p2_s1487.2.2.2.2.1 p2_s1487.2.2.2.2.2 (p2_s1487_l.map (fun h => (h.1, h.2.1)) ++ p2_s1487_i) 16778 p2_s1487_l 166 = true := by decide +kernel
set_option maxRecDepth 100000 in
theorem p2_s1487_e167 : ck_stpi p2_O p2_s1487_E 348 p2_s1487.1.1 p2_s1487.2.1 p2_s1487.2.2.2.2.1 p2_s1487.2.2.2.2.2 (p2_s1487_l.map (fun h => (h.1, h.2.1)) ++ p2_s1487_i) 16778 p2_s1487_l 167 = true := by decide +kernel
set_option maxRecDepth 100000 in
theorem p2_s1487_e168 : ck_stpi p2_O p2_s1487_E 348 p2_s1487.1.1 p2_s1487.2.1 p2_s1487.2.2.2.2.1 p2_s1487.2.2.2.2.2 (p2_s1487_l.map (fun h => (h.1, h.2.1)) ++ p2_s1487_i) 16778 p2_s1487_l 168 = true := by decide +kernel
set_option maxRecDepth 100000 in
theorem p2_s1487_e169 : ck_stpi p2_O p2_s1487_E 348 p2_s1487.1.1 p2_s1487.2.1 p2_s1487.2.2.2.2.1 p2_s1487.2.2.2.2.2 (p2_s1487_l.map (fun h => (h.1, h.2.1)) ++ p2_s1487_i) 16778 p2_s1487_l 169 = true := by decide +kernel
set_option maxRecDepth 100000 in
theorem p2_s1487_e170 : ck_stpi p2_O p2_s1487_E 348 p2_s1487.1.1 p2_s1487.2.1 p2_s1487.2.2.2.2.1 p2_s1487.2.2.2.2.2 (p2_s1487_l.map (fun h => (h.1, h.2.1)) ++ p2_s1487_i) 16778 p2_s1487_l 170 = true := by decide +kernel
set_option maxRecDepth 100000 in
theorem p2_s1487_e171 : ck_stpi p2_O p2_s1487_E 348 p2_s1487.1.1 p2_s1487.2.1 p2_s1487.2.2.2.2.1 p2_s1487.2.2.2.2.2 (p2_s1487_l.map (fun h => (h.1, h.2.1)) ++ p2_s1487_i) 16778 p2_s1487_l 171 = true := by decide +kernel
set_option maxRecDepth 100000 in
theorem p2_s1487_e172 : ck_stpi p2_O p2_s1487_E 348 p2_s1487.1.1 p2_s1487.2.1 p2_s1487.2.2.2.2.1 p2_s1487.2.2.2.2.2 (p2_s1487_l.map (fun h => (h.1, h.2.1)) ++ p2_s1487_i) 16778 p2_s1487_l 172 = true := by decide +kernel
set_option maxRecDepth 100000 in
theorem p2_s1487_e173 : ck_stpi p2_O p2_s1487_E 348 p2_s1487.1.1 p2_s1487.2.1 p2_s1487.2.2.2.2.1 p2_s1487.2.2.2.2.2 (p2_s1487_l.map (fun h => (h.1, h.2.1)) ++ p2_s1487_i) 16778 p2_s1487_l 173 = true := by decide +kernel
set_option maxRecDepth 100000 in
theorem p2_s1487_e174 : ck_stpi p2_O p2_s1487_E 348 p2_s1487.1.1 p2_s1487.2.1 p2_s1487.2.2.2.2.1 p2_s1487.2.2.2.2.2 (p2_s1487_l.map (fun h => (h.1, h.2.1)) ++ p2_s1487_i) 16778 p2_s1487_l 174 = true := by decide +kernel
set_option maxRecDepth 100000 in
theorem p2_s1487_e175 : ck_stpi p2_O p2_s1487_E 348 p2_s1487.1.1 p2_s1487.2.1 p2_s1487.2.2.2.2.1 p2_s1487.2.2.2.2.2 (p2_s1487_l.map (fun h => (h.1, h.2.1)) ++ p2_s1487_i) 16778 p2_s1487_l 175 = true := by decide +kernel
set_option maxRecDepth 100000 in
theorem p2_s1487_e176 : ck_stpi p2_O p2_s1487_E 348 p2_s1487.1.1 p2_s1487.2.1 p2_s1487.2.2.2.2.1 p2_s1487.2.2.2.2.2 (p2_s1487_l.map (fun h => (h.1, h.2.1)) ++ p2_s1487_i) 16778 p2_s1487_l 176 = true := by decide +kernel
set_option maxRecDepth 100000 in
theorem p2_s1487_e177 : ck_stpi p2_O p2_s1487_E 348 p2_s1487.1.1 p2_s1487.2.1 p2_s1487.2.2.2.2.1 p2_s1487.2.2.2.2.2 (p2_s1487_l.map (fun h => (h.1, h.2.1)) ++ p2_s1487_i) 16778 p2_s1487_l 177 = true := by decide +kernel
set_option maxRecDepth 100000 in
theorem p2_s1487_e178 : ck_stpi p2_O p2_s1487_E 348 p2_s1487.1.1 p2_s1487.2.1 p2_s1487.2.2.2.2.1 p2_s1487.2.2.2.2.2 (p2_s1487_l.map (fun h => (h.1, h.2.1)) ++ p2_s1487_i) 16778 p2_s1487_l 178 = true := by decide +kernel
set_option maxRecDepth 100000 in
theorem p2_s1487_e179 : ck_stpi p2_O p2_s1487_E 348 p2_s1487.1.1 p2_s1487.2.1 p2_s1487.2.2.2.2.1 p2_s1487.2.2.2.2.2 (p2_s1487_l.map (fun h => (h.1, h.2.1)) ++ p2_s1487_i) 16778 p2_s1487_l 179 = true := by decide +kernel
set_option maxRecDepth 100000 in
theorem p2_s1487_e180 : ck_stpi p2_O p2_s1487_E 348 p2_s1487.1.1 p2_s1487.2.1 p2_s1487.2.2.2.2.1 p2_s1487.2.2.2.2.2 (p2_s1487_l.map (fun h => (h.1, h.2.1)) ++ p2_s1487_i) 16778 p2_s1487_l 180 = true := by decide +kernel
set_option maxRecDepth 100000 in
theorem p2_s1487_e181 : ck_stpi p2_O p2_s1487_E 348 p2_s1487.1.1 p2_s1487.2.1 p2_s1487.2.2.2.2.1 p2_s1487.2.2.2.2.2 (p2_s1487_l.map (fun h => (h.1, h.2.1)) ++ p2_s1487_i) 16778 p2_s1487_l 181 = true := by decide +kernel
set_option maxRecDepth 100000 in
theorem p2_s1487_e182 : ck_stpi p2_O p2_s1487_E 348 p2_s1487.1.1 p2_s1487.2.1 p2_s1487.2.2.2.2.1 p2_s1487.2.2.2.2.2 (p2_s1487_l.map (fun h => (h.1, h.2.1)) ++ p2_s1487_i) 16778 p2_s1487_l 182 = true := by decide +kernel
set_option maxRecDepth 100000 in
theorem p2_s1487_e183 : ck_stpi p2_O p2_s1487_E 348 p2_s1487.1.1 p2_s1487.2.1 p2_s1487.2.2.2.2.1 p2_s1487.2.2.2.2.2 (p2_s1487_l.map (fun h => (h.1, h.2.1)) ++ p2_s1487_i) 16778 p2_s1487_l 183 = true := by decide +kernel
set_option maxRecDepth 100000 in
theorem p2_s1487_e184 : ck_stpi p2_O p2_s1487_E 348 p2_s1487.1.1 p2_s1487.2.1 p2_s1487.2.2.2.2.1 p2_s1487.2.2.2.2.2 (p2_s1487_l.map (fun h => (h.1, h.2.1)) ++ p2_s1487_i) 16778 p2_s1487_l 184 = true := by decide +kernel
set_option maxRecDepth 100000 in
theorem p2_s1487_e185 : ck_stpi p2_O p2_s1487_E 348 p2_s1487.1.1 p2_s1487.2.1 p2_s1487.2.2.2.2.1 p2_s1487.2.2.2.2.2 (p2_s1487_l.map (fun h => (h.1, h.2.1)) ++ p2_s1487_i) 16778 p2_s1487_l 185 = true := by decide +kernel
set_option maxRecDepth 100000 in
theorem p2_s1487_e186 : ck_stpi p2_O p2_s1487_E 348 p2_s1487.1.1 p2_s1487.2.1 p2_s1487.2.2.2.2.1 p2_s1487.2.2.2.2.2 (p2_s1487_l.map (fun h => (h.1, h.2.1)) ++ p2_s1487_i) 16778 p2_s1487_l 186 = true := by decide +kernel
set_option maxRecDepth 100000 in
theorem p2_s1487_e187 : ck_stpi p2_O p2_s1487_E 348 p2_s1487.1.1 p2_s1487.2.1 p2_s1487.2.2.2.2.1 p2_s1487.2.2.2.2.2 (p2_s1487_l.map (fun h => (h.1, h.2.1)) ++ p2_s1487_i) 16778 p2_s1487_l 187 = true := by decide +kernel
set_option maxRecDepth 100000 in
theorem p2_s1487_e188 : ck_stpi p2_O p2_s1487_E 348 p2_s1487.1.1 p2_s1487.2.1 p2_s1487.2.2.2.2.1 p2_s1487.2.2.2.2.2 (p2_s1487_l.map (fun h => (h.1, h.2.1)) ++ p2_s1487_i) 16778 p2_s1487_l 188 = true := by decide +kernel
set_option maxRecDepth 100000 in
theorem p2_s1487_e189 : ck_stpi p2_O p2_s1487_E 348 p2_s1487.1.1 p2_s1487.2.1 p2_s1487.2.2.2.2.1 p2_s1487.2.2.2.2.2 (p2_s1487_l.map (fun h => (h.1, h.2.1)) ++ p2_s1487_i) 16778 p2_s1487_l 189 = true := by decide +kernel
set_option maxRecDepth 100000 in
theorem p2_s1487_e190 : ck_stpi p2_O p2_s1487_E 348 p2_s1487.1.1 p2_s1487.2.1 p2_s1487.2.2.2.2.1 p2_s1487.2.2.2.2.2 (p2_s1487_l.map (fun h => (h.1, h.2.1)) ++ p2_s1487_i) 16778 p2_s1487_l 190 = true := by decide +kernel
set_option maxRecDepth 100000 in
theorem p2_s1487_e191 : ck_stpi p2_O p2_s1487_E 348 p2_s1487.1.1 p2_s1487.2.1 p2_s1487.2.2.2.2.1 p2_s1487.2.2.2.2.2 (p2_s1487_l.map (fun h => (h.1, h.2.1)) ++ p2_s1487_i) 16778 p2_s1487_l 191 = true := by decide +kernel
set_option maxRecDepth 100000 in
theorem p2_s1487_e192 : ck_stpi p2_O p2_s1487_E 348 p2_s1487.1.1 p2_s1487.2.1 p2_s1487.2.2.2.2.1 p2_s1487.2.2.2.2.2 (p2_s1487_l.map (fun h => (h.1, h.2.1)) ++ p2_s1487_i) 16778 p2_s1487_l 192 = true := by decide +kernel
set_option maxRecDepth 100000 in
theorem p2_s1487_e193 : ck_stpi p2_O p2_s1487_E 348 p2_s1487.1.1 p2_s1487.2.1 p2_s1487.2.2.2.2.1 p2_s1487.2.2.2.2.2 (p2_s1487_l.map (fun h => (h.1, h.2.1)) ++ p2_s1487_i) 16778 p2_s1487_l 193 = true := by decide +kernel
set_option maxRecDepth 100000 in
theorem p2_s1487_e194 : ck_stpi p2_O p2_s1487_E 348 p2_s1487.1.1 p2_s1487.2.1 p2_s1487.2.2.2.2.1 p2_s1487.2.2.2.2.2 (p2_s1487_l.map (fun h => (h.1, h.2.1)) ++ p2_s1487_i) 16778 p2_s1487_l 194 = true := by decide +kernel
set_option maxRecDepth 100000 in
theorem p2_s1487_e195 : ck_stpi p2_O p2_s1487_E 348 p2_s1487.1.1 p2_s1487.2.1 p2_s1487.2.2.2.2.1 p2_s1487.2.2.2.2.2 (p2_s1487_l.map (fun h => (h.1, h.2.1)) ++ p2_s1487_i) 16778 p2_s1487_l 195 = true := by decide +kernel
set_option maxRecDepth 100000 in
theorem p2_s1487_e196 : ck_stpi p2_O p2_s1487_E 348 p2_s1487.1.1 p2_s1487.2.1 p2_s1487.2.2.2.2.1 p2_s1487.2.2.2.2.2 (p2_s1487_l.map (fun h => (h.1, h.2.1)) ++ p2_s1487_i) 16778 p2_s1487_l 196 = true := by decide +kernel
set_option maxRecDepth 100000 in
theorem p2_s1487_e197 : ck_stpi p2_O p2_s1487_E 348 p2_s1487.1.1 p2_s1487.2.1 p2_s1487.2.2.2.2.1 p2_s1487.2.2.2.2.2 (p2_s1487_l.map (fun h => (h.1, h.2.1)) ++ p2_s1487_i) 16778 p2_s1487_l 197 = true := by decide +kernel
set_option maxRecDepth 100000 in
theorem p2_s1487_e198 : ck_stpi p2_O p2_s1487_E 348 p2_s1487.1.1 p2_s1487.2.1 p2_s1487.2.2.2.2.1 p2_s1487.2.2.2.2.2 (p2_s1487_l.map (fun h => (h.1, h.2.1)) ++ p2_s1487_i) 16778 p2_s1487_l 198 = true := by decide +kernel
set_option maxRecDepth 100000 in
theorem p2_s1487_e199 : ck_stpi p2_O p2_s1487_E 348 p2_s1487.1.1 p2_s1487.2.1 p2_s1487.2.2.2.2.1 p2_s1487.2.2.2.2.2 (p2_s1487_l.map (fun h => (h.1, h.2.1)) ++ p2_s1487_i) 16778 p2_s1487_l 199 = true := by decide +kernel
set_option maxRecDepth 100000 in
theorem p2_s1487_e200 : ck_stpi p2_O p2_s1487_E 348 p2_s1487.1.1 p2_s1487.2.1 p2_s1487.2.2.2.2.1 p2_s1487.2.2.2.2.2 (p2_s1487_l.map (fun h => (h.1, h.2.1)) ++ p2_s1487_i) 16778 p2_s1487_l 200 = true := by decide +kernel
set_option maxRecDepth 100000 in
theorem p2_s1487_z : ck_go p2_O none [] p2_s1487_E 348 p2_s1487.1.1 p2_s1487.2.1 p2_s1487.2.2.2.2.1 p2_s1487.2.2.2.2.2 (p2_s1487_l.map (fun h => (h.1, h.2.1)) ++ p2_s1487_i) 16778 false p2_s1487_l p2_s1487.1.2.1 p2_s1487.1.2.2 0 (p2_s1487.2.2.1.map some ++ List.replicate (gm_ml 348 - p2_s1487.2.2.1.length) none) [] p2_s1487.2.1 p2_s1487.2.2.2.1 = true := by decide +kernel
theorem p2_s1487_s {X : Int → Int} {LX : Nat} : ck_Ok p2_O X LX 348 p2_s1487 := by
  refine ck_okp_i (cuts := p2_s1487_i) (l := p2_s1487_l) (f := 16778) ⟨p2_nmu, ck_E1 (ck_S1 p2_s146_s ck_S0) (ck_E1 (ck_S1 p2_s242_s (ck_S1 p2_s241_s ck_S0)) (ck_E1 (ck_S1 p2_s1484_s ck_S0) (ck_E1 (ck_S1 p2_s1485_s ck_S0) (ck_E1 (ck_S1 p2_s1486_s ck_S0) ck_E0))))⟩ p2_s1487_a (fun i hi => ?_) p2_s1487_z
  have hi : i < 201 := hi
  have : i = 0 ∨ i = 1 ∨ i = 2 ∨ i = 3 ∨ i = 4 ∨ i = 5 ∨ i = 6 ∨ i = 7 ∨ i = 8 ∨ i = 9 ∨ i = 10 ∨ i = 11 ∨ i = 12 ∨ i = 13 ∨ i = 14 ∨ i = 15 ∨ i = 16 ∨ i = 17 ∨ i = 18 ∨ i = 19 ∨ i = 20 ∨ i = 21 ∨ i = 22 ∨ i = 23 ∨ i = 24 ∨ i = 25 ∨ i = 26 ∨ i = 27 ∨ i = 28 ∨ i = 29 ∨ i = 30 ∨ i = 31 ∨ i = 32 ∨ i = 33 ∨ i = 34 ∨ i = 35 ∨ i = 36 ∨ i = 37 ∨ i = 38 ∨ i = 39 ∨ i = 40 ∨ i = 41 ∨ i = 42 ∨ i = 43 ∨ i = 44 ∨ i = 45 ∨ i = 46 ∨ i = 47 ∨ i = 48 ∨ i = 49 ∨ i = 50 ∨ i = 51 ∨ i = 52 ∨ i = 53 ∨ i = 54 ∨ i = 55 ∨ i = 56 ∨ i = 57 ∨ i = 58 ∨ i = 59 ∨ i = 60 ∨ i = 61 ∨ i = 62 ∨ i = 63 ∨ i = 64 ∨ i = 65 ∨ i = 66 ∨ i = 67 ∨ i = 68 ∨ i = 69 ∨ i = 70 ∨ i = 71 ∨ i = 72 ∨ i = 73 ∨ i = 74 ∨ i = 75 ∨ i = 76 ∨ i = 77 ∨ i = 78 ∨ i = 79 ∨ i = 80 ∨ i = 81 ∨ i = 82 ∨ i = 83 ∨ i = 84 ∨ i = 85 ∨ i = 86 ∨ i = 87 ∨ i = 88 ∨ i = 89 ∨ i = 90 ∨ i = 91 ∨ i = 92 ∨ i = 93 ∨ i = 94 ∨ i = 95 ∨ i = 96 ∨ i = 97 ∨ i = 98 ∨ i = 99 ∨ i = 100 ∨ i = 101 ∨ i = 102 ∨ i = 103 ∨ i = 104 ∨ i = 105 ∨ i = 106 ∨ i = 107 ∨ i = 108 ∨ i = 109 ∨ i = 110 ∨ i = 111 ∨ i = 112 ∨ i = 113 ∨ i = 114 ∨ i = 115 ∨ i = 116 ∨ i = 117 ∨ i = 118 ∨ i = 119 ∨ i = 120 ∨ i = 121 ∨ i = 122 ∨ i = 123 ∨ i = 124 ∨ i = 125 ∨ i = 126 ∨ i = 127 ∨ i = 128 ∨ i = 129 ∨ i = 130 ∨ i = 131 ∨ i = 132 ∨ i = 133 ∨ i = 134 ∨ i = 135 ∨ i = 136 ∨ i = 137 ∨ i = 138 ∨ i = 139 ∨ i = 140 ∨ i = 141 ∨ i = 142 ∨ i = 143 ∨ i = 144 ∨ i = 145 ∨ i = 146 ∨ i = 147 ∨ i = 148 ∨ i = 149 ∨ i = 150 ∨ i = 151 ∨ i = 152 ∨ i = 153 ∨ i = 154 ∨ i = 155 ∨ i = 156 ∨ i = 157 ∨ i = 158 ∨ i = 159 ∨ i = 160 ∨ i = 161 ∨ i = 162 ∨ i = 163 ∨ i = 164 ∨ i = 165 ∨ i = 166 ∨ i = 167 ∨ i = 168 ∨ i = 169 ∨ i = 170 ∨ i = 171 ∨ i = 172 ∨ i = 173 ∨ i = 174 ∨ i = 175 ∨ i = 176 ∨ i = 177 ∨ i = 178 ∨ i = 179 ∨ i = 180 ∨ i = 181 ∨ i = 182 ∨ i = 183 ∨ i = 184 ∨ i = 185 ∨ i = 186 ∨ i = 187 ∨ i = 188 ∨ i = 189 ∨ i = 190 ∨ i = 191 ∨ i = 192 ∨ i = 193 ∨ i = 194 ∨ i = 195 ∨ i = 196 ∨ i = 197 ∨ i = 198 ∨ i = 199 ∨ i = 200 := by omega
  rcases this with rfl | rfl | rfl | rfl | rfl | rfl | rfl | rfl | rfl | rfl | rfl | rfl | rfl | rfl | rfl | rfl | rfl | rfl | rfl | rfl | rfl | rfl | rfl | rfl | rfl | rfl | rfl | rfl | rfl | rfl | rfl | rfl | rfl | rfl | rfl | rfl | rfl | rfl | rfl | rfl | rfl | rfl | rfl | rfl | rfl | rfl | rfl | rfl | rfl | rfl | rfl | rfl | rfl | rfl | rfl | rfl | rfl | rfl | rfl | rfl | rfl | rfl | rfl | rfl | rfl | rfl | rfl | rfl | rfl | rfl | rfl | rfl | rfl | rfl | rfl | rfl | rfl | rfl | rfl | rfl | rfl | rfl | rfl | rfl | rfl | rfl | rfl | rfl | rfl | rfl | rfl | rfl | rfl | rfl | rfl | rfl | rfl | rfl | rfl | rfl | rfl | rfl | rfl | rfl | rfl | rfl | rfl | rfl | rfl | rfl | rfl | rfl | rfl | rfl | rfl | rfl | rfl | rfl | rfl | rfl | rfl | rfl | rfl | rfl | rfl | rfl | rfl | rfl | rfl | rfl | rfl | rfl | rfl | rfl | rfl | rfl | rfl | rfl | rfl | rfl | rfl | rfl | rfl | rfl | rfl | rfl | rfl | rfl | rfl | rfl | rfl | rfl | rfl | rfl | rfl | rfl | rfl | rfl | rfl | rfl | rfl | rfl | rfl | rfl | rfl | rfl | rfl | rfl | rfl | rfl | rfl | rfl | rfl | rfl | rfl | rfl | rfl | rfl | rfl | rfl | rfl | rfl | rfl | rfl | rfl | rfl | rfl | rfl | rfl | rfl | rfl | rfl | rfl | rfl | rfl | rfl | rfl | rfl | rfl | rfl | rfl
  · exact p2_s1487_e0
  · exact p2_s1487_e1
  · exact p2_s1487_e2
  · exact p2_s1487_e3
  · exact p2_s1487_e4
  · exact p2_s1487_e5
  · exact p2_s1487_e6
  · exact p2_s1487_e7
  · exact p2_s1487_e8
  · exact p2_s1487_e9
  · exact p2_s1487_e10
  · exact p2_s1487_e11
  · exact p2_s1487_e12
  · exact p2_s1487_e13
  · exact p2_s1487_e14
  · exact p2_s1487_e15
  · exact p2_s1487_e16
  · exact p2_s1487_e17
  · exact p2_s1487_e18
  · exact p2_s1487_e19
  · exact p2_s1487_e20
  · exact p2_s1487_e21
  · exact p2_s1487_e22
  · exact p2_s1487_e23
  · exact p2_s1487_e24
  · exact p2_s1487_e25
  · exact p2_s1487_e26
  · exact p2_s1487_e27
  · exact p2_s1487_e28
  · exact p2_s1487_e29
  · exact p2_s1487_e30
  · exact p2_s1487_e31
  · exact p2_s1487_e32
  · exact p2_s1487_e33
  · exact p2_s1487_e34
  · exact p2_s1487_e35
  · exact p2_s1487_e36
  · exact p2_s1487_e37
  · exact p2_s1487_e38
  · exact p2_s1487_e39
  · exact p2_s1487_e40
  · exact p2_s1487_e41
  · exact p2_s1487_e42
  · exact p2_s1487_e43
  · exact p2_s1487_e44
  · exact p2_s1487_e45
  · exact p2_s1487_e46
  · exact p2_s1487_e47
  · exact p2_s1487_e48
  · exact p2_s1487_e49
  · exact p2_s1487_e50
  · exact p2_s1487_e51
  · exact p2_s1487_e52
  · exact p2_s1487_e53
  · exact p2_s1487_e54
  · exact p2_s1487_e55
  · exact p2_s1487_e56
  · exact p2_s1487_e57
  · exact p2_s1487_e58
  · exact p2_s1487_e59
  · exact p2_s1487_e60
  · exact p2_s1487_e61
  · exact p2_s1487_e62
  · exact p2_s1487_e63
  · exact p2_s1487_e64
  · exact p2_s1487_e65
  · exact p2_s1487_e66
  · exact p2_s1487_e67
  · exact p2_s1487_e68
  · exact p2_s1487_e69
  · exact p2_s1487_e70
  · exact p2_s1487_e71
  · exact p2_s1487_e72
  · exact p2_s1487_e73
  · exact p2_s1487_e74
  · exact p2_s1487_e75
  · exact p2_s1487_e76
  · exact p2_s1487_e77
  · exact p2_s1487_e78
  · exact p2_s1487_e79
  · exact p2_s1487_e80
  · exact p2_s1487_e81
  · exact p2_s1487_e82
  · exact p2_s1487_e83
  · exact p2_s1487_e84
  · exact p2_s1487_e85
  · exact p2_s1487_e86
  · exact p2_s1487_e87
  · exact p2_s1487_e88
  · exact p2_s1487_e89
  · exact p2_s1487_e90
  · exact p2_s1487_e91
  · exact p2_s1487_e92
  · exact p2_s1487_e93
  · exact p2_s1487_e94
  · exact p2_s1487_e95
  · exact p2_s1487_e96
  · exact p2_s1487_e97
  · exact p2_s1487_e98
  · exact p2_s1487_e99
  · exact p2_s1487_e100
  · exact p2_s1487_e101
  · exact p2_s1487_e102
  · exact p2_s1487_e103
  · exact p2_s1487_e104
  · exact p2_s1487_e105
  · exact p2_s1487_e106
  · exact p2_s1487_e107
  · exact p2_s1487_e108
  · exact p2_s1487_e109
  · exact p2_s1487_e110
  · exact p2_s1487_e111
  · exact p2_s1487_e112
  · exact p2_s1487_e113
  · exact p2_s1487_e114
  · exact p2_s1487_e115
  · exact p2_s1487_e116
  · exact p2_s1487_e117
  · exact p2_s1487_e118
  · exact p2_s1487_e119
  · exact p2_s1487_e120
  · exact p2_s1487_e121
  · exact p2_s1487_e122
  · exact p2_s1487_e123
  · exact p2_s1487_e124
  · exact p2_s1487_e125
  · exact p2_s1487_e126
  · exact p2_s1487_e127
  · exact p2_s1487_e128
  · exact p2_s1487_e129
  · exact p2_s1487_e130
  · exact p2_s1487_e131
  · exact p2_s1487_e132
  · exact p2_s1487_e133
  · exact p2_s1487_e134
  · exact p2_s1487_e135
  · exact p2_s1487_e136
  · exact p2_s1487_e137
  · exact p2_s1487_e138
  · exact p2_s1487_e139
  · exact p2_s1487_e140
  · exact p2_s1487_e141
  · exact p2_s1487_e142
  · exact p2_s1487_e143
  · exact p2_s1487_e144
  · exact p2_s1487_e145
  · exact p2_s1487_e146
  · exact p2_s1487_e147
  · exact p2_s1487_e148
  · exact p2_s1487_e149
  · exact p2_s1487_e150
  · exact p2_s1487_e151
  · exact p2_s1487_e152
  · exact p2_s1487_e153
  · exact p2_s1487_e154
  · exact p2_s1487_e155
  · exact p2_s1487_e156
  · exact p2_s1487_e157
  · exact p2_s1487_e158
  · exact p2_s1487_e159
  · exact p2_s1487_e160
  · exact p2_s1487_e161
  · exact p2_s1487_e162
  · exact p2_s1487_e163
  · exact p2_s1487_e164
  · exact p2_s1487_e165
  · exact p2_s1487_e166
  · exact p2_s1487_e167
  · exact p2_s1487_e168
  · exact p2_s1487_e169
  · exact p2_s1487_e170
  · exact p2_s1487_e171
  · exact p2_s1487_e172
  · exact p2_s1487_e173
  · exact p2_s1487_e174
  · exact p2_s1487_e175
  · exact p2_s1487_e176
  · exact p2_s1487_e177
  · exact p2_s1487_e178
  · exact p2_s1487_e179
  · exact p2_s1487_e180
  · exact p2_s1487_e181
  · exact p2_s1487_e182
  · exact p2_s1487_e183
  · exact p2_s1487_e184
  · exact p2_s1487_e185
  · exact p2_s1487_e186
  · exact p2_s1487_e187
  · exact p2_s1487_e188
  · exact p2_s1487_e189
  · exact p2_s1487_e190
  · exact p2_s1487_e191
  · exact p2_s1487_e192
  · exact p2_s1487_e193
  · exact p2_s1487_e194
  · exact p2_s1487_e195
  · exact p2_s1487_e196
  · exact p2_s1487_e197
  · exact p2_s1487_e198
  · exact p2_s1487_e199
  · exact p2_s1487_e200
