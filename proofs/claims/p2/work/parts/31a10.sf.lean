/-! EVERY CALL ENDS, whatever was done before (laid by wip/am/p2g.py). -/
set_option maxRecDepth 100000 in
/-- GlacierMailModel.in -/
def p2_s1432 : ck_Sum := ((0, 0, 0), 245, [.inl (ck_one 6), .inl (ck_one 1), .inl (ck_one 50)], ([], [], []), ([], []), [(.inr (some (.inl (ck_one 1))), 245, ([], [], []))])
set_option maxRecDepth 100000 in
theorem p2_s1432_e : ck_ok p2_O none [] [] 286 [] 88 p2_s1432 = true := by decide +kernel
theorem p2_s1432_s {X : Int → Int} {LX : Nat} : ck_Ok p2_O X LX 286 p2_s1432 := ck_ok_s ⟨p2_nmu, ck_E0⟩ ck_X0 ck_l0 p2_s1432_e
set_option maxRecDepth 100000 in
/-- GlacierMailModel.in -/
def p2_s1434 : ck_Sum := ((0, 0, 0), 245, [.inl (ck_one 7), .inl (ck_one 1), .inl (ck_one 50)], ([], [], []), ([], []), [(.inr (some (.inl (ck_one 1))), 245, ([], [], []))])
set_option maxRecDepth 100000 in
theorem p2_s1434_e : ck_ok p2_O none [] [] 286 [] 88 p2_s1434 = true := by decide +kernel
theorem p2_s1434_s {X : Int → Int} {LX : Nat} : ck_Ok p2_O X LX 286 p2_s1434 := ck_ok_s ⟨p2_nmu, ck_E0⟩ ck_X0 ck_l0 p2_s1434_e
set_option maxRecDepth 100000 in
/-- GlacierMailModel.in -/
def p2_s1436 : ck_Sum := ((0, 0, 0), 245, [.inl (ck_one 8), .inl (ck_one 1), .inl (ck_one 50)], ([], [], []), ([], []), [(.inr (some (.inl (ck_one 1))), 245, ([], [], []))])
set_option maxRecDepth 100000 in
theorem p2_s1436_e : ck_ok p2_O none [] [] 286 [] 88 p2_s1436 = true := by decide +kernel
theorem p2_s1436_s {X : Int → Int} {LX : Nat} : ck_Ok p2_O X LX 286 p2_s1436 := ck_ok_s ⟨p2_nmu, ck_E0⟩ ck_X0 ck_l0 p2_s1436_e
set_option maxRecDepth 100000 in
/-- GlacierMailModel.in -/
def p2_s1438 : ck_Sum := ((0, 0, 0), 245, [.inl (ck_one 9), .inl (ck_one 1), .inl (ck_one 50)], ([], [], []), ([], []), [(.inr (some (.inl (ck_one 1))), 245, ([], [], []))])
set_option maxRecDepth 100000 in
theorem p2_s1438_e : ck_ok p2_O none [] [] 286 [] 88 p2_s1438 = true := by decide +kernel
theorem p2_s1438_s {X : Int → Int} {LX : Nat} : ck_Ok p2_O X LX 286 p2_s1438 := ck_ok_s ⟨p2_nmu, ck_E0⟩ ck_X0 ck_l0 p2_s1438_e
set_option maxRecDepth 100000 in
/-- GlacierMailModel.in -/
def p2_s1440 : ck_Sum := ((0, 0, 0), 245, [.inl (ck_one 10), .inl (ck_one 1), .inl (ck_one 50)], ([], [], []), ([], []), [(.inr (some (.inl (ck_one 1))), 245, ([], [], []))])
set_option maxRecDepth 100000 in
theorem p2_s1440_e : ck_ok p2_O none [] [] 286 [] 88 p2_s1440 = true := by decide +kernel
theorem p2_s1440_s {X : Int → Int} {LX : Nat} : ck_Ok p2_O X LX 286 p2_s1440 := ck_ok_s ⟨p2_nmu, ck_E0⟩ ck_X0 ck_l0 p2_s1440_e
set_option maxRecDepth 100000 in
/-- GlacierMailModel.in -/
def p2_s1442 : ck_Sum := ((0, 0, 0), 245, [.inl (ck_one 11), .inl (ck_one 1), .inl (ck_one 50)], ([], [], []), ([], []), [(.inr (some (.inl (ck_one 1))), 245, ([], [], []))])
set_option maxRecDepth 100000 in
theorem p2_s1442_e : ck_ok p2_O none [] [] 286 [] 88 p2_s1442 = true := by decide +kernel
theorem p2_s1442_s {X : Int → Int} {LX : Nat} : ck_Ok p2_O X LX 286 p2_s1442 := ck_ok_s ⟨p2_nmu, ck_E0⟩ ck_X0 ck_l0 p2_s1442_e
set_option maxRecDepth 100000 in
/-- GlacierMailModel.in -/
def p2_s1444 : ck_Sum := ((0, 0, 0), 245, [.inl (ck_one 12), .inl (ck_one 1), .inl (ck_one 50)], ([], [], []), ([], []), [(.inr (some (.inl (ck_one 1))), 245, ([], [], []))])
set_option maxRecDepth 100000 in
theorem p2_s1444_e : ck_ok p2_O none [] [] 286 [] 88 p2_s1444 = true := by decide +kernel
theorem p2_s1444_s {X : Int → Int} {LX : Nat} : ck_Ok p2_O X LX 286 p2_s1444 := ck_ok_s ⟨p2_nmu, ck_E0⟩ ck_X0 ck_l0 p2_s1444_e
set_option maxRecDepth 100000 in
/-- GlacierMailModel.in -/
def p2_s1446 : ck_Sum := ((0, 0, 0), 245, [.inl (ck_one 13), .inl (ck_one 1), .inl (ck_one 50)], ([], [], []), ([], []), [(.inr (some (.inl (ck_one 1))), 245, ([], [], []))])
set_option maxRecDepth 100000 in
theorem p2_s1446_e : ck_ok p2_O none [] [] 286 [] 88 p2_s1446 = true := by decide +kernel
theorem p2_s1446_s {X : Int → Int} {LX : Nat} : ck_Ok p2_O X LX 286 p2_s1446 := ck_ok_s ⟨p2_nmu, ck_E0⟩ ck_X0 ck_l0 p2_s1446_e
set_option maxRecDepth 100000 in
/-- GlacierMailModel.in -/
def p2_s1448 : ck_Sum := ((0, 0, 0), 245, [.inl (ck_one 14), .inl (ck_one 1), .inl (ck_one 50)], ([], [], []), ([], []), [(.inr (some (.inl (ck_one 1))), 245, ([], [], []))])
set_option maxRecDepth 100000 in
theorem p2_s1448_e : ck_ok p2_O none [] [] 286 [] 88 p2_s1448 = true := by decide +kernel
theorem p2_s1448_s {X : Int → Int} {LX : Nat} : ck_Ok p2_O X LX 286 p2_s1448 := ck_ok_s ⟨p2_nmu, ck_E0⟩ ck_X0 ck_l0 p2_s1448_e
set_option maxRecDepth 100000 in
/-- GlacierMailModel.in -/
def p2_s1450 : ck_Sum := ((0, 0, 0), 245, [.inl (ck_one 15), .inl (ck_one 1), .inl (ck_one 50)], ([], [], []), ([], []), [(.inr (some (.inl (ck_one 1))), 245, ([], [], []))])
set_option maxRecDepth 100000 in
theorem p2_s1450_e : ck_ok p2_O none [] [] 286 [] 88 p2_s1450 = true := by decide +kernel
theorem p2_s1450_s {X : Int → Int} {LX : Nat} : ck_Ok p2_O X LX 286 p2_s1450 := ck_ok_s ⟨p2_nmu, ck_E0⟩ ck_X0 ck_l0 p2_s1450_e
set_option maxRecDepth 100000 in
/-- GlacierMailModel.in -/
def p2_s1452 : ck_Sum := ((0, 0, 0), 245, [.inl (ck_one 16), .inl (ck_one 1), .inl (ck_one 50)], ([], [], []), ([], []), [(.inr (some (.inl (ck_one 1))), 245, ([], [], []))])
set_option maxRecDepth 100000 in
theorem p2_s1452_e : ck_ok p2_O none [] [] 286 [] 88 p2_s1452 = true := by decide +kernel
theorem p2_s1452_s {X : Int → Int} {LX : Nat} : ck_Ok p2_O X LX 286 p2_s1452 := ck_ok_s ⟨p2_nmu, ck_E0⟩ ck_X0 ck_l0 p2_s1452_e
set_option maxRecDepth 100000 in
/-- GlacierMailModel.in -/
def p2_s1454 : ck_Sum := ((0, 0, 0), 245, [.inl (ck_one 17), .inl (ck_one 1), .inl (ck_one 50)], ([], [], []), ([], []), [(.inr (some (.inl (ck_one 1))), 245, ([], [], []))])
set_option maxRecDepth 100000 in
theorem p2_s1454_e : ck_ok p2_O none [] [] 286 [] 88 p2_s1454 = true := by decide +kernel
theorem p2_s1454_s {X : Int → Int} {LX : Nat} : ck_Ok p2_O X LX 286 p2_s1454 := ck_ok_s ⟨p2_nmu, ck_E0⟩ ck_X0 ck_l0 p2_s1454_e
set_option maxRecDepth 100000 in
/-- GlacierMailModel.in -/
def p2_s1456 : ck_Sum := ((0, 0, 0), 245, [.inl (ck_one 18), .inl (ck_one 1), .inl (ck_one 50)], ([], [], []), ([], []), [(.inr (some (.inl (ck_one 1))), 245, ([], [], []))])
set_option maxRecDepth 100000 in
theorem p2_s1456_e : ck_ok p2_O none [] [] 286 [] 88 p2_s1456 = true := by decide +kernel
theorem p2_s1456_s {X : Int → Int} {LX : Nat} : ck_Ok p2_O X LX 286 p2_s1456 := ck_ok_s ⟨p2_nmu, ck_E0⟩ ck_X0 ck_l0 p2_s1456_e
set_option maxRecDepth 100000 in
/-- GlacierMailModel.in -/
def p2_s1458 : ck_Sum := ((0, 0, 0), 245, [.inl (ck_one 19), .inl (ck_one 1), .inl (ck_one 50)], ([], [], []), ([], []), [(.inr (some (.inl (ck_one 1))), 245, ([], [], []))])
set_option maxRecDepth 100000 in
theorem p2_s1458_e : ck_ok p2_O none [] [] 286 [] 88 p2_s1458 = true := by decide +kernel
theorem p2_s1458_s {X : Int → Int} {LX : Nat} : ck_Ok p2_O X LX 286 p2_s1458 := ck_ok_s ⟨p2_nmu, ck_E0⟩ ck_X0 ck_l0 p2_s1458_e
set_option maxRecDepth 100000 in
/-- GlacierMailModel.in -/
def p2_s1460 : ck_Sum := ((0, 0, 0), 245, [.inl (ck_one 20), .inl (ck_one 1), .inl (ck_one 50)], ([], [], []), ([], []), [(.inr (some (.inl (ck_one 1))), 245, ([], [], []))])
set_option maxRecDepth 100000 in
theorem p2_s1460_e : ck_ok p2_O none [] [] 286 [] 88 p2_s1460 = true := by decide +kernel
theorem p2_s1460_s {X : Int → Int} {LX : Nat} : ck_Ok p2_O X LX 286 p2_s1460 := ck_ok_s ⟨p2_nmu, ck_E0⟩ ck_X0 ck_l0 p2_s1460_e
set_option maxRecDepth 100000 in
/-- GlacierMailModel.in -/
def p2_s1462 : ck_Sum := ((0, 0, 0), 245, [.inl (ck_one 21), .inl (ck_one 1), .inl (ck_one 50)], ([], [], []), ([], []), [(.inr (some (.inl (ck_one 1))), 245, ([], [], []))])
set_option maxRecDepth 100000 in
theorem p2_s1462_e : ck_ok p2_O none [] [] 286 [] 88 p2_s1462 = true := by decide +kernel
theorem p2_s1462_s {X : Int → Int} {LX : Nat} : ck_Ok p2_O X LX 286 p2_s1462 := ck_ok_s ⟨p2_nmu, ck_E0⟩ ck_X0 ck_l0 p2_s1462_e
set_option maxRecDepth 100000 in
/-- GlacierMailModel.in -/
def p2_s1464 : ck_Sum := ((0, 0, 0), 245, [.inl (ck_one 22), .inl (ck_one 1), .inl (ck_one 50)], ([], [], []), ([], []), [(.inr (some (.inl (ck_one 1))), 245, ([], [], []))])
set_option maxRecDepth 100000 in
theorem p2_s1464_e : ck_ok p2_O none [] [] 286 [] 88 p2_s1464 = true := by decide +kernel
theorem p2_s1464_s {X : Int → Int} {LX : Nat} : ck_Ok p2_O X LX 286 p2_s1464 := ck_ok_s ⟨p2_nmu, ck_E0⟩ ck_X0 ck_l0 p2_s1464_e
set_option maxRecDepth 100000 in
/-- GlacierMailModel.in -/
def p2_s1466 : ck_Sum := ((0, 0, 0), 245, [.inl (ck_one 23), .inl (ck_one 1), .inl (ck_one 50)], ([], [], []), ([], []), [(.inr (some (.inl (ck_one 1))), 245, ([], [], []))])
set_option maxRecDepth 100000 in
theorem p2_s1466_e : ck_ok p2_O none [] [] 286 [] 88 p2_s1466 = true := by decide +kernel
theorem p2_s1466_s {X : Int → Int} {LX : Nat} : ck_Ok p2_O X LX 286 p2_s1466 := ck_ok_s ⟨p2_nmu, ck_E0⟩ ck_X0 ck_l0 p2_s1466_e
set_option maxRecDepth 100000 in
/-- GlacierMailModel.in -/
def p2_s1468 : ck_Sum := ((0, 0, 0), 245, [.inl (ck_one 24), .inl (ck_one 1), .inl (ck_one 50)], ([], [], []), ([], []), [(.inr (some (.inl (ck_one 1))), 245, ([], [], []))])
set_option maxRecDepth 100000 in
theorem p2_s1468_e : ck_ok p2_O none [] [] 286 [] 88 p2_s1468 = true := by decide +kernel
theorem p2_s1468_s {X : Int → Int} {LX : Nat} : ck_Ok p2_O X LX 286 p2_s1468 := ck_ok_s ⟨p2_nmu, ck_E0⟩ ck_X0 ck_l0 p2_s1468_e
set_option maxRecDepth 100000 in
/-- GlacierMailModel.in -/
def p2_s1470 : ck_Sum := ((0, 0, 0), 245, [.inl (ck_one 25), .inl (ck_one 1), .inl (ck_one 50)], ([], [], []), ([], []), [(.inr (some (.inl (ck_one 1))), 245, ([], [], []))])
set_option maxRecDepth 100000 in
theorem p2_s1470_e : ck_ok p2_O none [] [] 286 [] 88 p2_s1470 = true := by decide +kernel
theorem p2_s1470_s {X : Int → Int} {LX : Nat} : ck_Ok p2_O X LX 286 p2_s1470 := ck_ok_s ⟨p2_nmu, ck_E0⟩ ck_X0 ck_l0 p2_s1470_e
set_option maxRecDepth 100000 in
/-- GlacierMailModel.in -/
def p2_s1472 : ck_Sum := ((0, 0, 0), 245, [.inl (ck_one 26), .inl (ck_one 1), .inl (ck_one 50)], ([], [], []), ([], []), [(.inr (some (.inl (ck_one 1))), 245, ([], [], []))])
set_option maxRecDepth 100000 in
theorem p2_s1472_e : ck_ok p2_O none [] [] 286 [] 88 p2_s1472 = true := by decide +kernel
theorem p2_s1472_s {X : Int → Int} {LX : Nat} : ck_Ok p2_O X LX 286 p2_s1472 := ck_ok_s ⟨p2_nmu, ck_E0⟩ ck_X0 ck_l0 p2_s1472_e
set_option maxRecDepth 100000 in
/-- GlacierMailModel.in -/
def p2_s1474 : ck_Sum := ((0, 0, 0), 245, [.inl (ck_one 27), .inl (ck_one 1), .inl (ck_one 50)], ([], [], []), ([], []), [(.inr (some (.inl (ck_one 1))), 245, ([], [], []))])
set_option maxRecDepth 100000 in
theorem p2_s1474_e : ck_ok p2_O none [] [] 286 [] 88 p2_s1474 = true := by decide +kernel
theorem p2_s1474_s {X : Int → Int} {LX : Nat} : ck_Ok p2_O X LX 286 p2_s1474 := ck_ok_s ⟨p2_nmu, ck_E0⟩ ck_X0 ck_l0 p2_s1474_e
set_option maxRecDepth 100000 in
/-- GlacierMailModel.in -/
def p2_s1476 : ck_Sum := ((0, 0, 0), 245, [.inl (ck_one 28), .inl (ck_one 1), .inl (ck_one 50)], ([], [], []), ([], []), [(.inr (some (.inl (ck_one 1))), 245, ([], [], []))])
set_option maxRecDepth 100000 in
theorem p2_s1476_e : ck_ok p2_O none [] [] 286 [] 88 p2_s1476 = true := by decide +kernel
theorem p2_s1476_s {X : Int → Int} {LX : Nat} : ck_Ok p2_O X LX 286 p2_s1476 := ck_ok_s ⟨p2_nmu, ck_E0⟩ ck_X0 ck_l0 p2_s1476_e
set_option maxRecDepth 100000 in
/-- GlacierMailModel.in -/
def p2_s1478 : ck_Sum := ((0, 0, 0), 245, [.inl (ck_one 29), .inl (ck_one 1), .inl (ck_one 50)], ([], [], []), ([], []), [(.inr (some (.inl (ck_one 1))), 245, ([], [], []))])
set_option maxRecDepth 100000 in
theorem p2_s1478_e : ck_ok p2_O none [] [] 286 [] 88 p2_s1478 = true := by decide +kernel
theorem p2_s1478_s {X : Int → Int} {LX : Nat} : ck_Ok p2_O X LX 286 p2_s1478 := ck_ok_s ⟨p2_nmu, ck_E0⟩ ck_X0 ck_l0 p2_s1478_e
set_option maxRecDepth 100000 in
/-- GlacierMailModel.in -/
def p2_s1480 : ck_Sum := ((0, 0, 0), 245, [.inl (ck_one 30), .inl (ck_one 1), .inl (ck_one 50)], ([], [], []), ([], []), [(.inr (some (.inl (ck_one 1))), 245, ([], [], []))])
set_option maxRecDepth 100000 in
theorem p2_s1480_e : ck_ok p2_O none [] [] 286 [] 88 p2_s1480 = true := by decide +kernel
theorem p2_s1480_s {X : Int → Int} {LX : Nat} : ck_Ok p2_O X LX 286 p2_s1480 := ck_ok_s ⟨p2_nmu, ck_E0⟩ ck_X0 ck_l0 p2_s1480_e
set_option maxRecDepth 100000 in
/-- GlacierMailModel.in -/
def p2_s1482 : ck_Sum := ((0, 0, 0), 245, [.inl (ck_one 31), .inl (ck_one 1), .inl (ck_one 50)], ([], [], []), ([], []), [(.inr (some (.inl (ck_one 1))), 245, ([], [], []))])
set_option maxRecDepth 100000 in
theorem p2_s1482_e : ck_ok p2_O none [] [] 286 [] 88 p2_s1482 = true := by decide +kernel
theorem p2_s1482_s {X : Int → Int} {LX : Nat} : ck_Ok p2_O X LX 286 p2_s1482 := ck_ok_s ⟨p2_nmu, ck_E0⟩ ck_X0 ck_l0 p2_s1482_e
set_option maxRecDepth 100000 in
/-- GlacierMailModel.in -/
def p2_s1484 : ck_Sum := ((0, 0, 0), 245, [.inl (ck_one 32), .inl (ck_one 1), .inl (ck_one 50)], ([], [], []), ([], []), [(.inr (some (.inl (ck_one 1))), 245, ([], [], []))])
set_option maxRecDepth 100000 in
theorem p2_s1484_e : ck_ok p2_O none [] [] 286 [] 88 p2_s1484 = true := by decide +kernel
theorem p2_s1484_s {X : Int → Int} {LX : Nat} : ck_Ok p2_O X LX 286 p2_s1484 := ck_ok_s ⟨p2_nmu, ck_E0⟩ ck_X0 ck_l0 p2_s1484_e
set_option maxRecDepth 100000 in
/-- GlacierMailModel.in -/
def p2_s1486 : ck_Sum := ((0, 0, 0), 245, [.inl (ck_one 33), .inl (ck_one 1), .inl (ck_one 50)], ([], [], []), ([], []), [(.inr (some (.inl (ck_one 1))), 245, ([], [], []))])
set_option maxRecDepth 100000 in
theorem p2_s1486_e : ck_ok p2_O none [] [] 286 [] 88 p2_s1486 = true := by decide +kernel
theorem p2_s1486_s {X : Int → Int} {LX : Nat} : ck_Ok p2_O X LX 286 p2_s1486 := ck_ok_s ⟨p2_nmu, ck_E0⟩ ck_X0 ck_l0 p2_s1486_e
set_option maxRecDepth 100000 in
/-- GlacierMailModel.in -/
def p2_s1488 : ck_Sum := ((0, 0, 0), 245, [.inl (ck_one 34), .inl (ck_one 1), .inl (ck_one 50)], ([], [], []), ([], []), [(.inr (some (.inl (ck_one 1))), 245, ([], [], []))])
set_option maxRecDepth 100000 in
theorem p2_s1488_e : ck_ok p2_O none [] [] 286 [] 88 p2_s1488 = true := by decide +kernel
theorem p2_s1488_s {X : Int → Int} {LX : Nat} : ck_Ok p2_O X LX 286 p2_s1488 := ck_ok_s ⟨p2_nmu, ck_E0⟩ ck_X0 ck_l0 p2_s1488_e
set_option maxRecDepth 100000 in
/-- GlacierMailModel.in -/
def p2_s1490 : ck_Sum := ((0, 0, 0), 245, [.inl (ck_one 35), .inl (ck_one 1), .inl (ck_one 50)], ([], [], []), ([], []), [(.inr (some (.inl (ck_one 1))), 245, ([], [], []))])
set_option maxRecDepth 100000 in
theorem p2_s1490_e : ck_ok p2_O none [] [] 286 [] 88 p2_s1490 = true := by decide +kernel
theorem p2_s1490_s {X : Int → Int} {LX : Nat} : ck_Ok p2_O X LX 286 p2_s1490 := ck_ok_s ⟨p2_nmu, ck_E0⟩ ck_X0 ck_l0 p2_s1490_e
set_option maxRecDepth 100000 in
/-- GlacierMailModel.in -/
def p2_s1492 : ck_Sum := ((0, 0, 0), 245, [.inl (ck_one 36), .inl (ck_one 1), .inl (ck_one 50)], ([], [], []), ([], []), [(.inr (some (.inl (ck_one 1))), 245, ([], [], []))])
set_option maxRecDepth 100000 in
theorem p2_s1492_e : ck_ok p2_O none [] [] 286 [] 88 p2_s1492 = true := by decide +kernel
theorem p2_s1492_s {X : Int → Int} {LX : Nat} : ck_Ok p2_O X LX 286 p2_s1492 := ck_ok_s ⟨p2_nmu, ck_E0⟩ ck_X0 ck_l0 p2_s1492_e
set_option maxRecDepth 100000 in
/-- GlacierMailModel.in -/
def p2_s1494 : ck_Sum := ((0, 0, 0), 245, [.inl (ck_one 37), .inl (ck_one 1), .inl (ck_one 50)], ([], [], []), ([], []), [(.inr (some (.inl (ck_one 1))), 245, ([], [], []))])
set_option maxRecDepth 100000 in
theorem p2_s1494_e : ck_ok p2_O none [] [] 286 [] 88 p2_s1494 = true := by decide +kernel
theorem p2_s1494_s {X : Int → Int} {LX : Nat} : ck_Ok p2_O X LX 286 p2_s1494 := ck_ok_s ⟨p2_nmu, ck_E0⟩ ck_X0 ck_l0 p2_s1494_e
set_option maxRecDepth 100000 in
/-- GlacierMailModel.in -/
def p2_s1496 : ck_Sum := ((0, 0, 0), 245, [.inl (ck_one 38), .inl (ck_one 1), .inl (ck_one 50)], ([], [], []), ([], []), [(.inr (some (.inl (ck_one 1))), 245, ([], [], []))])
set_option maxRecDepth 100000 in
theorem p2_s1496_e : ck_ok p2_O none [] [] 286 [] 88 p2_s1496 = true := by decide +kernel
theorem p2_s1496_s {X : Int → Int} {LX : Nat} : ck_Ok p2_O X LX 286 p2_s1496 := ck_ok_s ⟨p2_nmu, ck_E0⟩ ck_X0 ck_l0 p2_s1496_e
set_option maxRecDepth 100000 in
/-- GlacierMailModel.in -/
def p2_s1498 : ck_Sum := ((0, 0, 0), 245, [.inl (ck_one 39), .inl (ck_one 1), .inl (ck_one 50)], ([], [], []), ([], []), [(.inr (some (.inl (ck_one 1))), 245, ([], [], []))])
set_option maxRecDepth 100000 in
theorem p2_s1498_e : ck_ok p2_O none [] [] 286 [] 88 p2_s1498 = true := by decide +kernel
theorem p2_s1498_s {X : Int → Int} {LX : Nat} : ck_Ok p2_O X LX 286 p2_s1498 := ck_ok_s ⟨p2_nmu, ck_E0⟩ ck_X0 ck_l0 p2_s1498_e
set_option maxRecDepth 100000 in
/-- GlacierMailModel.in -/
def p2_s1500 : ck_Sum := ((0, 0, 0), 245, [.inl (ck_one 40), .inl (ck_one 1), .inl (ck_one 50)], ([], [], []), ([], []), [(.inr (some (.inl (ck_one 1))), 245, ([], [], []))])
set_option maxRecDepth 100000 in
theorem p2_s1500_e : ck_ok p2_O none [] [] 286 [] 88 p2_s1500 = true := by decide +kernel
theorem p2_s1500_s {X : Int → Int} {LX : Nat} : ck_Ok p2_O X LX 286 p2_s1500 := ck_ok_s ⟨p2_nmu, ck_E0⟩ ck_X0 ck_l0 p2_s1500_e
set_option maxRecDepth 100000 in
/-- GlacierMailModel.in -/
def p2_s1502 : ck_Sum := ((0, 0, 0), 245, [.inl (ck_one 41), .inl (ck_one 1), .inl (ck_one 50)], ([], [], []), ([], []), [(.inr (some (.inl (ck_one 1))), 245, ([], [], []))])
set_option maxRecDepth 100000 in
theorem p2_s1502_e : ck_ok p2_O none [] [] 286 [] 88 p2_s1502 = true := by decide +kernel
theorem p2_s1502_s {X : Int → Int} {LX : Nat} : ck_Ok p2_O X LX 286 p2_s1502 := ck_ok_s ⟨p2_nmu, ck_E0⟩ ck_X0 ck_l0 p2_s1502_e
set_option maxRecDepth 100000 in
/-- GlacierMailModel.in -/
def p2_s1504 : ck_Sum := ((0, 0, 0), 245, [.inl (ck_one 42), .inl (ck_one 1), .inl (ck_one 50)], ([], [], []), ([], []), [(.inr (some (.inl (ck_one 1))), 245, ([], [], []))])
set_option maxRecDepth 100000 in
theorem p2_s1504_e : ck_ok p2_O none [] [] 286 [] 88 p2_s1504 = true := by decide +kernel
theorem p2_s1504_s {X : Int → Int} {LX : Nat} : ck_Ok p2_O X LX 286 p2_s1504 := ck_ok_s ⟨p2_nmu, ck_E0⟩ ck_X0 ck_l0 p2_s1504_e
set_option maxRecDepth 100000 in
/-- GlacierMailModel.in -/
def p2_s1506 : ck_Sum := ((0, 0, 0), 245, [.inl (ck_one 43), .inl (ck_one 1), .inl (ck_one 50)], ([], [], []), ([], []), [(.inr (some (.inl (ck_one 1))), 245, ([], [], []))])
set_option maxRecDepth 100000 in
theorem p2_s1506_e : ck_ok p2_O none [] [] 286 [] 88 p2_s1506 = true := by decide +kernel
theorem p2_s1506_s {X : Int → Int} {LX : Nat} : ck_Ok p2_O X LX 286 p2_s1506 := ck_ok_s ⟨p2_nmu, ck_E0⟩ ck_X0 ck_l0 p2_s1506_e
set_option maxRecDepth 100000 in
/-- GlacierMailModel.in -/
def p2_s1508 : ck_Sum := ((0, 0, 0), 245, [.inl (ck_one 44), .inl (ck_one 1), .inl (ck_one 50)], ([], [], []), ([], []), [(.inr (some (.inl (ck_one 1))), 245, ([], [], []))])
set_option maxRecDepth 100000 in
theorem p2_s1508_e : ck_ok p2_O none [] [] 286 [] 88 p2_s1508 = true := by decide +kernel
theorem p2_s1508_s {X : Int → Int} {LX : Nat} : ck_Ok p2_O X LX 286 p2_s1508 := ck_ok_s ⟨p2_nmu, ck_E0⟩ ck_X0 ck_l0 p2_s1508_e
set_option maxRecDepth 100000 in
/-- GlacierMailModel.in -/
def p2_s1510 : ck_Sum := ((0, 0, 0), 245, [.inl (ck_one 45), .inl (ck_one 1), .inl (ck_one 50)], ([], [], []), ([], []), [(.inr (some (.inl (ck_one 1))), 245, ([], [], []))])
set_option maxRecDepth 100000 in
theorem p2_s1510_e : ck_ok p2_O none [] [] 286 [] 88 p2_s1510 = true := by decide +kernel
theorem p2_s1510_s {X : Int → Int} {LX : Nat} : ck_Ok p2_O X LX 286 p2_s1510 := ck_ok_s ⟨p2_nmu, ck_E0⟩ ck_X0 ck_l0 p2_s1510_e
set_option maxRecDepth 100000 in
/-- GlacierMailModel.in -/
def p2_s1512 : ck_Sum := ((0, 0, 0), 245, [.inl (ck_one 46), .inl (ck_one 1), .inl (ck_one 50)], ([], [], []), ([], []), [(.inr (some (.inl (ck_one 1))), 245, ([], [], []))])
set_option maxRecDepth 100000 in
theorem p2_s1512_e : ck_ok p2_O none [] [] 286 [] 88 p2_s1512 = true := by decide +kernel
theorem p2_s1512_s {X : Int → Int} {LX : Nat} : ck_Ok p2_O X LX 286 p2_s1512 := ck_ok_s ⟨p2_nmu, ck_E0⟩ ck_X0 ck_l0 p2_s1512_e
set_option maxRecDepth 100000 in
/-- GlacierMailModel.in -/
def p2_s1514 : ck_Sum := ((0, 0, 0), 245, [.inl (ck_one 47), .inl (ck_one 1), .inl (ck_one 50)], ([], [], []), ([], []), [(.inr (some (.inl (ck_one 1))), 245, ([], [], []))])
set_option maxRecDepth 100000 in
theorem p2_s1514_e : ck_ok p2_O none [] [] 286 [] 88 p2_s1514 = true := by decide +kernel
theorem p2_s1514_s {X : Int → Int} {LX : Nat} : ck_Ok p2_O X LX 286 p2_s1514 := ck_ok_s ⟨p2_nmu, ck_E0⟩ ck_X0 ck_l0 p2_s1514_e
set_option maxRecDepth 100000 in
/-- GlacierMailModel.in -/
def p2_s1516 : ck_Sum := ((0, 0, 0), 245, [.inl (ck_one 48), .inl (ck_one 1), .inl (ck_one 50)], ([], [], []), ([], []), [(.inr (some (.inl (ck_one 1))), 245, ([], [], []))])
set_option maxRecDepth 100000 in
theorem p2_s1516_e : ck_ok p2_O none [] [] 286 [] 88 p2_s1516 = true := by decide +kernel
theorem p2_s1516_s {X : Int → Int} {LX : Nat} : ck_Ok p2_O X LX 286 p2_s1516 := ck_ok_s ⟨p2_nmu, ck_E0⟩ ck_X0 ck_l0 p2_s1516_e
set_option maxRecDepth 100000 in
/-- GlacierMailModel.in -/
def p2_s1518 : ck_Sum := ((0, 0, 0), 245, [.inl (ck_one 49), .inl (ck_one 1), .inl (ck_one 50)], ([], [], []), ([], []), [(.inr (some (.inl (ck_one 1))), 245, ([], [], []))])
set_option maxRecDepth 100000 in
theorem p2_s1518_e : ck_ok p2_O none [] [] 286 [] 88 p2_s1518 = true := by decide +kernel
theorem p2_s1518_s {X : Int → Int} {LX : Nat} : ck_Ok p2_O X LX 286 p2_s1518 := ck_ok_s ⟨p2_nmu, ck_E0⟩ ck_X0 ck_l0 p2_s1518_e
set_option maxRecDepth 100000 in
/-- GlacierMailModel.in -/
def p2_s1520 : ck_Sum := ((0, 0, 0), 245, [.inl (ck_one 50), .inl (ck_one 1), .inl (ck_one 50)], ([], [], []), ([], []), [(.inr (some (.inl (ck_one 1))), 245, ([], [], []))])
set_option maxRecDepth 100000 in
theorem p2_s1520_e : ck_ok p2_O none [] [] 286 [] 88 p2_s1520 = true := by decide +kernel
theorem p2_s1520_s {X : Int → Int} {LX : Nat} : ck_Ok p2_O X LX 286 p2_s1520 := ck_ok_s ⟨p2_nmu, ck_E0⟩ ck_X0 ck_l0 p2_s1520_e
set_option maxRecDepth 100000 in
/-- GlacierMail.throwsFor -/
def p2_s1522 : ck_Sum := ((8, 1, 6), 245, [.inr (.inr (.inl 1)), .inl ((-2147483648), (-1), []), .inl ((-2147483648), 2147483647, []), .inl ((-2147483648), 2147483647, []), .inl ((-2147483648), 2147483647, [])], ([], [], []), ([], []), [(.inl 3, 245, ([], [], []))])
set_option maxRecDepth 100000 in
theorem p2_s1522_e : ck_ok p2_O none [] [(132, [p2_s293])] 167 [] 76 p2_s1522 = true := by decide +kernel
theorem p2_s1522_s {X : Int → Int} {LX : Nat} : ck_Ok p2_O X LX 167 p2_s1522 := ck_ok_s ⟨p2_nmu, ck_E1 (ck_S1 p2_s293_s ck_S0) ck_E0⟩ ck_X0 ck_l0 p2_s1522_e
set_option maxRecDepth 100000 in
/-- GlacierMail.throwsFor -/
def p2_s1523 : ck_Sum := ((8, 1, 6), 245, [.inr (.inr (.inl 1)), .inl (6, 2147483647, []), .inl ((-2147483648), 2147483647, []), .inl ((-2147483648), 2147483647, []), .inl ((-2147483648), 2147483647, [])], ([], [], []), ([], []), [(.inl 3, 245, ([], [], []))])
set_option maxRecDepth 100000 in
theorem p2_s1523_e : ck_ok p2_O none [] [(132, [p2_s296])] 167 [] 76 p2_s1523 = true := by decide +kernel
theorem p2_s1523_s {X : Int → Int} {LX : Nat} : ck_Ok p2_O X LX 167 p2_s1523 := ck_ok_s ⟨p2_nmu, ck_E1 (ck_S1 p2_s296_s ck_S0) ck_E0⟩ ck_X0 ck_l0 p2_s1523_e
set_option maxRecDepth 100000 in
/-- GlacierMail.throwsFor -/
def p2_s1524 : ck_Sum := ((8, 2, 12), 245, [.inr (.inr (.inl 1)), .inl (0, 5, []), .inl ((-2147483648), (-1), []), .inl ((-2147483648), 2147483647, []), .inl ((-2147483648), 2147483647, [])], ([], [], []), ([], []), [(.inl 3, 245, ([], [], [])), (.inl 0, 245, ([], [], []))])
set_option maxRecDepth 100000 in
theorem p2_s1524_e : ck_ok p2_O none [] [(132, [p2_s299]), (129, [p2_s276])] 167 [] 82 p2_s1524 = true := by decide +kernel
theorem p2_s1524_s {X : Int → Int} {LX : Nat} : ck_Ok p2_O X LX 167 p2_s1524 := ck_ok_s ⟨p2_nmu, ck_E1 (ck_S1 p2_s299_s ck_S0) (ck_E1 (ck_S1 p2_s276_s ck_S0) ck_E0)⟩ ck_X0 ck_l0 p2_s1524_e
set_option maxRecDepth 100000 in
/-- GlacierMail.throwsFor -/
def p2_s1525 : ck_Sum := ((8, 2, 12), 245, [.inr (.inr (.inl 1)), .inl (0, 5, []), .inl (300, 2147483647, []), .inl ((-2147483648), 2147483647, []), .inl ((-2147483648), 2147483647, [])], ([], [], []), ([], []), [(.inl 3, 245, ([], [], [])), (.inl 0, 245, ([], [], []))])
set_option maxRecDepth 100000 in
theorem p2_s1525_e : ck_ok p2_O none [] [(132, [p2_s299]), (129, [p2_s278])] 167 [] 82 p2_s1525 = true := by decide +kernel
theorem p2_s1525_s {X : Int → Int} {LX : Nat} : ck_Ok p2_O X LX 167 p2_s1525 := ck_ok_s ⟨p2_nmu, ck_E1 (ck_S1 p2_s299_s ck_S0) (ck_E1 (ck_S1 p2_s278_s ck_S0) ck_E0)⟩ ck_X0 ck_l0 p2_s1525_e
set_option maxRecDepth 100000 in
/-- GlacierMail.throwsFor -/
def p2_s1526 : ck_Sum := ((8, 2, 12), 245, [.inr (.inr (.inl 1)), .inl (0, 5, []), .inl (0, 299, []), .inl ((-2147483648), (-1), []), .inl ((-2147483648), 2147483647, [])], ([], [], []), ([], []), [(.inl 3, 245, ([], [], [])), (.inl 0, 245, ([], [], []))])
set_option maxRecDepth 100000 in
theorem p2_s1526_e : ck_ok p2_O none [] [(132, [p2_s299]), (129, [p2_s280, p2_s276])] 167 [] 88 p2_s1526 = true := by decide +kernel
theorem p2_s1526_s {X : Int → Int} {LX : Nat} : ck_Ok p2_O X LX 167 p2_s1526 := ck_ok_s ⟨p2_nmu, ck_E1 (ck_S1 p2_s299_s ck_S0) (ck_E1 (ck_S1 p2_s280_s (ck_S1 p2_s276_s ck_S0)) ck_E0)⟩ ck_X0 ck_l0 p2_s1526_e
set_option maxRecDepth 100000 in
/-- GlacierMail.throwsFor -/
def p2_s1527 : ck_Sum := ((8, 2, 12), 245, [.inr (.inr (.inl 1)), .inl (0, 5, []), .inl (0, 299, []), .inl (300, 2147483647, []), .inl ((-2147483648), 2147483647, [])], ([], [], []), ([], []), [(.inl 3, 245, ([], [], [])), (.inl 0, 245, ([], [], []))])
set_option maxRecDepth 100000 in
theorem p2_s1527_e : ck_ok p2_O none [] [(132, [p2_s299]), (129, [p2_s280, p2_s278])] 167 [] 88 p2_s1527 = true := by decide +kernel
theorem p2_s1527_s {X : Int → Int} {LX : Nat} : ck_Ok p2_O X LX 167 p2_s1527 := ck_ok_s ⟨p2_nmu, ck_E1 (ck_S1 p2_s299_s ck_S0) (ck_E1 (ck_S1 p2_s280_s (ck_S1 p2_s278_s ck_S0)) ck_E0)⟩ ck_X0 ck_l0 p2_s1527_e
set_option maxRecDepth 100000 in
/-- GlacierMail.throwsFor -/
def p2_s1528 : ck_Sum := ((8, 2, 12), 245, [.inr (.inr (.inl 1)), .inl (0, 5, []), .inl (0, 299, []), .inl (0, 299, []), .inl ((-2147483648), (-1), [])], ([], [], [(3, 6, 6, (0, 299, [(10, 0)]))]), ([], []), [(.inl 3, 245, ([], [], [])), (.inl 4, 245, ([], [], [])), (.inl 0, 245, ([], [], [(3, 6, 6, (1, 299, [(10, 0)]))]))])
set_option maxRecDepth 100000 in
theorem p2_s1528_e : ck_ok p2_O none [] [(132, [p2_s299]), (129, [p2_s280])] 167 [] 104 p2_s1528 = true := by decide +kernel
theorem p2_s1528_s {X : Int → Int} {LX : Nat} : ck_Ok p2_O X LX 167 p2_s1528 := ck_ok_s ⟨p2_nmu, ck_E1 (ck_S1 p2_s299_s ck_S0) (ck_E1 (ck_S1 p2_s280_s ck_S0) ck_E0)⟩ ck_X0 ck_l0 p2_s1528_e
set_option maxRecDepth 100000 in
/-- GlacierMail.throwsFor -/
def p2_s1529 : ck_Sum := ((8, 2, 12), 245, [.inr (.inr (.inl 1)), .inl (0, 5, []), .inl (0, 299, []), .inl (0, 299, []), .inl (10, 2147483647, [])], ([], [], [(3, 6, 6, (0, 299, [(10, 0)]))]), ([], []), [(.inl 3, 245, ([], [], [])), (.inl 4, 245, ([], [], [])), (.inl 0, 245, ([], [], [(3, 6, 6, (1, 299, [(10, 0)]))]))])
set_option maxRecDepth 100000 in
theorem p2_s1529_e : ck_ok p2_O none [] [(132, [p2_s299]), (129, [p2_s280])] 167 [] 110 p2_s1529 = true := by decide +kernel
theorem p2_s1529_s {X : Int → Int} {LX : Nat} : ck_Ok p2_O X LX 167 p2_s1529 := ck_ok_s ⟨p2_nmu, ck_E1 (ck_S1 p2_s299_s ck_S0) (ck_E1 (ck_S1 p2_s280_s ck_S0) ck_E0)⟩ ck_X0 ck_l0 p2_s1529_e
set_option maxRecDepth 100000 in
/-- GlacierMail$Way.start -/
def p2_s1530 : ck_Sum := ((0, 0, 0), 245, [.inr (.inr (.inl 206)), .inl ((-2147483648), 2147483647, []), .inl ((-2147483648), 2147483647, []), .inl (0, 299, []), .inl (0, 1, [])], ([], [], []), ([(206, 2, 8)], []), [(.inr none, 245, ([], [], [(206, 8, 8, ck_one 0), (206, 6, 6, ck_one 0), (206, 4, 4, ck_one (-1)), (206, 7, 7, (0, 299, []))]))])
set_option maxRecDepth 100000 in
theorem p2_s1530_e : ck_ok p2_O none [] [] 29 [] 114 p2_s1530 = true := by decide +kernel
theorem p2_s1530_s {X : Int → Int} {LX : Nat} : ck_Ok p2_O X LX 29 p2_s1530 := ck_ok_s ⟨p2_nmu, ck_E0⟩ ck_X0 ck_l0 p2_s1530_e
set_option maxRecDepth 100000 in
/-- GlacierMail.throwsFor -/
def p2_s1531 : ck_Sum := ((8, 2, 12), 245, [.inr (.inr (.inl 1)), .inl (0, 5, []), .inl (0, 299, []), .inl (0, 299, []), .inl (0, 9, [])], ([], [(3, 8, 0)], [(3, 6, 6, (0, 299, [(10, 0)]))]), ([(206, 2, 8)], []), [(.inl 3, 245, ([], [], [])), (.inl 4, 245, ([], [], [])), (.inl 0, 245, ([], [], [(3, 6, 6, (1, 299, [(10, 0)]))])), (.inr (some (.inl ((-2147483648), 2147483647, []))), 245, ([], [], []))])
set_option maxRecDepth 100000 in
theorem p2_s1531_e : ck_ok p2_O none [] [(132, [p2_s299]), (129, [p2_s280]), (29, [p2_s1530]), (30, [p2_s386])] 167 [(71, [some (.inr (.inr (.inl 1))), some (.inl (0, 5, [])), some (.inl (0, 299, [])), some (.inl (0, 299, [])), some (.inl (0, 2, [])), some (.inl ((-2147483648), 2147483647, [])), some (.inl ((-1), 167, [])), some (.inl ((-1), 167, [])), some (.inl (0, 167, []))], ([], [(3, 8, 0)], [(3, 6, 6, (0, 299, [(10, 0)]))]), 100, .inl 8, true)] 210 p2_s1531 = true := by decide +kernel
theorem p2_s1531_s {X : Int → Int} {LX : Nat} : ck_Ok p2_O X LX 167 p2_s1531 := ck_ok_s ⟨p2_nmu, ck_E1 (ck_S1 p2_s299_s ck_S0) (ck_E1 (ck_S1 p2_s280_s ck_S0) (ck_E1 (ck_S1 p2_s1530_s ck_S0) (ck_E1 (ck_S1 p2_s386_s ck_S0) ck_E0)))⟩ ck_X0 ck_l0 p2_s1531_e
set_option maxRecDepth 100000 in
/-- GlacierMailModel.throwsFor -/
def p2_s1532 : ck_Sum := ((2, 0, 0), 245, [.inr (.inr (.inl 226)), .inl ((-2147483648), (-1), []), .inl ((-2147483648), 2147483647, []), .inl ((-2147483648), 2147483647, []), .inl ((-2147483648), 2147483647, [])], ([], [], []), ([(226, 0, 0)], []), [(.inr (some (.inl (ck_one 0))), 245, ([], [], [(226, 0, 0, ck_one 1)]))])
set_option maxRecDepth 100000 in
theorem p2_s1532_e : ck_ok p2_O none [] [(288, [p2_s311]), (282, [p2_s268])] 324 [] 94 p2_s1532 = true := by decide +kernel
theorem p2_s1532_s {X : Int → Int} {LX : Nat} : ck_Ok p2_O X LX 324 p2_s1532 := ck_ok_s ⟨p2_nmu, ck_E1 (ck_S1 p2_s311_s ck_S0) (ck_E1 (ck_S1 p2_s268_s ck_S0) ck_E0)⟩ ck_X0 ck_l0 p2_s1532_e
set_option maxRecDepth 100000 in
/-- GlacierMailModel.throwsFor -/
def p2_s1533 : ck_Sum := ((2, 0, 0), 245, [.inr (.inr (.inl 226)), .inl (6, 2147483647, []), .inl ((-2147483648), 2147483647, []), .inl ((-2147483648), 2147483647, []), .inl ((-2147483648), 2147483647, [])], ([], [], []), ([(226, 0, 0)], []), [(.inr (some (.inl (ck_one 0))), 245, ([], [], [(226, 0, 0, ck_one 1)]))])
set_option maxRecDepth 100000 in
theorem p2_s1533_e : ck_ok p2_O none [] [(288, [p2_s314]), (282, [p2_s268])] 324 [] 94 p2_s1533 = true := by decide +kernel
theorem p2_s1533_s {X : Int → Int} {LX : Nat} : ck_Ok p2_O X LX 324 p2_s1533 := ck_ok_s ⟨p2_nmu, ck_E1 (ck_S1 p2_s314_s ck_S0) (ck_E1 (ck_S1 p2_s268_s ck_S0) ck_E0)⟩ ck_X0 ck_l0 p2_s1533_e
set_option maxRecDepth 100000 in
/-- GlacierMailModel.throwsFor -/
def p2_s1534 : ck_Sum := ((2, 0, 0), 245, [.inr (.inr (.inl 226)), .inl (0, 5, []), .inl ((-2147483648), (-1), []), .inl ((-2147483648), 2147483647, []), .inl ((-2147483648), 2147483647, [])], ([], [], []), ([(226, 0, 0)], []), [(.inr (some (.inl (ck_one 0))), 245, ([], [], [(226, 0, 0, (1, 2, []))]))])
set_option maxRecDepth 100000 in
theorem p2_s1534_e : ck_ok p2_O none [] [(288, [p2_s317]), (282, [p2_s268, p2_s269, p2_s272]), (285, [p2_s284])] 324 [] 112 p2_s1534 = true := by decide +kernel
theorem p2_s1534_s {X : Int → Int} {LX : Nat} : ck_Ok p2_O X LX 324 p2_s1534 := ck_ok_s ⟨p2_nmu, ck_E1 (ck_S1 p2_s317_s ck_S0) (ck_E1 (ck_S1 p2_s268_s (ck_S1 p2_s269_s (ck_S1 p2_s272_s ck_S0))) (ck_E1 (ck_S1 p2_s284_s ck_S0) ck_E0))⟩ ck_X0 ck_l0 p2_s1534_e
set_option maxRecDepth 100000 in
/-- GlacierMailModel.throwsFor -/
def p2_s1535 : ck_Sum := ((2, 0, 0), 245, [.inr (.inr (.inl 226)), .inl (0, 5, []), .inl (300, 2147483647, []), .inl ((-2147483648), 2147483647, []), .inl ((-2147483648), 2147483647, [])], ([], [], []), ([(226, 0, 0)], []), [(.inr (some (.inl (ck_one 0))), 245, ([], [], [(226, 0, 0, (1, 2, []))]))])
set_option maxRecDepth 100000 in
theorem p2_s1535_e : ck_ok p2_O none [] [(288, [p2_s317]), (282, [p2_s268, p2_s269, p2_s272]), (285, [p2_s287])] 324 [] 112 p2_s1535 = true := by decide +kernel
theorem p2_s1535_s {X : Int → Int} {LX : Nat} : ck_Ok p2_O X LX 324 p2_s1535 := ck_ok_s ⟨p2_nmu, ck_E1 (ck_S1 p2_s317_s ck_S0) (ck_E1 (ck_S1 p2_s268_s (ck_S1 p2_s269_s (ck_S1 p2_s272_s ck_S0))) (ck_E1 (ck_S1 p2_s287_s ck_S0) ck_E0))⟩ ck_X0 ck_l0 p2_s1535_e
set_option maxRecDepth 100000 in
/-- GlacierMailModel.throwsFor -/
def p2_s1536 : ck_Sum := ((2, 0, 0), 245, [.inr (.inr (.inl 226)), .inl (0, 5, []), .inl (0, 299, []), .inl ((-2147483648), (-1), []), .inl ((-2147483648), 2147483647, [])], ([], [], []), ([(226, 0, 0)], []), [(.inr (some (.inl (ck_one 0))), 245, ([], [], [(226, 0, 0, (1, 2, []))]))])
set_option maxRecDepth 100000 in
theorem p2_s1536_e : ck_ok p2_O none [] [(288, [p2_s317]), (282, [p2_s268, p2_s269, p2_s272]), (285, [p2_s290, p2_s284])] 324 [] 118 p2_s1536 = true := by decide +kernel
theorem p2_s1536_s {X : Int → Int} {LX : Nat} : ck_Ok p2_O X LX 324 p2_s1536 := ck_ok_s ⟨p2_nmu, ck_E1 (ck_S1 p2_s317_s ck_S0) (ck_E1 (ck_S1 p2_s268_s (ck_S1 p2_s269_s (ck_S1 p2_s272_s ck_S0))) (ck_E1 (ck_S1 p2_s290_s (ck_S1 p2_s284_s ck_S0)) ck_E0))⟩ ck_X0 ck_l0 p2_s1536_e
set_option maxRecDepth 100000 in
/-- GlacierMailModel.throwsFor -/
def p2_s1537 : ck_Sum := ((2, 0, 0), 245, [.inr (.inr (.inl 226)), .inl (0, 5, []), .inl (0, 299, []), .inl (300, 2147483647, []), .inl ((-2147483648), 2147483647, [])], ([], [], []), ([(226, 0, 0)], []), [(.inr (some (.inl (ck_one 0))), 245, ([], [], [(226, 0, 0, (1, 2, []))]))])
set_option maxRecDepth 100000 in
theorem p2_s1537_e : ck_ok p2_O none [] [(288, [p2_s317]), (282, [p2_s268, p2_s269, p2_s272]), (285, [p2_s290, p2_s287])] 324 [] 118 p2_s1537 = true := by decide +kernel
theorem p2_s1537_s {X : Int → Int} {LX : Nat} : ck_Ok p2_O X LX 324 p2_s1537 := ck_ok_s ⟨p2_nmu, ck_E1 (ck_S1 p2_s317_s ck_S0) (ck_E1 (ck_S1 p2_s268_s (ck_S1 p2_s269_s (ck_S1 p2_s272_s ck_S0))) (ck_E1 (ck_S1 p2_s290_s (ck_S1 p2_s287_s ck_S0)) ck_E0))⟩ ck_X0 ck_l0 p2_s1537_e
set_option maxRecDepth 100000 in
/-- GlacierMailModel.in -/
def p2_s1538 : ck_Sum := ((0, 0, 0), 245, [.inl ((-2147483648), (-1), []), .inl (ck_one 0), .inl (ck_one 2)], ([], [], []), ([], []), [(.inr (some (.inl (ck_one 0))), 245, ([], [], []))])
set_option maxRecDepth 100000 in
theorem p2_s1538_e : ck_ok p2_O none [] [] 286 [] 80 p2_s1538 = true := by decide +kernel
theorem p2_s1538_s {X : Int → Int} {LX : Nat} : ck_Ok p2_O X LX 286 p2_s1538 := ck_ok_s ⟨p2_nmu, ck_E0⟩ ck_X0 ck_l0 p2_s1538_e
set_option maxRecDepth 100000 in
/-- GlacierMailModel.throwsFor -/
def p2_s1539 : ck_Sum := ((2, 0, 0), 245, [.inr (.inr (.inl 226)), .inl (0, 5, []), .inl (0, 299, []), .inl (0, 299, []), .inl ((-2147483648), (-1), [])], ([], [], [(227, 9, 9, (0, 299, [(11, 0)]))]), ([(226, 0, 0)], []), [(.inr (some (.inl (ck_one 0))), 245, ([], [], [(226, 0, 0, (1, 3, []))]))])
set_option maxRecDepth 100000 in
theorem p2_s1539_e : ck_ok p2_O none [] [(288, [p2_s317]), (282, [p2_s268, p2_s269, p2_s270, p2_s697, p2_s272]), (285, [p2_s290]), (266, [p2_s207]), (286, [p2_s1538])] 324 [] 146 p2_s1539 = true := by decide +kernel
theorem p2_s1539_s {X : Int → Int} {LX : Nat} : ck_Ok p2_O X LX 324 p2_s1539 := ck_ok_s ⟨p2_nmu, ck_E1 (ck_S1 p2_s317_s ck_S0) (ck_E1 (ck_S1 p2_s268_s (ck_S1 p2_s269_s (ck_S1 p2_s270_s (ck_S1 p2_s697_s (ck_S1 p2_s272_s ck_S0))))) (ck_E1 (ck_S1 p2_s290_s ck_S0) (ck_E1 (ck_S1 p2_s207_s ck_S0) (ck_E1 (ck_S1 p2_s1538_s ck_S0) ck_E0))))⟩ ck_X0 ck_l0 p2_s1539_e
set_option maxRecDepth 100000 in
/-- GlacierMailModel.in -/
def p2_s1540 : ck_Sum := ((0, 0, 0), 245, [.inl (10, 2147483647, []), .inl (ck_one 0), .inl (ck_one 2)], ([], [], []), ([], []), [(.inr (some (.inl (ck_one 0))), 245, ([], [], []))])
set_option maxRecDepth 100000 in
theorem p2_s1540_e : ck_ok p2_O none [] [] 286 [] 86 p2_s1540 = true := by decide +kernel
theorem p2_s1540_s {X : Int → Int} {LX : Nat} : ck_Ok p2_O X LX 286 p2_s1540 := ck_ok_s ⟨p2_nmu, ck_E0⟩ ck_X0 ck_l0 p2_s1540_e
set_option maxRecDepth 100000 in
/-- GlacierMailModel.throwsFor -/
def p2_s1541 : ck_Sum := ((2, 0, 0), 245, [.inr (.inr (.inl 226)), .inl (0, 5, []), .inl (0, 299, []), .inl (0, 299, []), .inl (10, 2147483647, [])], ([], [], [(227, 9, 9, (0, 299, [(11, 0)]))]), ([(226, 0, 0)], []), [(.inr (some (.inl (ck_one 0))), 245, ([], [], [(226, 0, 0, (1, 3, []))]))])
set_option maxRecDepth 100000 in
theorem p2_s1541_e : ck_ok p2_O none [] [(288, [p2_s317]), (282, [p2_s268, p2_s269, p2_s270, p2_s697, p2_s272]), (285, [p2_s290]), (266, [p2_s207]), (286, [p2_s1540])] 324 [] 146 p2_s1541 = true := by decide +kernel
theorem p2_s1541_s {X : Int → Int} {LX : Nat} : ck_Ok p2_O X LX 324 p2_s1541 := ck_ok_s ⟨p2_nmu, ck_E1 (ck_S1 p2_s317_s ck_S0) (ck_E1 (ck_S1 p2_s268_s (ck_S1 p2_s269_s (ck_S1 p2_s270_s (ck_S1 p2_s697_s (ck_S1 p2_s272_s ck_S0))))) (ck_E1 (ck_S1 p2_s290_s ck_S0) (ck_E1 (ck_S1 p2_s207_s ck_S0) (ck_E1 (ck_S1 p2_s1540_s ck_S0) ck_E0))))⟩ ck_X0 ck_l0 p2_s1541_e
set_option maxRecDepth 100000 in
/-- GlacierMailModel.in -/
def p2_s1542 : ck_Sum := ((0, 0, 0), 245, [.inl (0, 9, []), .inl (ck_one 0), .inl (ck_one 2)], ([], [], []), ([], []), [(.inr (some (.inl (ck_one 0))), 245, ([], [], [])), (.inr (some (.inl (ck_one 1))), 245, ([], [], []))])
set_option maxRecDepth 100000 in
theorem p2_s1542_e : ck_ok p2_O none [] [] 286 [] 88 p2_s1542 = true := by decide +kernel
theorem p2_s1542_s {X : Int → Int} {LX : Nat} : ck_Ok p2_O X LX 286 p2_s1542 := ck_ok_s ⟨p2_nmu, ck_E0⟩ ck_X0 ck_l0 p2_s1542_e
set_option maxRecDepth 100000 in
/-- GlacierMail.latest -/
def p2_s1545 : ck_Sum := ((8, 1, 6), 245, [.inr (.inr (.inl 1)), .inl ((-2147483648), (-1), []), .inl ((-2147483648), 2147483647, [])], ([], [], []), ([], []), [(.inl 3, 245, ([], [], []))])
set_option maxRecDepth 100000 in
theorem p2_s1545_e : ck_ok p2_O none [] [(139, [p2_s362])] 169 [] 76 p2_s1545 = true := by decide +kernel
theorem p2_s1545_s {X : Int → Int} {LX : Nat} : ck_Ok p2_O X LX 169 p2_s1545 := ck_ok_s ⟨p2_nmu, ck_E1 (ck_S1 p2_s362_s ck_S0) ck_E0⟩ ck_X0 ck_l0 p2_s1545_e
set_option maxRecDepth 100000 in
/-- GlacierMail.latest -/
def p2_s1546 : ck_Sum := ((8, 1, 6), 245, [.inr (.inr (.inl 1)), .inl (8, 2147483647, []), .inl ((-2147483648), 2147483647, [])], ([], [], []), ([], []), [(.inl 3, 245, ([], [], []))])
set_option maxRecDepth 100000 in
theorem p2_s1546_e : ck_ok p2_O none [] [(139, [p2_s365])] 169 [] 76 p2_s1546 = true := by decide +kernel
theorem p2_s1546_s {X : Int → Int} {LX : Nat} : ck_Ok p2_O X LX 169 p2_s1546 := ck_ok_s ⟨p2_nmu, ck_E1 (ck_S1 p2_s365_s ck_S0) ck_E0⟩ ck_X0 ck_l0 p2_s1546_e
set_option maxRecDepth 100000 in
/-- GlacierMail.latest -/
def p2_s1547 : ck_Sum := ((8, 2, 12), 245, [.inr (.inr (.inl 1)), .inl (0, 7, []), .inl ((-2147483648), (-1), [])], ([], [], []), ([], []), [(.inl 3, 245, ([], [], [])), (.inl 0, 245, ([], [], []))])
set_option maxRecDepth 100000 in
theorem p2_s1547_e : ck_ok p2_O none [] [(139, [p2_s368]), (129, [p2_s276])] 169 [] 82 p2_s1547 = true := by decide +kernel
theorem p2_s1547_s {X : Int → Int} {LX : Nat} : ck_Ok p2_O X LX 169 p2_s1547 := ck_ok_s ⟨p2_nmu, ck_E1 (ck_S1 p2_s368_s ck_S0) (ck_E1 (ck_S1 p2_s276_s ck_S0) ck_E0)⟩ ck_X0 ck_l0 p2_s1547_e
set_option maxRecDepth 100000 in
/-- GlacierMail.latest -/
def p2_s1548 : ck_Sum := ((8, 2, 12), 245, [.inr (.inr (.inl 1)), .inl (0, 7, []), .inl (300, 2147483647, [])], ([], [], []), ([], []), [(.inl 3, 245, ([], [], [])), (.inl 0, 245, ([], [], []))])
set_option maxRecDepth 100000 in
theorem p2_s1548_e : ck_ok p2_O none [] [(139, [p2_s368]), (129, [p2_s278])] 169 [] 82 p2_s1548 = true := by decide +kernel
theorem p2_s1548_s {X : Int → Int} {LX : Nat} : ck_Ok p2_O X LX 169 p2_s1548 := ck_ok_s ⟨p2_nmu, ck_E1 (ck_S1 p2_s368_s ck_S0) (ck_E1 (ck_S1 p2_s278_s ck_S0) ck_E0)⟩ ck_X0 ck_l0 p2_s1548_e
set_option maxRecDepth 100000 in
/-- GlacierMail$Way.startHut -/
def p2_s1549 : ck_Sum := ((1, 0, 0), 245, [.inr (.inr (.inl 206)), .inl (0, 7, []), .inl (0, 299, [])], ([], [], []), ([(206, 2, 8)], []), [(.inr none, 245, ([], [], [(206, 8, 8, ck_one 0), (206, 6, 6, ck_one 0), (206, 4, 4, ck_one (-1)), (206, 7, 7, (0, 299, []))]))])
set_option maxRecDepth 100000 in
theorem p2_s1549_e : ck_ok p2_O none [] [(10, [p2_s450]), (29, [p2_s1530])] 170 [] 104 p2_s1549 = true := by decide +kernel
theorem p2_s1549_s {X : Int → Int} {LX : Nat} : ck_Ok p2_O X LX 170 p2_s1549 := ck_ok_s ⟨p2_nmu, ck_E1 (ck_S1 p2_s450_s ck_S0) (ck_E1 (ck_S1 p2_s1530_s ck_S0) ck_E0)⟩ ck_X0 ck_l0 p2_s1549_e
set_option maxRecDepth 100000 in
/-- GlacierMail.latest -/
def p2_s1550 : ck_Sum := ((8, 1, 6), 245, [.inr (.inr (.inl 1)), .inl (0, 7, []), .inl (0, 299, [])], ([], [(3, 8, 0)], [(3, 6, 6, (0, 299, [(10, 0)]))]), ([(206, 2, 8)], []), [(.inl 3, 245, ([], [], [])), (.inr (some (.inl (ck_one (-1)))), 245, ([], [], [])), (.inr (some (.inl (0, 299, []))), 245, ([], [], [(206, 4, 4, ck_one (-1))]))])
set_option maxRecDepth 100000 in
theorem p2_s1550_e : ck_ok p2_O none [] [(139, [p2_s368]), (129, [p2_s280]), (170, [p2_s1549]), (30, [p2_s386])] 169 [(12, [some (.inr (.inr (.inl 1))), some (.inl (0, 7, [])), some (.inl (0, 299, [])), some (.inl ((-1), 299, []))], ([], [(3, 8, 0)], [(3, 6, 6, (0, 299, [(10, 0)]))]), 100, .inl 3, false)] 166 p2_s1550 = true := by decide +kernel
theorem p2_s1550_s {X : Int → Int} {LX : Nat} : ck_Ok p2_O X LX 169 p2_s1550 := ck_ok_s ⟨p2_nmu, ck_E1 (ck_S1 p2_s368_s ck_S0) (ck_E1 (ck_S1 p2_s280_s ck_S0) (ck_E1 (ck_S1 p2_s1549_s ck_S0) (ck_E1 (ck_S1 p2_s386_s ck_S0) ck_E0)))⟩ ck_X0 ck_l0 p2_s1550_e
set_option maxRecDepth 100000 in
/-- GlacierMailModel.latest -/
def p2_s1551 : ck_Sum := ((2, 0, 0), 245, [.inr (.inr (.inl 226)), .inl ((-2147483648), (-1), []), .inl ((-2147483648), 2147483647, [])], ([], [], [(227, 3, 3, (0, 8, [(21, 0)]))]), ([(226, 0, 0)], []), [(.inr (some (.inl (ck_one 0))), 245, ([], [], [(226, 0, 0, ck_one 1)]))])
set_option maxRecDepth 100000 in
theorem p2_s1551_e : ck_ok p2_O none [] [(298, [p2_s453]), (282, [p2_s268])] 326 [] 94 p2_s1551 = true := by decide +kernel
theorem p2_s1551_s {X : Int → Int} {LX : Nat} : ck_Ok p2_O X LX 326 p2_s1551 := ck_ok_s ⟨p2_nmu, ck_E1 (ck_S1 p2_s453_s ck_S0) (ck_E1 (ck_S1 p2_s268_s ck_S0) ck_E0)⟩ ck_X0 ck_l0 p2_s1551_e
set_option maxRecDepth 100000 in
/-- GlacierMailModel.latest -/
def p2_s1552 : ck_Sum := ((2, 0, 0), 245, [.inr (.inr (.inl 226)), .inl (8, 2147483647, []), .inl ((-2147483648), 2147483647, [])], ([], [], [(227, 3, 3, (0, 8, [(21, 0)]))]), ([(226, 0, 0)], []), [(.inr (some (.inl (ck_one 0))), 245, ([], [], [(226, 0, 0, ck_one 1)]))])
set_option maxRecDepth 100000 in
theorem p2_s1552_e : ck_ok p2_O none [] [(298, [p2_s456]), (282, [p2_s268])] 326 [] 94 p2_s1552 = true := by decide +kernel
theorem p2_s1552_s {X : Int → Int} {LX : Nat} : ck_Ok p2_O X LX 326 p2_s1552 := ck_ok_s ⟨p2_nmu, ck_E1 (ck_S1 p2_s456_s ck_S0) (ck_E1 (ck_S1 p2_s268_s ck_S0) ck_E0)⟩ ck_X0 ck_l0 p2_s1552_e
set_option maxRecDepth 100000 in
/-- GlacierMailModel.latest -/
def p2_s1553 : ck_Sum := ((2, 0, 0), 245, [.inr (.inr (.inl 226)), .inl (0, 7, []), .inl ((-2147483648), (-1), [])], ([], [], [(227, 3, 3, (0, 8, [(21, 0)]))]), ([(226, 0, 0)], []), [(.inr (some (.inl (ck_one 0))), 245, ([], [], [(226, 0, 0, (1, 2, []))]))])
set_option maxRecDepth 100000 in
theorem p2_s1553_e : ck_ok p2_O none [] [(298, [p2_s459]), (282, [p2_s268, p2_s269, p2_s272]), (285, [p2_s284])] 326 [] 106 p2_s1553 = true := by decide +kernel
theorem p2_s1553_s {X : Int → Int} {LX : Nat} : ck_Ok p2_O X LX 326 p2_s1553 := ck_ok_s ⟨p2_nmu, ck_E1 (ck_S1 p2_s459_s ck_S0) (ck_E1 (ck_S1 p2_s268_s (ck_S1 p2_s269_s (ck_S1 p2_s272_s ck_S0))) (ck_E1 (ck_S1 p2_s284_s ck_S0) ck_E0))⟩ ck_X0 ck_l0 p2_s1553_e
set_option maxRecDepth 100000 in
/-- GlacierMailModel.latest -/
def p2_s1554 : ck_Sum := ((2, 0, 0), 245, [.inr (.inr (.inl 226)), .inl (0, 7, []), .inl (300, 2147483647, [])], ([], [], [(227, 3, 3, (0, 8, [(21, 0)]))]), ([(226, 0, 0)], []), [(.inr (some (.inl (ck_one 0))), 245, ([], [], [(226, 0, 0, (1, 2, []))]))])
set_option maxRecDepth 100000 in
theorem p2_s1554_e : ck_ok p2_O none [] [(298, [p2_s459]), (282, [p2_s268, p2_s269, p2_s272]), (285, [p2_s287])] 326 [] 106 p2_s1554 = true := by decide +kernel
theorem p2_s1554_s {X : Int → Int} {LX : Nat} : ck_Ok p2_O X LX 326 p2_s1554 := ck_ok_s ⟨p2_nmu, ck_E1 (ck_S1 p2_s459_s ck_S0) (ck_E1 (ck_S1 p2_s268_s (ck_S1 p2_s269_s (ck_S1 p2_s272_s ck_S0))) (ck_E1 (ck_S1 p2_s287_s ck_S0) ck_E0))⟩ ck_X0 ck_l0 p2_s1554_e
set_option maxRecDepth 100000 in
/-- GlacierMail.hut -/
def p2_s1556 : ck_Sum := ((8, 1, 6), 245, [.inr (.inr (.inl 1)), .inl ((-2147483648), (-1), []), .inl ((-2147483648), 2147483647, [])], ([], [], []), ([], []), [(.inl 3, 245, ([], [], []))])
set_option maxRecDepth 100000 in
theorem p2_s1556_e : ck_ok p2_O none [] [(132, [p2_s293])] 172 [] 76 p2_s1556 = true := by decide +kernel
theorem p2_s1556_s {X : Int → Int} {LX : Nat} : ck_Ok p2_O X LX 172 p2_s1556 := ck_ok_s ⟨p2_nmu, ck_E1 (ck_S1 p2_s293_s ck_S0) ck_E0⟩ ck_X0 ck_l0 p2_s1556_e
set_option maxRecDepth 100000 in
/-- GlacierMail.hut -/
def p2_s1557 : ck_Sum := ((8, 1, 6), 245, [.inr (.inr (.inl 1)), .inl (6, 2147483647, []), .inl ((-2147483648), 2147483647, [])], ([], [], []), ([], []), [(.inl 3, 245, ([], [], []))])
set_option maxRecDepth 100000 in
theorem p2_s1557_e : ck_ok p2_O none [] [(132, [p2_s296])] 172 [] 76 p2_s1557 = true := by decide +kernel
theorem p2_s1557_s {X : Int → Int} {LX : Nat} : ck_Ok p2_O X LX 172 p2_s1557 := ck_ok_s ⟨p2_nmu, ck_E1 (ck_S1 p2_s296_s ck_S0) ck_E0⟩ ck_X0 ck_l0 p2_s1557_e
set_option maxRecDepth 100000 in
/-- GlacierMail.hut -/
def p2_s1558 : ck_Sum := ((8, 2, 12), 245, [.inr (.inr (.inl 1)), .inl (0, 5, []), .inl ((-2147483648), (-1), [])], ([], [], []), ([], []), [(.inl 3, 245, ([], [], [])), (.inl 0, 245, ([], [], []))])
set_option maxRecDepth 100000 in
theorem p2_s1558_e : ck_ok p2_O none [] [(132, [p2_s299])] 172 [] 84 p2_s1558 = true := by decide +kernel
theorem p2_s1558_s {X : Int → Int} {LX : Nat} : ck_Ok p2_O X LX 172 p2_s1558 := ck_ok_s ⟨p2_nmu, ck_E1 (ck_S1 p2_s299_s ck_S0) ck_E0⟩ ck_X0 ck_l0 p2_s1558_e
set_option maxRecDepth 100000 in
/-- GlacierMail.hut -/
def p2_s1559 : ck_Sum := ((8, 2, 12), 245, [.inr (.inr (.inl 1)), .inl (0, 5, []), .inl (300, 2147483647, [])], ([], [], []), ([], []), [(.inl 3, 245, ([], [], [])), (.inl 0, 245, ([], [], []))])
set_option maxRecDepth 100000 in
theorem p2_s1559_e : ck_ok p2_O none [] [(132, [p2_s299])] 172 [] 90 p2_s1559 = true := by decide +kernel
theorem p2_s1559_s {X : Int → Int} {LX : Nat} : ck_Ok p2_O X LX 172 p2_s1559 := ck_ok_s ⟨p2_nmu, ck_E1 (ck_S1 p2_s299_s ck_S0) ck_E0⟩ ck_X0 ck_l0 p2_s1559_e
set_option maxRecDepth 100000 in
/-- GlacierMail.hut -/
def p2_s1560 : ck_Sum := ((8, 2, 12), 245, [.inr (.inr (.inl 1)), .inl (0, 5, []), .inl (0, 299, [])], ([], [(3, 8, 0)], [(3, 6, 6, (0, 299, [(10, 0)]))]), ([(206, 2, 8)], []), [(.inl 3, 245, ([], [], [])), (.inl 0, 245, ([], [], [])), (.inr (some (.inl (ck_one (-1)))), 245, ([], [], [])), (.inr (some (.inl (0, 98, []))), 245, ([], [], [(206, 4, 4, ck_one (-1))]))])
set_option maxRecDepth 100000 in
theorem p2_s1560_e : ck_ok p2_O none [] [(132, [p2_s299]), (29, [p2_s1530]), (30, [p2_s386])] 172 [(47, [some (.inr (.inr (.inl 1))), some (.inl (0, 5, [])), some (.inl (1, 299, [])), some (.inl (1, 299, [])), some (.inl (0, 167, []))], ([], [(3, 8, 0)], [(3, 6, 6, (0, 299, [(10, 0)]))]), 100, .inl 4, true)] 182 p2_s1560 = true := by decide +kernel
theorem p2_s1560_s {X : Int → Int} {LX : Nat} : ck_Ok p2_O X LX 172 p2_s1560 := ck_ok_s ⟨p2_nmu, ck_E1 (ck_S1 p2_s299_s ck_S0) (ck_E1 (ck_S1 p2_s1530_s ck_S0) (ck_E1 (ck_S1 p2_s386_s ck_S0) ck_E0))⟩ ck_X0 ck_l0 p2_s1560_e
set_option maxRecDepth 100000 in
/-- GlacierMailModel.hut -/
def p2_s1561 : ck_Sum := ((2, 0, 0), 245, [.inr (.inr (.inl 226)), .inl ((-2147483648), (-1), []), .inl ((-2147483648), 2147483647, [])], ([], [], []), ([(226, 0, 0)], []), [(.inr (some (.inl (ck_one 0))), 245, ([], [], [(226, 0, 0, ck_one 1)]))])
set_option maxRecDepth 100000 in
theorem p2_s1561_e : ck_ok p2_O none [] [(288, [p2_s311]), (282, [p2_s268])] 327 [] 94 p2_s1561 = true := by decide +kernel
theorem p2_s1561_s {X : Int → Int} {LX : Nat} : ck_Ok p2_O X LX 327 p2_s1561 := ck_ok_s ⟨p2_nmu, ck_E1 (ck_S1 p2_s311_s ck_S0) (ck_E1 (ck_S1 p2_s268_s ck_S0) ck_E0)⟩ ck_X0 ck_l0 p2_s1561_e
set_option maxRecDepth 100000 in
/-- GlacierMailModel.hut -/
def p2_s1562 : ck_Sum := ((2, 0, 0), 245, [.inr (.inr (.inl 226)), .inl (6, 2147483647, []), .inl ((-2147483648), 2147483647, [])], ([], [], []), ([(226, 0, 0)], []), [(.inr (some (.inl (ck_one 0))), 245, ([], [], [(226, 0, 0, ck_one 1)]))])
set_option maxRecDepth 100000 in
theorem p2_s1562_e : ck_ok p2_O none [] [(288, [p2_s314]), (282, [p2_s268])] 327 [] 94 p2_s1562 = true := by decide +kernel
theorem p2_s1562_s {X : Int → Int} {LX : Nat} : ck_Ok p2_O X LX 327 p2_s1562 := ck_ok_s ⟨p2_nmu, ck_E1 (ck_S1 p2_s314_s ck_S0) (ck_E1 (ck_S1 p2_s268_s ck_S0) ck_E0)⟩ ck_X0 ck_l0 p2_s1562_e
set_option maxRecDepth 100000 in
/-- GlacierMailModel.in -/
def p2_s1563 : ck_Sum := ((0, 0, 0), 245, [.inl ((-2147483648), (-1), []), .inl (ck_one 1), .inl (ck_one 299)], ([], [], []), ([], []), [(.inr (some (.inl (ck_one 0))), 245, ([], [], []))])
set_option maxRecDepth 100000 in
theorem p2_s1563_e : ck_ok p2_O none [] [] 286 [] 80 p2_s1563 = true := by decide +kernel
theorem p2_s1563_s {X : Int → Int} {LX : Nat} : ck_Ok p2_O X LX 286 p2_s1563 := ck_ok_s ⟨p2_nmu, ck_E0⟩ ck_X0 ck_l0 p2_s1563_e
set_option maxRecDepth 100000 in
/-- GlacierMailModel.hut -/
def p2_s1564 : ck_Sum := ((2, 0, 0), 245, [.inr (.inr (.inl 226)), .inl (0, 5, []), .inl ((-2147483648), (-1), [])], ([], [], []), ([(226, 0, 0)], []), [(.inr (some (.inl (ck_one 0))), 245, ([], [], [(226, 0, 0, (1, 2, []))]))])
set_option maxRecDepth 100000 in
theorem p2_s1564_e : ck_ok p2_O none [] [(288, [p2_s317]), (282, [p2_s268, p2_s269, p2_s272]), (286, [p2_s1563])] 327 [] 116 p2_s1564 = true := by decide +kernel
theorem p2_s1564_s {X : Int → Int} {LX : Nat} : ck_Ok p2_O X LX 327 p2_s1564 := ck_ok_s ⟨p2_nmu, ck_E1 (ck_S1 p2_s317_s ck_S0) (ck_E1 (ck_S1 p2_s268_s (ck_S1 p2_s269_s (ck_S1 p2_s272_s ck_S0))) (ck_E1 (ck_S1 p2_s1563_s ck_S0) ck_E0))⟩ ck_X0 ck_l0 p2_s1564_e
set_option maxRecDepth 100000 in
/-- GlacierMailModel.in -/
def p2_s1565 : ck_Sum := ((0, 0, 0), 245, [.inl (300, 2147483647, []), .inl (ck_one 1), .inl (ck_one 299)], ([], [], []), ([], []), [(.inr (some (.inl (ck_one 0))), 245, ([], [], []))])
set_option maxRecDepth 100000 in
theorem p2_s1565_e : ck_ok p2_O none [] [] 286 [] 86 p2_s1565 = true := by decide +kernel
theorem p2_s1565_s {X : Int → Int} {LX : Nat} : ck_Ok p2_O X LX 286 p2_s1565 := ck_ok_s ⟨p2_nmu, ck_E0⟩ ck_X0 ck_l0 p2_s1565_e
set_option maxRecDepth 100000 in
/-- GlacierMailModel.hut -/
def p2_s1566 : ck_Sum := ((2, 0, 0), 245, [.inr (.inr (.inl 226)), .inl (0, 5, []), .inl (300, 2147483647, [])], ([], [], []), ([(226, 0, 0)], []), [(.inr (some (.inl (ck_one 0))), 245, ([], [], [(226, 0, 0, (1, 2, []))]))])
set_option maxRecDepth 100000 in
theorem p2_s1566_e : ck_ok p2_O none [] [(288, [p2_s317]), (282, [p2_s268, p2_s269, p2_s272]), (286, [p2_s1565])] 327 [] 116 p2_s1566 = true := by decide +kernel
theorem p2_s1566_s {X : Int → Int} {LX : Nat} : ck_Ok p2_O X LX 327 p2_s1566 := ck_ok_s ⟨p2_nmu, ck_E1 (ck_S1 p2_s317_s ck_S0) (ck_E1 (ck_S1 p2_s268_s (ck_S1 p2_s269_s (ck_S1 p2_s272_s ck_S0))) (ck_E1 (ck_S1 p2_s1565_s ck_S0) ck_E0))⟩ ck_X0 ck_l0 p2_s1566_e
set_option maxRecDepth 100000 in
/-- GlacierMailModel.in -/
def p2_s1567 : ck_Sum := ((0, 0, 0), 245, [.inl (0, 299, []), .inl (ck_one 1), .inl (ck_one 299)], ([], [], []), ([], []), [(.inr (some (.inl (ck_one 0))), 245, ([], [], [])), (.inr (some (.inl (ck_one 1))), 245, ([], [], []))])
set_option maxRecDepth 100000 in
theorem p2_s1567_e : ck_ok p2_O none [] [] 286 [] 88 p2_s1567 = true := by decide +kernel
theorem p2_s1567_s {X : Int → Int} {LX : Nat} : ck_Ok p2_O X LX 286 p2_s1567 := ck_ok_s ⟨p2_nmu, ck_E0⟩ ck_X0 ck_l0 p2_s1567_e
set_option maxRecDepth 100000 in
/-- GlacierMail.without -/
def p2_s1569 : ck_Sum := ((8, 1, 6), 245, [.inr (.inr (.inl 1)), .inl ((-2147483648), (-1), []), .inl ((-2147483648), 2147483647, [])], ([], [], []), ([], []), [(.inl 3, 245, ([], [], []))])
set_option maxRecDepth 100000 in
theorem p2_s1569_e : ck_ok p2_O none [] [(143, [p2_s525])] 174 [] 76 p2_s1569 = true := by decide +kernel
theorem p2_s1569_s {X : Int → Int} {LX : Nat} : ck_Ok p2_O X LX 174 p2_s1569 := ck_ok_s ⟨p2_nmu, ck_E1 (ck_S1 p2_s525_s ck_S0) ck_E0⟩ ck_X0 ck_l0 p2_s1569_e
set_option maxRecDepth 100000 in
/-- GlacierMail.without -/
def p2_s1570 : ck_Sum := ((8, 1, 6), 245, [.inr (.inr (.inl 1)), .inl (24, 2147483647, []), .inl ((-2147483648), 2147483647, [])], ([], [], []), ([], []), [(.inl 3, 245, ([], [], []))])
set_option maxRecDepth 100000 in
theorem p2_s1570_e : ck_ok p2_O none [] [(143, [p2_s528])] 174 [] 76 p2_s1570 = true := by decide +kernel
theorem p2_s1570_s {X : Int → Int} {LX : Nat} : ck_Ok p2_O X LX 174 p2_s1570 := ck_ok_s ⟨p2_nmu, ck_E1 (ck_S1 p2_s528_s ck_S0) ck_E0⟩ ck_X0 ck_l0 p2_s1570_e
set_option maxRecDepth 100000 in
/-- GlacierMail.without -/
def p2_s1571 : ck_Sum := ((8, 2, 12), 245, [.inr (.inr (.inl 1)), .inl (0, 23, []), .inl ((-2147483648), (-1), [])], ([], [], []), ([], []), [(.inl 3, 245, ([], [], []))])
set_option maxRecDepth 100000 in
theorem p2_s1571_e : ck_ok p2_O none [] [(143, [p2_s531]), (9, [p2_s159]), (133, [p2_s361])] 174 [] 90 p2_s1571 = true := by decide +kernel
theorem p2_s1571_s {X : Int → Int} {LX : Nat} : ck_Ok p2_O X LX 174 p2_s1571 := ck_ok_s ⟨p2_nmu, ck_E1 (ck_S1 p2_s531_s ck_S0) (ck_E1 (ck_S1 p2_s159_s ck_S0) (ck_E1 (ck_S1 p2_s361_s ck_S0) ck_E0))⟩ ck_X0 ck_l0 p2_s1571_e
set_option maxRecDepth 100000 in
/-- GlacierMail.without -/
def p2_s1572 : ck_Sum := ((8, 2, 12), 245, [.inr (.inr (.inl 1)), .inl (0, 23, []), .inl (8, 2147483647, [])], ([], [], []), ([], []), [(.inl 3, 245, ([], [], []))])
set_option maxRecDepth 100000 in
theorem p2_s1572_e : ck_ok p2_O none [] [(143, [p2_s531]), (9, [p2_s159]), (133, [p2_s364])] 174 [] 90 p2_s1572 = true := by decide +kernel
theorem p2_s1572_s {X : Int → Int} {LX : Nat} : ck_Ok p2_O X LX 174 p2_s1572 := ck_ok_s ⟨p2_nmu, ck_E1 (ck_S1 p2_s531_s ck_S0) (ck_E1 (ck_S1 p2_s159_s ck_S0) (ck_E1 (ck_S1 p2_s364_s ck_S0) ck_E0))⟩ ck_X0 ck_l0 p2_s1572_e
set_option maxRecDepth 100000 in
/-- GlacierMail$Way.leaveOut -/
def p2_s1573 : ck_Sum := ((0, 0, 0), 245, [.inr (.inr (.inl 206)), .inl (0, 7, [])], ([], [], []), ([(206, 4, 4)], []), [(.inr none, 245, ([], [], [(206, 4, 4, (0, 7, []))]))])
set_option maxRecDepth 100000 in
theorem p2_s1573_e : ck_ok p2_O none [] [] 175 [] 78 p2_s1573 = true := by decide +kernel
theorem p2_s1573_s {X : Int → Int} {LX : Nat} : ck_Ok p2_O X LX 175 p2_s1573 := ck_ok_s ⟨p2_nmu, ck_E0⟩ ck_X0 ck_l0 p2_s1573_e
set_option maxRecDepth 100000 in
/-- GlacierMail.without -/
def p2_s1574 : ck_Sum := ((8, 2, 12), 245, [.inr (.inr (.inl 1)), .inl (0, 23, []), .inl (0, 7, [])], ([], [(3, 8, 0)], []), ([(206, 2, 8)], []), [(.inl 3, 245, ([], [], [])), (.inr (some (.inl ((-2147483648), 299, []))), 245, ([], [], [(206, 4, 4, (0, 7, [])), (206, 2, 2, ((-1), 299, []))]))])
set_option maxRecDepth 100000 in
theorem p2_s1574_e : ck_ok p2_O none [] [(143, [p2_s531]), (9, [p2_s159]), (133, [p2_s367]), (27, [p2_s379]), (175, [p2_s1573]), (30, [p2_s386])] 174 [] 116 p2_s1574 = true := by decide +kernel
theorem p2_s1574_s {X : Int → Int} {LX : Nat} : ck_Ok p2_O X LX 174 p2_s1574 := ck_ok_s ⟨p2_nmu, ck_E1 (ck_S1 p2_s531_s ck_S0) (ck_E1 (ck_S1 p2_s159_s ck_S0) (ck_E1 (ck_S1 p2_s367_s ck_S0) (ck_E1 (ck_S1 p2_s379_s ck_S0) (ck_E1 (ck_S1 p2_s1573_s ck_S0) (ck_E1 (ck_S1 p2_s386_s ck_S0) ck_E0)))))⟩ ck_X0 ck_l0 p2_s1574_e
set_option maxRecDepth 100000 in
/-- GlacierMailModel.without -/
def p2_s1575 : ck_Sum := ((2, 0, 0), 245, [.inr (.inr (.inl 226)), .inl ((-2147483648), (-1), []), .inl ((-2147483648), 2147483647, [])], ([], [], [(227, 4, 4, (0, 24, [(22, 0)]))]), ([(226, 0, 0)], []), [(.inr (some (.inl (ck_one 0))), 245, ([], [], [(226, 0, 0, ck_one 1)]))])
set_option maxRecDepth 100000 in
theorem p2_s1575_e : ck_ok p2_O none [] [(309, [p2_s538]), (282, [p2_s268])] 328 [] 100 p2_s1575 = true := by decide +kernel
theorem p2_s1575_s {X : Int → Int} {LX : Nat} : ck_Ok p2_O X LX 328 p2_s1575 := ck_ok_s ⟨p2_nmu, ck_E1 (ck_S1 p2_s538_s ck_S0) (ck_E1 (ck_S1 p2_s268_s ck_S0) ck_E0)⟩ ck_X0 ck_l0 p2_s1575_e
set_option maxRecDepth 100000 in
/-- GlacierMailModel.without -/
def p2_s1576 : ck_Sum := ((2, 0, 0), 245, [.inr (.inr (.inl 226)), .inl (24, 2147483647, []), .inl ((-2147483648), 2147483647, [])], ([], [], [(227, 4, 4, (0, 24, [(22, 0)]))]), ([(226, 0, 0)], []), [(.inr (some (.inl (ck_one 0))), 245, ([], [], [(226, 0, 0, ck_one 1)]))])
set_option maxRecDepth 100000 in
theorem p2_s1576_e : ck_ok p2_O none [] [(309, [p2_s541]), (282, [p2_s268])] 328 [] 100 p2_s1576 = true := by decide +kernel
theorem p2_s1576_s {X : Int → Int} {LX : Nat} : ck_Ok p2_O X LX 328 p2_s1576 := ck_ok_s ⟨p2_nmu, ck_E1 (ck_S1 p2_s541_s ck_S0) (ck_E1 (ck_S1 p2_s268_s ck_S0) ck_E0)⟩ ck_X0 ck_l0 p2_s1576_e
set_option maxRecDepth 100000 in
/-- GlacierMailModel.without -/
def p2_s1577 : ck_Sum := ((2, 0, 0), 245, [.inr (.inr (.inl 226)), .inl (0, 23, []), .inl ((-2147483648), (-1), [])], ([], [], [(227, 4, 4, (0, 24, [(22, 0)])), (227, 5, 5, (0, 8, [(23, 0)]))]), ([(226, 0, 0)], []), [(.inr (some (.inl (ck_one 0))), 245, ([], [], [(226, 0, 0, ck_one 1)]))])
set_option maxRecDepth 100000 in
theorem p2_s1577_e : ck_ok p2_O none [] [(309, [p2_s544]), (282, [p2_s268]), (286, [p2_s452])] 328 [] 120 p2_s1577 = true := by decide +kernel
theorem p2_s1577_s {X : Int → Int} {LX : Nat} : ck_Ok p2_O X LX 328 p2_s1577 := ck_ok_s ⟨p2_nmu, ck_E1 (ck_S1 p2_s544_s ck_S0) (ck_E1 (ck_S1 p2_s268_s ck_S0) (ck_E1 (ck_S1 p2_s452_s ck_S0) ck_E0))⟩ ck_X0 ck_l0 p2_s1577_e
set_option maxRecDepth 100000 in
/-- GlacierMailModel.without -/
def p2_s1578 : ck_Sum := ((2, 0, 0), 245, [.inr (.inr (.inl 226)), .inl (0, 23, []), .inl (8, 2147483647, [])], ([], [], [(227, 4, 4, (0, 24, [(22, 0)])), (227, 5, 5, (0, 8, [(23, 0)]))]), ([(226, 0, 0)], []), [(.inr (some (.inl (ck_one 0))), 245, ([], [], [(226, 0, 0, ck_one 1)]))])
set_option maxRecDepth 100000 in
theorem p2_s1578_e : ck_ok p2_O none [] [(309, [p2_s544]), (282, [p2_s268]), (286, [p2_s455])] 328 [] 120 p2_s1578 = true := by decide +kernel
theorem p2_s1578_s {X : Int → Int} {LX : Nat} : ck_Ok p2_O X LX 328 p2_s1578 := ck_ok_s ⟨p2_nmu, ck_E1 (ck_S1 p2_s544_s ck_S0) (ck_E1 (ck_S1 p2_s268_s ck_S0) (ck_E1 (ck_S1 p2_s455_s ck_S0) ck_E0))⟩ ck_X0 ck_l0 p2_s1578_e
set_option maxRecDepth 100000 in
/-- GlacierMail.moved -/
def p2_s1580 : ck_Sum := ((8, 1, 6), 245, [.inr (.inr (.inl 1)), .inl ((-2147483648), (-1), [])], ([], [], []), ([], []), [(.inl 3, 245, ([], [], []))])
set_option maxRecDepth 100000 in
theorem p2_s1580_e : ck_ok p2_O none [] [(143, [p2_s525])] 177 [] 76 p2_s1580 = true := by decide +kernel
theorem p2_s1580_s {X : Int → Int} {LX : Nat} : ck_Ok p2_O X LX 177 p2_s1580 := ck_ok_s ⟨p2_nmu, ck_E1 (ck_S1 p2_s525_s ck_S0) ck_E0⟩ ck_X0 ck_l0 p2_s1580_e
set_option maxRecDepth 100000 in
/-- GlacierMail.moved -/
def p2_s1581 : ck_Sum := ((8, 1, 6), 245, [.inr (.inr (.inl 1)), .inl (24, 2147483647, [])], ([], [], []), ([], []), [(.inl 3, 245, ([], [], []))])
set_option maxRecDepth 100000 in
theorem p2_s1581_e : ck_ok p2_O none [] [(143, [p2_s528])] 177 [] 76 p2_s1581 = true := by decide +kernel
theorem p2_s1581_s {X : Int → Int} {LX : Nat} : ck_Ok p2_O X LX 177 p2_s1581 := ck_ok_s ⟨p2_nmu, ck_E1 (ck_S1 p2_s528_s ck_S0) ck_E0⟩ ck_X0 ck_l0 p2_s1581_e
