/-! heat, on a new object, piece 4: laid by wip/am/p1g.py. -/
set_option maxRecDepth 100000 in
def p5y4_1564 : ck_Sum := ((0, 0, 0), 245, [.inr (.inr (.inl 1)), .inl (ck_one 203)], ([], [], []), ([], []), [(.inr none, 245, ([], [], []))])
set_option maxRecDepth 100000 in
theorem p5y4_1564_e : ck_ok p1_O none [] [] 129 [] 82 p5y4_1564 = true := by decide +kernel
theorem p5y4_1564_s {X : Int → Int} {LX : Nat} : ck_Ok p1_O X LX 129 p5y4_1564 := ck_ok_s (ck_E0) ck_X0 ck_l0 p5y4_1564_e
set_option maxRecDepth 100000 in
def p5y4_1565 : ck_Sum := ((0, 0, 0), 245, [.inr (.inr (.inl 200)), .inl (ck_one 203)], ([], [], [(201, 203, 203, ck_one 9)]), ([], []), [(.inr (some (.inl (ck_one 9))), 245, ([], [], []))])
set_option maxRecDepth 100000 in
theorem p5y4_1565_e : ck_ok p1_O none [] [] 34 [] 92 p5y4_1565 = true := by decide +kernel
theorem p5y4_1565_s {X : Int → Int} {LX : Nat} : ck_Ok p1_O X LX 34 p5y4_1565 := ck_ok_s (ck_E0) ck_X0 ck_l0 p5y4_1565_e
set_option maxRecDepth 100000 in
def p5y4_1566 : ck_Sum := ((1, 0, 0), 245, [.inr (.inr (.inl 1)), .inl (ck_one 203)], ([], [], [(201, 203, 203, ck_one 9)]), ([], []), [(.inr (some (.inl (ck_one 9))), 245, ([], [], []))])
set_option maxRecDepth 100000 in
theorem p5y4_1566_e : ck_ok p1_O none [] [(129, [p5y4_1564]), (34, [p5y4_1565])] 128 [] 86 p5y4_1566 = true := by decide +kernel
theorem p5y4_1566_s {X : Int → Int} {LX : Nat} : ck_Ok p1_O X LX 128 p5y4_1566 := ck_ok_s (ck_E1 (ck_S1 p5y4_1564_s ck_S0) (ck_E1 (ck_S1 p5y4_1565_s ck_S0) ck_E0)) ck_X0 ck_l0 p5y4_1566_e
set_option maxRecDepth 100000 in
def p5y4_1567 : ck_Sum := ((2, 0, 0), 245, [.inr (.inr (.inl 1)), .inl (ck_one 203), .inr (.inr (.inl 245))], ([], [], [(201, 203, 203, ck_one 9)]), ([(245, 0, 0)], []), [(.inr (some (.inl (ck_one 0))), 245, ([], [], [(245, 0, 0, ck_one 9)]))])
set_option maxRecDepth 100000 in
theorem p5y4_1567_e : ck_ok p1_O none [] [(128, [p5y4_1566])] 127 [] 90 p5y4_1567 = true := by decide +kernel
theorem p5y4_1567_s {X : Int → Int} {LX : Nat} : ck_Ok p1_O X LX 127 p5y4_1567 := ck_ok_s (ck_E1 (ck_S1 p5y4_1566_s ck_S0) ck_E0) ck_X0 ck_l0 p5y4_1567_e
set_option maxRecDepth 100000 in
def p5y4_1571 : ck_Sum := ((0, 0, 0), 245, [.inr (.inr (.inl 1)), .inl (ck_one 204)], ([], [], []), ([], []), [(.inr none, 245, ([], [], []))])
set_option maxRecDepth 100000 in
theorem p5y4_1571_e : ck_ok p1_O none [] [] 129 [] 82 p5y4_1571 = true := by decide +kernel
theorem p5y4_1571_s {X : Int → Int} {LX : Nat} : ck_Ok p1_O X LX 129 p5y4_1571 := ck_ok_s (ck_E0) ck_X0 ck_l0 p5y4_1571_e
set_option maxRecDepth 100000 in
def p5y4_1572 : ck_Sum := ((0, 0, 0), 245, [.inr (.inr (.inl 200)), .inl (ck_one 204)], ([], [], [(201, 204, 204, ck_one 9)]), ([], []), [(.inr (some (.inl (ck_one 9))), 245, ([], [], []))])
set_option maxRecDepth 100000 in
theorem p5y4_1572_e : ck_ok p1_O none [] [] 34 [] 92 p5y4_1572 = true := by decide +kernel
theorem p5y4_1572_s {X : Int → Int} {LX : Nat} : ck_Ok p1_O X LX 34 p5y4_1572 := ck_ok_s (ck_E0) ck_X0 ck_l0 p5y4_1572_e
set_option maxRecDepth 100000 in
def p5y4_1573 : ck_Sum := ((1, 0, 0), 245, [.inr (.inr (.inl 1)), .inl (ck_one 204)], ([], [], [(201, 204, 204, ck_one 9)]), ([], []), [(.inr (some (.inl (ck_one 9))), 245, ([], [], []))])
set_option maxRecDepth 100000 in
theorem p5y4_1573_e : ck_ok p1_O none [] [(129, [p5y4_1571]), (34, [p5y4_1572])] 128 [] 86 p5y4_1573 = true := by decide +kernel
theorem p5y4_1573_s {X : Int → Int} {LX : Nat} : ck_Ok p1_O X LX 128 p5y4_1573 := ck_ok_s (ck_E1 (ck_S1 p5y4_1571_s ck_S0) (ck_E1 (ck_S1 p5y4_1572_s ck_S0) ck_E0)) ck_X0 ck_l0 p5y4_1573_e
set_option maxRecDepth 100000 in
def p5y4_1574 : ck_Sum := ((2, 0, 0), 245, [.inr (.inr (.inl 1)), .inl (ck_one 204), .inr (.inr (.inl 245))], ([], [], [(201, 204, 204, ck_one 9)]), ([(245, 0, 0)], []), [(.inr (some (.inl (ck_one 0))), 245, ([], [], [(245, 0, 0, ck_one 9)]))])
set_option maxRecDepth 100000 in
theorem p5y4_1574_e : ck_ok p1_O none [] [(128, [p5y4_1573])] 127 [] 90 p5y4_1574 = true := by decide +kernel
theorem p5y4_1574_s {X : Int → Int} {LX : Nat} : ck_Ok p1_O X LX 127 p5y4_1574 := ck_ok_s (ck_E1 (ck_S1 p5y4_1573_s ck_S0) ck_E0) ck_X0 ck_l0 p5y4_1574_e
set_option maxRecDepth 100000 in
def p5y4_1578 : ck_Sum := ((0, 0, 0), 245, [.inr (.inr (.inl 1)), .inl (ck_one 205)], ([], [], []), ([], []), [(.inr none, 245, ([], [], []))])
set_option maxRecDepth 100000 in
theorem p5y4_1578_e : ck_ok p1_O none [] [] 129 [] 82 p5y4_1578 = true := by decide +kernel
theorem p5y4_1578_s {X : Int → Int} {LX : Nat} : ck_Ok p1_O X LX 129 p5y4_1578 := ck_ok_s (ck_E0) ck_X0 ck_l0 p5y4_1578_e
set_option maxRecDepth 100000 in
def p5y4_1579 : ck_Sum := ((0, 0, 0), 245, [.inr (.inr (.inl 200)), .inl (ck_one 205)], ([], [], [(201, 205, 205, ck_one 0)]), ([], []), [(.inr (some (.inl (ck_one 0))), 245, ([], [], []))])
set_option maxRecDepth 100000 in
theorem p5y4_1579_e : ck_ok p1_O none [] [] 34 [] 92 p5y4_1579 = true := by decide +kernel
theorem p5y4_1579_s {X : Int → Int} {LX : Nat} : ck_Ok p1_O X LX 34 p5y4_1579 := ck_ok_s (ck_E0) ck_X0 ck_l0 p5y4_1579_e
set_option maxRecDepth 100000 in
def p5y4_1580 : ck_Sum := ((1, 0, 0), 245, [.inr (.inr (.inl 1)), .inl (ck_one 205)], ([], [], [(201, 205, 205, ck_one 0)]), ([], []), [(.inr (some (.inl (ck_one 0))), 245, ([], [], []))])
set_option maxRecDepth 100000 in
theorem p5y4_1580_e : ck_ok p1_O none [] [(129, [p5y4_1578]), (34, [p5y4_1579])] 128 [] 86 p5y4_1580 = true := by decide +kernel
theorem p5y4_1580_s {X : Int → Int} {LX : Nat} : ck_Ok p1_O X LX 128 p5y4_1580 := ck_ok_s (ck_E1 (ck_S1 p5y4_1578_s ck_S0) (ck_E1 (ck_S1 p5y4_1579_s ck_S0) ck_E0)) ck_X0 ck_l0 p5y4_1580_e
set_option maxRecDepth 100000 in
def p5y4_1581 : ck_Sum := ((2, 0, 0), 245, [.inr (.inr (.inl 1)), .inl (ck_one 205), .inr (.inr (.inl 245))], ([], [], [(201, 205, 205, ck_one 0)]), ([(245, 0, 0)], []), [(.inr (some (.inl (ck_one 0))), 245, ([], [], [(245, 0, 0, ck_one 0)]))])
set_option maxRecDepth 100000 in
theorem p5y4_1581_e : ck_ok p1_O none [] [(128, [p5y4_1580])] 127 [] 90 p5y4_1581 = true := by decide +kernel
theorem p5y4_1581_s {X : Int → Int} {LX : Nat} : ck_Ok p1_O X LX 127 p5y4_1581 := ck_ok_s (ck_E1 (ck_S1 p5y4_1580_s ck_S0) ck_E0) ck_X0 ck_l0 p5y4_1581_e
set_option maxRecDepth 100000 in
def p5y4_1585 : ck_Sum := ((0, 0, 0), 245, [.inr (.inr (.inl 1)), .inl (ck_one 206)], ([], [], []), ([], []), [(.inr none, 245, ([], [], []))])
set_option maxRecDepth 100000 in
theorem p5y4_1585_e : ck_ok p1_O none [] [] 129 [] 82 p5y4_1585 = true := by decide +kernel
theorem p5y4_1585_s {X : Int → Int} {LX : Nat} : ck_Ok p1_O X LX 129 p5y4_1585 := ck_ok_s (ck_E0) ck_X0 ck_l0 p5y4_1585_e
set_option maxRecDepth 100000 in
def p5y4_1586 : ck_Sum := ((0, 0, 0), 245, [.inr (.inr (.inl 200)), .inl (ck_one 206)], ([], [], [(201, 206, 206, ck_one 7)]), ([], []), [(.inr (some (.inl (ck_one 7))), 245, ([], [], []))])
set_option maxRecDepth 100000 in
theorem p5y4_1586_e : ck_ok p1_O none [] [] 34 [] 92 p5y4_1586 = true := by decide +kernel
theorem p5y4_1586_s {X : Int → Int} {LX : Nat} : ck_Ok p1_O X LX 34 p5y4_1586 := ck_ok_s (ck_E0) ck_X0 ck_l0 p5y4_1586_e
set_option maxRecDepth 100000 in
def p5y4_1587 : ck_Sum := ((1, 0, 0), 245, [.inr (.inr (.inl 1)), .inl (ck_one 206)], ([], [], [(201, 206, 206, ck_one 7)]), ([], []), [(.inr (some (.inl (ck_one 7))), 245, ([], [], []))])
set_option maxRecDepth 100000 in
theorem p5y4_1587_e : ck_ok p1_O none [] [(129, [p5y4_1585]), (34, [p5y4_1586])] 128 [] 86 p5y4_1587 = true := by decide +kernel
theorem p5y4_1587_s {X : Int → Int} {LX : Nat} : ck_Ok p1_O X LX 128 p5y4_1587 := ck_ok_s (ck_E1 (ck_S1 p5y4_1585_s ck_S0) (ck_E1 (ck_S1 p5y4_1586_s ck_S0) ck_E0)) ck_X0 ck_l0 p5y4_1587_e
set_option maxRecDepth 100000 in
def p5y4_1588 : ck_Sum := ((2, 0, 0), 245, [.inr (.inr (.inl 1)), .inl (ck_one 206), .inr (.inr (.inl 245))], ([], [], [(201, 206, 206, ck_one 7)]), ([(245, 0, 0)], []), [(.inr (some (.inl (ck_one 0))), 245, ([], [], [(245, 0, 0, ck_one 7)]))])
set_option maxRecDepth 100000 in
theorem p5y4_1588_e : ck_ok p1_O none [] [(128, [p5y4_1587])] 127 [] 90 p5y4_1588 = true := by decide +kernel
theorem p5y4_1588_s {X : Int → Int} {LX : Nat} : ck_Ok p1_O X LX 127 p5y4_1588 := ck_ok_s (ck_E1 (ck_S1 p5y4_1587_s ck_S0) ck_E0) ck_X0 ck_l0 p5y4_1588_e
set_option maxRecDepth 100000 in
def p5y4_1592 : ck_Sum := ((0, 0, 0), 245, [.inr (.inr (.inl 1)), .inl (ck_one 207)], ([], [], []), ([], []), [(.inr none, 245, ([], [], []))])
set_option maxRecDepth 100000 in
theorem p5y4_1592_e : ck_ok p1_O none [] [] 129 [] 82 p5y4_1592 = true := by decide +kernel
theorem p5y4_1592_s {X : Int → Int} {LX : Nat} : ck_Ok p1_O X LX 129 p5y4_1592 := ck_ok_s (ck_E0) ck_X0 ck_l0 p5y4_1592_e
set_option maxRecDepth 100000 in
def p5y4_1593 : ck_Sum := ((0, 0, 0), 245, [.inr (.inr (.inl 200)), .inl (ck_one 207)], ([], [], [(201, 207, 207, ck_one 8)]), ([], []), [(.inr (some (.inl (ck_one 8))), 245, ([], [], []))])
set_option maxRecDepth 100000 in
theorem p5y4_1593_e : ck_ok p1_O none [] [] 34 [] 92 p5y4_1593 = true := by decide +kernel
theorem p5y4_1593_s {X : Int → Int} {LX : Nat} : ck_Ok p1_O X LX 34 p5y4_1593 := ck_ok_s (ck_E0) ck_X0 ck_l0 p5y4_1593_e
set_option maxRecDepth 100000 in
def p5y4_1594 : ck_Sum := ((1, 0, 0), 245, [.inr (.inr (.inl 1)), .inl (ck_one 207)], ([], [], [(201, 207, 207, ck_one 8)]), ([], []), [(.inr (some (.inl (ck_one 8))), 245, ([], [], []))])
set_option maxRecDepth 100000 in
theorem p5y4_1594_e : ck_ok p1_O none [] [(129, [p5y4_1592]), (34, [p5y4_1593])] 128 [] 86 p5y4_1594 = true := by decide +kernel
theorem p5y4_1594_s {X : Int → Int} {LX : Nat} : ck_Ok p1_O X LX 128 p5y4_1594 := ck_ok_s (ck_E1 (ck_S1 p5y4_1592_s ck_S0) (ck_E1 (ck_S1 p5y4_1593_s ck_S0) ck_E0)) ck_X0 ck_l0 p5y4_1594_e
set_option maxRecDepth 100000 in
def p5y4_1595 : ck_Sum := ((2, 0, 0), 245, [.inr (.inr (.inl 1)), .inl (ck_one 207), .inr (.inr (.inl 245))], ([], [], [(201, 207, 207, ck_one 8)]), ([(245, 0, 0)], []), [(.inr (some (.inl (ck_one 0))), 245, ([], [], [(245, 0, 0, ck_one 8)]))])
set_option maxRecDepth 100000 in
theorem p5y4_1595_e : ck_ok p1_O none [] [(128, [p5y4_1594])] 127 [] 90 p5y4_1595 = true := by decide +kernel
theorem p5y4_1595_s {X : Int → Int} {LX : Nat} : ck_Ok p1_O X LX 127 p5y4_1595 := ck_ok_s (ck_E1 (ck_S1 p5y4_1594_s ck_S0) ck_E0) ck_X0 ck_l0 p5y4_1595_e
set_option maxRecDepth 100000 in
def p5y4_1599 : ck_Sum := ((0, 0, 0), 245, [.inr (.inr (.inl 1)), .inl (ck_one 208)], ([], [], []), ([], []), [(.inr none, 245, ([], [], []))])
set_option maxRecDepth 100000 in
theorem p5y4_1599_e : ck_ok p1_O none [] [] 129 [] 82 p5y4_1599 = true := by decide +kernel
theorem p5y4_1599_s {X : Int → Int} {LX : Nat} : ck_Ok p1_O X LX 129 p5y4_1599 := ck_ok_s (ck_E0) ck_X0 ck_l0 p5y4_1599_e
set_option maxRecDepth 100000 in
def p5y4_1600 : ck_Sum := ((0, 0, 0), 245, [.inr (.inr (.inl 200)), .inl (ck_one 208)], ([], [], [(201, 208, 208, ck_one 5)]), ([], []), [(.inr (some (.inl (ck_one 5))), 245, ([], [], []))])
set_option maxRecDepth 100000 in
theorem p5y4_1600_e : ck_ok p1_O none [] [] 34 [] 92 p5y4_1600 = true := by decide +kernel
theorem p5y4_1600_s {X : Int → Int} {LX : Nat} : ck_Ok p1_O X LX 34 p5y4_1600 := ck_ok_s (ck_E0) ck_X0 ck_l0 p5y4_1600_e
set_option maxRecDepth 100000 in
def p5y4_1601 : ck_Sum := ((1, 0, 0), 245, [.inr (.inr (.inl 1)), .inl (ck_one 208)], ([], [], [(201, 208, 208, ck_one 5)]), ([], []), [(.inr (some (.inl (ck_one 5))), 245, ([], [], []))])
set_option maxRecDepth 100000 in
theorem p5y4_1601_e : ck_ok p1_O none [] [(129, [p5y4_1599]), (34, [p5y4_1600])] 128 [] 86 p5y4_1601 = true := by decide +kernel
theorem p5y4_1601_s {X : Int → Int} {LX : Nat} : ck_Ok p1_O X LX 128 p5y4_1601 := ck_ok_s (ck_E1 (ck_S1 p5y4_1599_s ck_S0) (ck_E1 (ck_S1 p5y4_1600_s ck_S0) ck_E0)) ck_X0 ck_l0 p5y4_1601_e
set_option maxRecDepth 100000 in
def p5y4_1602 : ck_Sum := ((2, 0, 0), 245, [.inr (.inr (.inl 1)), .inl (ck_one 208), .inr (.inr (.inl 245))], ([], [], [(201, 208, 208, ck_one 5)]), ([(245, 0, 0)], []), [(.inr (some (.inl (ck_one 0))), 245, ([], [], [(245, 0, 0, ck_one 5)]))])
set_option maxRecDepth 100000 in
theorem p5y4_1602_e : ck_ok p1_O none [] [(128, [p5y4_1601])] 127 [] 90 p5y4_1602 = true := by decide +kernel
theorem p5y4_1602_s {X : Int → Int} {LX : Nat} : ck_Ok p1_O X LX 127 p5y4_1602 := ck_ok_s (ck_E1 (ck_S1 p5y4_1601_s ck_S0) ck_E0) ck_X0 ck_l0 p5y4_1602_e
set_option maxRecDepth 100000 in
def p5y4_1606 : ck_Sum := ((0, 0, 0), 245, [.inr (.inr (.inl 1)), .inl (ck_one 209)], ([], [], []), ([], []), [(.inr none, 245, ([], [], []))])
set_option maxRecDepth 100000 in
theorem p5y4_1606_e : ck_ok p1_O none [] [] 129 [] 82 p5y4_1606 = true := by decide +kernel
theorem p5y4_1606_s {X : Int → Int} {LX : Nat} : ck_Ok p1_O X LX 129 p5y4_1606 := ck_ok_s (ck_E0) ck_X0 ck_l0 p5y4_1606_e
set_option maxRecDepth 100000 in
def p5y4_1607 : ck_Sum := ((0, 0, 0), 245, [.inr (.inr (.inl 200)), .inl (ck_one 209)], ([], [], [(201, 209, 209, ck_one 7)]), ([], []), [(.inr (some (.inl (ck_one 7))), 245, ([], [], []))])
set_option maxRecDepth 100000 in
theorem p5y4_1607_e : ck_ok p1_O none [] [] 34 [] 92 p5y4_1607 = true := by decide +kernel
theorem p5y4_1607_s {X : Int → Int} {LX : Nat} : ck_Ok p1_O X LX 34 p5y4_1607 := ck_ok_s (ck_E0) ck_X0 ck_l0 p5y4_1607_e
set_option maxRecDepth 100000 in
def p5y4_1608 : ck_Sum := ((1, 0, 0), 245, [.inr (.inr (.inl 1)), .inl (ck_one 209)], ([], [], [(201, 209, 209, ck_one 7)]), ([], []), [(.inr (some (.inl (ck_one 7))), 245, ([], [], []))])
set_option maxRecDepth 100000 in
theorem p5y4_1608_e : ck_ok p1_O none [] [(129, [p5y4_1606]), (34, [p5y4_1607])] 128 [] 86 p5y4_1608 = true := by decide +kernel
theorem p5y4_1608_s {X : Int → Int} {LX : Nat} : ck_Ok p1_O X LX 128 p5y4_1608 := ck_ok_s (ck_E1 (ck_S1 p5y4_1606_s ck_S0) (ck_E1 (ck_S1 p5y4_1607_s ck_S0) ck_E0)) ck_X0 ck_l0 p5y4_1608_e
set_option maxRecDepth 100000 in
def p5y4_1609 : ck_Sum := ((2, 0, 0), 245, [.inr (.inr (.inl 1)), .inl (ck_one 209), .inr (.inr (.inl 245))], ([], [], [(201, 209, 209, ck_one 7)]), ([(245, 0, 0)], []), [(.inr (some (.inl (ck_one 0))), 245, ([], [], [(245, 0, 0, ck_one 7)]))])
set_option maxRecDepth 100000 in
theorem p5y4_1609_e : ck_ok p1_O none [] [(128, [p5y4_1608])] 127 [] 90 p5y4_1609 = true := by decide +kernel
theorem p5y4_1609_s {X : Int → Int} {LX : Nat} : ck_Ok p1_O X LX 127 p5y4_1609 := ck_ok_s (ck_E1 (ck_S1 p5y4_1608_s ck_S0) ck_E0) ck_X0 ck_l0 p5y4_1609_e
set_option maxRecDepth 100000 in
def p5y4_1613 : ck_Sum := ((0, 0, 0), 245, [.inr (.inr (.inl 1)), .inl (ck_one 210)], ([], [], []), ([], []), [(.inr none, 245, ([], [], []))])
set_option maxRecDepth 100000 in
theorem p5y4_1613_e : ck_ok p1_O none [] [] 129 [] 82 p5y4_1613 = true := by decide +kernel
theorem p5y4_1613_s {X : Int → Int} {LX : Nat} : ck_Ok p1_O X LX 129 p5y4_1613 := ck_ok_s (ck_E0) ck_X0 ck_l0 p5y4_1613_e
set_option maxRecDepth 100000 in
def p5y4_1614 : ck_Sum := ((0, 0, 0), 245, [.inr (.inr (.inl 200)), .inl (ck_one 210)], ([], [], [(201, 210, 210, ck_one 2)]), ([], []), [(.inr (some (.inl (ck_one 2))), 245, ([], [], []))])
set_option maxRecDepth 100000 in
theorem p5y4_1614_e : ck_ok p1_O none [] [] 34 [] 92 p5y4_1614 = true := by decide +kernel
theorem p5y4_1614_s {X : Int → Int} {LX : Nat} : ck_Ok p1_O X LX 34 p5y4_1614 := ck_ok_s (ck_E0) ck_X0 ck_l0 p5y4_1614_e
set_option maxRecDepth 100000 in
def p5y4_1615 : ck_Sum := ((1, 0, 0), 245, [.inr (.inr (.inl 1)), .inl (ck_one 210)], ([], [], [(201, 210, 210, ck_one 2)]), ([], []), [(.inr (some (.inl (ck_one 2))), 245, ([], [], []))])
set_option maxRecDepth 100000 in
theorem p5y4_1615_e : ck_ok p1_O none [] [(129, [p5y4_1613]), (34, [p5y4_1614])] 128 [] 86 p5y4_1615 = true := by decide +kernel
theorem p5y4_1615_s {X : Int → Int} {LX : Nat} : ck_Ok p1_O X LX 128 p5y4_1615 := ck_ok_s (ck_E1 (ck_S1 p5y4_1613_s ck_S0) (ck_E1 (ck_S1 p5y4_1614_s ck_S0) ck_E0)) ck_X0 ck_l0 p5y4_1615_e
set_option maxRecDepth 100000 in
def p5y4_1616 : ck_Sum := ((2, 0, 0), 245, [.inr (.inr (.inl 1)), .inl (ck_one 210), .inr (.inr (.inl 245))], ([], [], [(201, 210, 210, ck_one 2)]), ([(245, 0, 0)], []), [(.inr (some (.inl (ck_one 0))), 245, ([], [], [(245, 0, 0, ck_one 2)]))])
set_option maxRecDepth 100000 in
theorem p5y4_1616_e : ck_ok p1_O none [] [(128, [p5y4_1615])] 127 [] 90 p5y4_1616 = true := by decide +kernel
theorem p5y4_1616_s {X : Int → Int} {LX : Nat} : ck_Ok p1_O X LX 127 p5y4_1616 := ck_ok_s (ck_E1 (ck_S1 p5y4_1615_s ck_S0) ck_E0) ck_X0 ck_l0 p5y4_1616_e
set_option maxRecDepth 100000 in
def p5y4_1620 : ck_Sum := ((0, 0, 0), 245, [.inr (.inr (.inl 1)), .inl (ck_one 211)], ([], [], []), ([], []), [(.inr none, 245, ([], [], []))])
set_option maxRecDepth 100000 in
theorem p5y4_1620_e : ck_ok p1_O none [] [] 129 [] 82 p5y4_1620 = true := by decide +kernel
theorem p5y4_1620_s {X : Int → Int} {LX : Nat} : ck_Ok p1_O X LX 129 p5y4_1620 := ck_ok_s (ck_E0) ck_X0 ck_l0 p5y4_1620_e
set_option maxRecDepth 100000 in
def p5y4_1621 : ck_Sum := ((0, 0, 0), 245, [.inr (.inr (.inl 200)), .inl (ck_one 211)], ([], [], [(201, 211, 211, ck_one 4)]), ([], []), [(.inr (some (.inl (ck_one 4))), 245, ([], [], []))])
set_option maxRecDepth 100000 in
theorem p5y4_1621_e : ck_ok p1_O none [] [] 34 [] 92 p5y4_1621 = true := by decide +kernel
theorem p5y4_1621_s {X : Int → Int} {LX : Nat} : ck_Ok p1_O X LX 34 p5y4_1621 := ck_ok_s (ck_E0) ck_X0 ck_l0 p5y4_1621_e
set_option maxRecDepth 100000 in
def p5y4_1622 : ck_Sum := ((1, 0, 0), 245, [.inr (.inr (.inl 1)), .inl (ck_one 211)], ([], [], [(201, 211, 211, ck_one 4)]), ([], []), [(.inr (some (.inl (ck_one 4))), 245, ([], [], []))])
set_option maxRecDepth 100000 in
theorem p5y4_1622_e : ck_ok p1_O none [] [(129, [p5y4_1620]), (34, [p5y4_1621])] 128 [] 86 p5y4_1622 = true := by decide +kernel
theorem p5y4_1622_s {X : Int → Int} {LX : Nat} : ck_Ok p1_O X LX 128 p5y4_1622 := ck_ok_s (ck_E1 (ck_S1 p5y4_1620_s ck_S0) (ck_E1 (ck_S1 p5y4_1621_s ck_S0) ck_E0)) ck_X0 ck_l0 p5y4_1622_e
set_option maxRecDepth 100000 in
def p5y4_1623 : ck_Sum := ((2, 0, 0), 245, [.inr (.inr (.inl 1)), .inl (ck_one 211), .inr (.inr (.inl 245))], ([], [], [(201, 211, 211, ck_one 4)]), ([(245, 0, 0)], []), [(.inr (some (.inl (ck_one 0))), 245, ([], [], [(245, 0, 0, ck_one 4)]))])
set_option maxRecDepth 100000 in
theorem p5y4_1623_e : ck_ok p1_O none [] [(128, [p5y4_1622])] 127 [] 90 p5y4_1623 = true := by decide +kernel
theorem p5y4_1623_s {X : Int → Int} {LX : Nat} : ck_Ok p1_O X LX 127 p5y4_1623 := ck_ok_s (ck_E1 (ck_S1 p5y4_1622_s ck_S0) ck_E0) ck_X0 ck_l0 p5y4_1623_e
set_option maxRecDepth 100000 in
def p5y4_1627 : ck_Sum := ((0, 0, 0), 245, [.inr (.inr (.inl 1)), .inl (ck_one 212)], ([], [], []), ([], []), [(.inr none, 245, ([], [], []))])
set_option maxRecDepth 100000 in
theorem p5y4_1627_e : ck_ok p1_O none [] [] 129 [] 82 p5y4_1627 = true := by decide +kernel
theorem p5y4_1627_s {X : Int → Int} {LX : Nat} : ck_Ok p1_O X LX 129 p5y4_1627 := ck_ok_s (ck_E0) ck_X0 ck_l0 p5y4_1627_e
set_option maxRecDepth 100000 in
def p5y4_1628 : ck_Sum := ((0, 0, 0), 245, [.inr (.inr (.inl 200)), .inl (ck_one 212)], ([], [], [(201, 212, 212, ck_one 1)]), ([], []), [(.inr (some (.inl (ck_one 1))), 245, ([], [], []))])
set_option maxRecDepth 100000 in
theorem p5y4_1628_e : ck_ok p1_O none [] [] 34 [] 92 p5y4_1628 = true := by decide +kernel
theorem p5y4_1628_s {X : Int → Int} {LX : Nat} : ck_Ok p1_O X LX 34 p5y4_1628 := ck_ok_s (ck_E0) ck_X0 ck_l0 p5y4_1628_e
set_option maxRecDepth 100000 in
def p5y4_1629 : ck_Sum := ((1, 0, 0), 245, [.inr (.inr (.inl 1)), .inl (ck_one 212)], ([], [], [(201, 212, 212, ck_one 1)]), ([], []), [(.inr (some (.inl (ck_one 1))), 245, ([], [], []))])
set_option maxRecDepth 100000 in
theorem p5y4_1629_e : ck_ok p1_O none [] [(129, [p5y4_1627]), (34, [p5y4_1628])] 128 [] 86 p5y4_1629 = true := by decide +kernel
theorem p5y4_1629_s {X : Int → Int} {LX : Nat} : ck_Ok p1_O X LX 128 p5y4_1629 := ck_ok_s (ck_E1 (ck_S1 p5y4_1627_s ck_S0) (ck_E1 (ck_S1 p5y4_1628_s ck_S0) ck_E0)) ck_X0 ck_l0 p5y4_1629_e
set_option maxRecDepth 100000 in
def p5y4_1630 : ck_Sum := ((2, 0, 0), 245, [.inr (.inr (.inl 1)), .inl (ck_one 212), .inr (.inr (.inl 245))], ([], [], [(201, 212, 212, ck_one 1)]), ([(245, 0, 0)], []), [(.inr (some (.inl (ck_one 0))), 245, ([], [], [(245, 0, 0, ck_one 1)]))])
set_option maxRecDepth 100000 in
theorem p5y4_1630_e : ck_ok p1_O none [] [(128, [p5y4_1629])] 127 [] 90 p5y4_1630 = true := by decide +kernel
theorem p5y4_1630_s {X : Int → Int} {LX : Nat} : ck_Ok p1_O X LX 127 p5y4_1630 := ck_ok_s (ck_E1 (ck_S1 p5y4_1629_s ck_S0) ck_E0) ck_X0 ck_l0 p5y4_1630_e
set_option maxRecDepth 100000 in
def p5y4_1634 : ck_Sum := ((0, 0, 0), 245, [.inr (.inr (.inl 1)), .inl (ck_one 213)], ([], [], []), ([], []), [(.inr none, 245, ([], [], []))])
set_option maxRecDepth 100000 in
theorem p5y4_1634_e : ck_ok p1_O none [] [] 129 [] 82 p5y4_1634 = true := by decide +kernel
theorem p5y4_1634_s {X : Int → Int} {LX : Nat} : ck_Ok p1_O X LX 129 p5y4_1634 := ck_ok_s (ck_E0) ck_X0 ck_l0 p5y4_1634_e
set_option maxRecDepth 100000 in
def p5y4_1635 : ck_Sum := ((0, 0, 0), 245, [.inr (.inr (.inl 200)), .inl (ck_one 213)], ([], [], [(201, 213, 213, ck_one 2)]), ([], []), [(.inr (some (.inl (ck_one 2))), 245, ([], [], []))])
set_option maxRecDepth 100000 in
theorem p5y4_1635_e : ck_ok p1_O none [] [] 34 [] 92 p5y4_1635 = true := by decide +kernel
theorem p5y4_1635_s {X : Int → Int} {LX : Nat} : ck_Ok p1_O X LX 34 p5y4_1635 := ck_ok_s (ck_E0) ck_X0 ck_l0 p5y4_1635_e
set_option maxRecDepth 100000 in
def p5y4_1636 : ck_Sum := ((1, 0, 0), 245, [.inr (.inr (.inl 1)), .inl (ck_one 213)], ([], [], [(201, 213, 213, ck_one 2)]), ([], []), [(.inr (some (.inl (ck_one 2))), 245, ([], [], []))])
set_option maxRecDepth 100000 in
theorem p5y4_1636_e : ck_ok p1_O none [] [(129, [p5y4_1634]), (34, [p5y4_1635])] 128 [] 86 p5y4_1636 = true := by decide +kernel
theorem p5y4_1636_s {X : Int → Int} {LX : Nat} : ck_Ok p1_O X LX 128 p5y4_1636 := ck_ok_s (ck_E1 (ck_S1 p5y4_1634_s ck_S0) (ck_E1 (ck_S1 p5y4_1635_s ck_S0) ck_E0)) ck_X0 ck_l0 p5y4_1636_e
set_option maxRecDepth 100000 in
def p5y4_1637 : ck_Sum := ((2, 0, 0), 245, [.inr (.inr (.inl 1)), .inl (ck_one 213), .inr (.inr (.inl 245))], ([], [], [(201, 213, 213, ck_one 2)]), ([(245, 0, 0)], []), [(.inr (some (.inl (ck_one 0))), 245, ([], [], [(245, 0, 0, ck_one 2)]))])
set_option maxRecDepth 100000 in
theorem p5y4_1637_e : ck_ok p1_O none [] [(128, [p5y4_1636])] 127 [] 90 p5y4_1637 = true := by decide +kernel
theorem p5y4_1637_s {X : Int → Int} {LX : Nat} : ck_Ok p1_O X LX 127 p5y4_1637 := ck_ok_s (ck_E1 (ck_S1 p5y4_1636_s ck_S0) ck_E0) ck_X0 ck_l0 p5y4_1637_e
set_option maxRecDepth 100000 in
def p5y4_1641 : ck_Sum := ((0, 0, 0), 245, [.inr (.inr (.inl 1)), .inl (ck_one 214)], ([], [], []), ([], []), [(.inr none, 245, ([], [], []))])
set_option maxRecDepth 100000 in
theorem p5y4_1641_e : ck_ok p1_O none [] [] 129 [] 82 p5y4_1641 = true := by decide +kernel
theorem p5y4_1641_s {X : Int → Int} {LX : Nat} : ck_Ok p1_O X LX 129 p5y4_1641 := ck_ok_s (ck_E0) ck_X0 ck_l0 p5y4_1641_e
set_option maxRecDepth 100000 in
def p5y4_1642 : ck_Sum := ((0, 0, 0), 245, [.inr (.inr (.inl 200)), .inl (ck_one 214)], ([], [], [(201, 214, 214, ck_one 2)]), ([], []), [(.inr (some (.inl (ck_one 2))), 245, ([], [], []))])
set_option maxRecDepth 100000 in
theorem p5y4_1642_e : ck_ok p1_O none [] [] 34 [] 92 p5y4_1642 = true := by decide +kernel
theorem p5y4_1642_s {X : Int → Int} {LX : Nat} : ck_Ok p1_O X LX 34 p5y4_1642 := ck_ok_s (ck_E0) ck_X0 ck_l0 p5y4_1642_e
set_option maxRecDepth 100000 in
def p5y4_1643 : ck_Sum := ((1, 0, 0), 245, [.inr (.inr (.inl 1)), .inl (ck_one 214)], ([], [], [(201, 214, 214, ck_one 2)]), ([], []), [(.inr (some (.inl (ck_one 2))), 245, ([], [], []))])
set_option maxRecDepth 100000 in
theorem p5y4_1643_e : ck_ok p1_O none [] [(129, [p5y4_1641]), (34, [p5y4_1642])] 128 [] 86 p5y4_1643 = true := by decide +kernel
theorem p5y4_1643_s {X : Int → Int} {LX : Nat} : ck_Ok p1_O X LX 128 p5y4_1643 := ck_ok_s (ck_E1 (ck_S1 p5y4_1641_s ck_S0) (ck_E1 (ck_S1 p5y4_1642_s ck_S0) ck_E0)) ck_X0 ck_l0 p5y4_1643_e
set_option maxRecDepth 100000 in
def p5y4_1644 : ck_Sum := ((2, 0, 0), 245, [.inr (.inr (.inl 1)), .inl (ck_one 214), .inr (.inr (.inl 245))], ([], [], [(201, 214, 214, ck_one 2)]), ([(245, 0, 0)], []), [(.inr (some (.inl (ck_one 0))), 245, ([], [], [(245, 0, 0, ck_one 2)]))])
set_option maxRecDepth 100000 in
theorem p5y4_1644_e : ck_ok p1_O none [] [(128, [p5y4_1643])] 127 [] 90 p5y4_1644 = true := by decide +kernel
theorem p5y4_1644_s {X : Int → Int} {LX : Nat} : ck_Ok p1_O X LX 127 p5y4_1644 := ck_ok_s (ck_E1 (ck_S1 p5y4_1643_s ck_S0) ck_E0) ck_X0 ck_l0 p5y4_1644_e
set_option maxRecDepth 100000 in
def p5y4_1648 : ck_Sum := ((0, 0, 0), 245, [.inr (.inr (.inl 1)), .inl (ck_one 215)], ([], [], []), ([], []), [(.inr none, 245, ([], [], []))])
set_option maxRecDepth 100000 in
theorem p5y4_1648_e : ck_ok p1_O none [] [] 129 [] 82 p5y4_1648 = true := by decide +kernel
theorem p5y4_1648_s {X : Int → Int} {LX : Nat} : ck_Ok p1_O X LX 129 p5y4_1648 := ck_ok_s (ck_E0) ck_X0 ck_l0 p5y4_1648_e
set_option maxRecDepth 100000 in
def p5y4_1649 : ck_Sum := ((0, 0, 0), 245, [.inr (.inr (.inl 200)), .inl (ck_one 215)], ([], [], [(201, 215, 215, ck_one 4)]), ([], []), [(.inr (some (.inl (ck_one 4))), 245, ([], [], []))])
set_option maxRecDepth 100000 in
theorem p5y4_1649_e : ck_ok p1_O none [] [] 34 [] 92 p5y4_1649 = true := by decide +kernel
theorem p5y4_1649_s {X : Int → Int} {LX : Nat} : ck_Ok p1_O X LX 34 p5y4_1649 := ck_ok_s (ck_E0) ck_X0 ck_l0 p5y4_1649_e
set_option maxRecDepth 100000 in
def p5y4_1650 : ck_Sum := ((1, 0, 0), 245, [.inr (.inr (.inl 1)), .inl (ck_one 215)], ([], [], [(201, 215, 215, ck_one 4)]), ([], []), [(.inr (some (.inl (ck_one 4))), 245, ([], [], []))])
set_option maxRecDepth 100000 in
theorem p5y4_1650_e : ck_ok p1_O none [] [(129, [p5y4_1648]), (34, [p5y4_1649])] 128 [] 86 p5y4_1650 = true := by decide +kernel
theorem p5y4_1650_s {X : Int → Int} {LX : Nat} : ck_Ok p1_O X LX 128 p5y4_1650 := ck_ok_s (ck_E1 (ck_S1 p5y4_1648_s ck_S0) (ck_E1 (ck_S1 p5y4_1649_s ck_S0) ck_E0)) ck_X0 ck_l0 p5y4_1650_e
set_option maxRecDepth 100000 in
def p5y4_1651 : ck_Sum := ((2, 0, 0), 245, [.inr (.inr (.inl 1)), .inl (ck_one 215), .inr (.inr (.inl 245))], ([], [], [(201, 215, 215, ck_one 4)]), ([(245, 0, 0)], []), [(.inr (some (.inl (ck_one 0))), 245, ([], [], [(245, 0, 0, ck_one 4)]))])
set_option maxRecDepth 100000 in
theorem p5y4_1651_e : ck_ok p1_O none [] [(128, [p5y4_1650])] 127 [] 90 p5y4_1651 = true := by decide +kernel
theorem p5y4_1651_s {X : Int → Int} {LX : Nat} : ck_Ok p1_O X LX 127 p5y4_1651 := ck_ok_s (ck_E1 (ck_S1 p5y4_1650_s ck_S0) ck_E0) ck_X0 ck_l0 p5y4_1651_e
set_option maxRecDepth 100000 in
def p5y4_1655 : ck_Sum := ((0, 0, 0), 245, [.inr (.inr (.inl 1)), .inl (ck_one 216)], ([], [], []), ([], []), [(.inr none, 245, ([], [], []))])
set_option maxRecDepth 100000 in
theorem p5y4_1655_e : ck_ok p1_O none [] [] 129 [] 82 p5y4_1655 = true := by decide +kernel
theorem p5y4_1655_s {X : Int → Int} {LX : Nat} : ck_Ok p1_O X LX 129 p5y4_1655 := ck_ok_s (ck_E0) ck_X0 ck_l0 p5y4_1655_e
set_option maxRecDepth 100000 in
def p5y4_1656 : ck_Sum := ((0, 0, 0), 245, [.inr (.inr (.inl 200)), .inl (ck_one 216)], ([], [], [(201, 216, 216, ck_one 4)]), ([], []), [(.inr (some (.inl (ck_one 4))), 245, ([], [], []))])
set_option maxRecDepth 100000 in
theorem p5y4_1656_e : ck_ok p1_O none [] [] 34 [] 92 p5y4_1656 = true := by decide +kernel
theorem p5y4_1656_s {X : Int → Int} {LX : Nat} : ck_Ok p1_O X LX 34 p5y4_1656 := ck_ok_s (ck_E0) ck_X0 ck_l0 p5y4_1656_e
set_option maxRecDepth 100000 in
def p5y4_1657 : ck_Sum := ((1, 0, 0), 245, [.inr (.inr (.inl 1)), .inl (ck_one 216)], ([], [], [(201, 216, 216, ck_one 4)]), ([], []), [(.inr (some (.inl (ck_one 4))), 245, ([], [], []))])
set_option maxRecDepth 100000 in
theorem p5y4_1657_e : ck_ok p1_O none [] [(129, [p5y4_1655]), (34, [p5y4_1656])] 128 [] 86 p5y4_1657 = true := by decide +kernel
theorem p5y4_1657_s {X : Int → Int} {LX : Nat} : ck_Ok p1_O X LX 128 p5y4_1657 := ck_ok_s (ck_E1 (ck_S1 p5y4_1655_s ck_S0) (ck_E1 (ck_S1 p5y4_1656_s ck_S0) ck_E0)) ck_X0 ck_l0 p5y4_1657_e
set_option maxRecDepth 100000 in
def p5y4_1658 : ck_Sum := ((2, 0, 0), 245, [.inr (.inr (.inl 1)), .inl (ck_one 216), .inr (.inr (.inl 245))], ([], [], [(201, 216, 216, ck_one 4)]), ([(245, 0, 0)], []), [(.inr (some (.inl (ck_one 0))), 245, ([], [], [(245, 0, 0, ck_one 4)]))])
set_option maxRecDepth 100000 in
theorem p5y4_1658_e : ck_ok p1_O none [] [(128, [p5y4_1657])] 127 [] 90 p5y4_1658 = true := by decide +kernel
theorem p5y4_1658_s {X : Int → Int} {LX : Nat} : ck_Ok p1_O X LX 127 p5y4_1658 := ck_ok_s (ck_E1 (ck_S1 p5y4_1657_s ck_S0) ck_E0) ck_X0 ck_l0 p5y4_1658_e
set_option maxRecDepth 100000 in
def p5y4_1662 : ck_Sum := ((0, 0, 0), 245, [.inr (.inr (.inl 1)), .inl (ck_one 217)], ([], [], []), ([], []), [(.inr none, 245, ([], [], []))])
set_option maxRecDepth 100000 in
theorem p5y4_1662_e : ck_ok p1_O none [] [] 129 [] 82 p5y4_1662 = true := by decide +kernel
theorem p5y4_1662_s {X : Int → Int} {LX : Nat} : ck_Ok p1_O X LX 129 p5y4_1662 := ck_ok_s (ck_E0) ck_X0 ck_l0 p5y4_1662_e
set_option maxRecDepth 100000 in
def p5y4_1663 : ck_Sum := ((0, 0, 0), 245, [.inr (.inr (.inl 200)), .inl (ck_one 217)], ([], [], [(201, 217, 217, ck_one 5)]), ([], []), [(.inr (some (.inl (ck_one 5))), 245, ([], [], []))])
set_option maxRecDepth 100000 in
theorem p5y4_1663_e : ck_ok p1_O none [] [] 34 [] 92 p5y4_1663 = true := by decide +kernel
theorem p5y4_1663_s {X : Int → Int} {LX : Nat} : ck_Ok p1_O X LX 34 p5y4_1663 := ck_ok_s (ck_E0) ck_X0 ck_l0 p5y4_1663_e
set_option maxRecDepth 100000 in
def p5y4_1664 : ck_Sum := ((1, 0, 0), 245, [.inr (.inr (.inl 1)), .inl (ck_one 217)], ([], [], [(201, 217, 217, ck_one 5)]), ([], []), [(.inr (some (.inl (ck_one 5))), 245, ([], [], []))])
set_option maxRecDepth 100000 in
theorem p5y4_1664_e : ck_ok p1_O none [] [(129, [p5y4_1662]), (34, [p5y4_1663])] 128 [] 86 p5y4_1664 = true := by decide +kernel
theorem p5y4_1664_s {X : Int → Int} {LX : Nat} : ck_Ok p1_O X LX 128 p5y4_1664 := ck_ok_s (ck_E1 (ck_S1 p5y4_1662_s ck_S0) (ck_E1 (ck_S1 p5y4_1663_s ck_S0) ck_E0)) ck_X0 ck_l0 p5y4_1664_e
set_option maxRecDepth 100000 in
def p5y4_1665 : ck_Sum := ((2, 0, 0), 245, [.inr (.inr (.inl 1)), .inl (ck_one 217), .inr (.inr (.inl 245))], ([], [], [(201, 217, 217, ck_one 5)]), ([(245, 0, 0)], []), [(.inr (some (.inl (ck_one 0))), 245, ([], [], [(245, 0, 0, ck_one 5)]))])
set_option maxRecDepth 100000 in
theorem p5y4_1665_e : ck_ok p1_O none [] [(128, [p5y4_1664])] 127 [] 90 p5y4_1665 = true := by decide +kernel
theorem p5y4_1665_s {X : Int → Int} {LX : Nat} : ck_Ok p1_O X LX 127 p5y4_1665 := ck_ok_s (ck_E1 (ck_S1 p5y4_1664_s ck_S0) ck_E0) ck_X0 ck_l0 p5y4_1665_e
set_option maxRecDepth 100000 in
def p5y4_1669 : ck_Sum := ((0, 0, 0), 245, [.inr (.inr (.inl 1)), .inl (ck_one 218)], ([], [], []), ([], []), [(.inr none, 245, ([], [], []))])
set_option maxRecDepth 100000 in
theorem p5y4_1669_e : ck_ok p1_O none [] [] 129 [] 82 p5y4_1669 = true := by decide +kernel
theorem p5y4_1669_s {X : Int → Int} {LX : Nat} : ck_Ok p1_O X LX 129 p5y4_1669 := ck_ok_s (ck_E0) ck_X0 ck_l0 p5y4_1669_e
set_option maxRecDepth 100000 in
def p5y4_1670 : ck_Sum := ((0, 0, 0), 245, [.inr (.inr (.inl 200)), .inl (ck_one 218)], ([], [], [(201, 218, 218, ck_one 7)]), ([], []), [(.inr (some (.inl (ck_one 7))), 245, ([], [], []))])
set_option maxRecDepth 100000 in
theorem p5y4_1670_e : ck_ok p1_O none [] [] 34 [] 92 p5y4_1670 = true := by decide +kernel
theorem p5y4_1670_s {X : Int → Int} {LX : Nat} : ck_Ok p1_O X LX 34 p5y4_1670 := ck_ok_s (ck_E0) ck_X0 ck_l0 p5y4_1670_e
set_option maxRecDepth 100000 in
def p5y4_1671 : ck_Sum := ((1, 0, 0), 245, [.inr (.inr (.inl 1)), .inl (ck_one 218)], ([], [], [(201, 218, 218, ck_one 7)]), ([], []), [(.inr (some (.inl (ck_one 7))), 245, ([], [], []))])
set_option maxRecDepth 100000 in
theorem p5y4_1671_e : ck_ok p1_O none [] [(129, [p5y4_1669]), (34, [p5y4_1670])] 128 [] 86 p5y4_1671 = true := by decide +kernel
theorem p5y4_1671_s {X : Int → Int} {LX : Nat} : ck_Ok p1_O X LX 128 p5y4_1671 := ck_ok_s (ck_E1 (ck_S1 p5y4_1669_s ck_S0) (ck_E1 (ck_S1 p5y4_1670_s ck_S0) ck_E0)) ck_X0 ck_l0 p5y4_1671_e
set_option maxRecDepth 100000 in
def p5y4_1672 : ck_Sum := ((2, 0, 0), 245, [.inr (.inr (.inl 1)), .inl (ck_one 218), .inr (.inr (.inl 245))], ([], [], [(201, 218, 218, ck_one 7)]), ([(245, 0, 0)], []), [(.inr (some (.inl (ck_one 0))), 245, ([], [], [(245, 0, 0, ck_one 7)]))])
set_option maxRecDepth 100000 in
theorem p5y4_1672_e : ck_ok p1_O none [] [(128, [p5y4_1671])] 127 [] 90 p5y4_1672 = true := by decide +kernel
theorem p5y4_1672_s {X : Int → Int} {LX : Nat} : ck_Ok p1_O X LX 127 p5y4_1672 := ck_ok_s (ck_E1 (ck_S1 p5y4_1671_s ck_S0) ck_E0) ck_X0 ck_l0 p5y4_1672_e
set_option maxRecDepth 100000 in
def p5y4_1676 : ck_Sum := ((0, 0, 0), 245, [.inr (.inr (.inl 1)), .inl (ck_one 219)], ([], [], []), ([], []), [(.inr none, 245, ([], [], []))])
set_option maxRecDepth 100000 in
theorem p5y4_1676_e : ck_ok p1_O none [] [] 129 [] 82 p5y4_1676 = true := by decide +kernel
theorem p5y4_1676_s {X : Int → Int} {LX : Nat} : ck_Ok p1_O X LX 129 p5y4_1676 := ck_ok_s (ck_E0) ck_X0 ck_l0 p5y4_1676_e
set_option maxRecDepth 100000 in
def p5y4_1677 : ck_Sum := ((0, 0, 0), 245, [.inr (.inr (.inl 200)), .inl (ck_one 219)], ([], [], [(201, 219, 219, ck_one 6)]), ([], []), [(.inr (some (.inl (ck_one 6))), 245, ([], [], []))])
set_option maxRecDepth 100000 in
theorem p5y4_1677_e : ck_ok p1_O none [] [] 34 [] 92 p5y4_1677 = true := by decide +kernel
theorem p5y4_1677_s {X : Int → Int} {LX : Nat} : ck_Ok p1_O X LX 34 p5y4_1677 := ck_ok_s (ck_E0) ck_X0 ck_l0 p5y4_1677_e
set_option maxRecDepth 100000 in
def p5y4_1678 : ck_Sum := ((1, 0, 0), 245, [.inr (.inr (.inl 1)), .inl (ck_one 219)], ([], [], [(201, 219, 219, ck_one 6)]), ([], []), [(.inr (some (.inl (ck_one 6))), 245, ([], [], []))])
set_option maxRecDepth 100000 in
theorem p5y4_1678_e : ck_ok p1_O none [] [(129, [p5y4_1676]), (34, [p5y4_1677])] 128 [] 86 p5y4_1678 = true := by decide +kernel
theorem p5y4_1678_s {X : Int → Int} {LX : Nat} : ck_Ok p1_O X LX 128 p5y4_1678 := ck_ok_s (ck_E1 (ck_S1 p5y4_1676_s ck_S0) (ck_E1 (ck_S1 p5y4_1677_s ck_S0) ck_E0)) ck_X0 ck_l0 p5y4_1678_e
set_option maxRecDepth 100000 in
def p5y4_1679 : ck_Sum := ((2, 0, 0), 245, [.inr (.inr (.inl 1)), .inl (ck_one 219), .inr (.inr (.inl 245))], ([], [], [(201, 219, 219, ck_one 6)]), ([(245, 0, 0)], []), [(.inr (some (.inl (ck_one 0))), 245, ([], [], [(245, 0, 0, ck_one 6)]))])
set_option maxRecDepth 100000 in
theorem p5y4_1679_e : ck_ok p1_O none [] [(128, [p5y4_1678])] 127 [] 90 p5y4_1679 = true := by decide +kernel
theorem p5y4_1679_s {X : Int → Int} {LX : Nat} : ck_Ok p1_O X LX 127 p5y4_1679 := ck_ok_s (ck_E1 (ck_S1 p5y4_1678_s ck_S0) ck_E0) ck_X0 ck_l0 p5y4_1679_e
set_option maxRecDepth 100000 in
def p5y4_1683 : ck_Sum := ((0, 0, 0), 245, [.inr (.inr (.inl 1)), .inl (ck_one 220)], ([], [], []), ([], []), [(.inr none, 245, ([], [], []))])
set_option maxRecDepth 100000 in
theorem p5y4_1683_e : ck_ok p1_O none [] [] 129 [] 82 p5y4_1683 = true := by decide +kernel
theorem p5y4_1683_s {X : Int → Int} {LX : Nat} : ck_Ok p1_O X LX 129 p5y4_1683 := ck_ok_s (ck_E0) ck_X0 ck_l0 p5y4_1683_e
set_option maxRecDepth 100000 in
def p5y4_1684 : ck_Sum := ((0, 0, 0), 245, [.inr (.inr (.inl 200)), .inl (ck_one 220)], ([], [], [(201, 220, 220, ck_one 8)]), ([], []), [(.inr (some (.inl (ck_one 8))), 245, ([], [], []))])
set_option maxRecDepth 100000 in
theorem p5y4_1684_e : ck_ok p1_O none [] [] 34 [] 92 p5y4_1684 = true := by decide +kernel
theorem p5y4_1684_s {X : Int → Int} {LX : Nat} : ck_Ok p1_O X LX 34 p5y4_1684 := ck_ok_s (ck_E0) ck_X0 ck_l0 p5y4_1684_e
set_option maxRecDepth 100000 in
def p5y4_1685 : ck_Sum := ((1, 0, 0), 245, [.inr (.inr (.inl 1)), .inl (ck_one 220)], ([], [], [(201, 220, 220, ck_one 8)]), ([], []), [(.inr (some (.inl (ck_one 8))), 245, ([], [], []))])
set_option maxRecDepth 100000 in
theorem p5y4_1685_e : ck_ok p1_O none [] [(129, [p5y4_1683]), (34, [p5y4_1684])] 128 [] 86 p5y4_1685 = true := by decide +kernel
theorem p5y4_1685_s {X : Int → Int} {LX : Nat} : ck_Ok p1_O X LX 128 p5y4_1685 := ck_ok_s (ck_E1 (ck_S1 p5y4_1683_s ck_S0) (ck_E1 (ck_S1 p5y4_1684_s ck_S0) ck_E0)) ck_X0 ck_l0 p5y4_1685_e
set_option maxRecDepth 100000 in
def p5y4_1686 : ck_Sum := ((2, 0, 0), 245, [.inr (.inr (.inl 1)), .inl (ck_one 220), .inr (.inr (.inl 245))], ([], [], [(201, 220, 220, ck_one 8)]), ([(245, 0, 0)], []), [(.inr (some (.inl (ck_one 0))), 245, ([], [], [(245, 0, 0, ck_one 8)]))])
set_option maxRecDepth 100000 in
theorem p5y4_1686_e : ck_ok p1_O none [] [(128, [p5y4_1685])] 127 [] 90 p5y4_1686 = true := by decide +kernel
theorem p5y4_1686_s {X : Int → Int} {LX : Nat} : ck_Ok p1_O X LX 127 p5y4_1686 := ck_ok_s (ck_E1 (ck_S1 p5y4_1685_s ck_S0) ck_E0) ck_X0 ck_l0 p5y4_1686_e
set_option maxRecDepth 100000 in
def p5y4_1690 : ck_Sum := ((0, 0, 0), 245, [.inr (.inr (.inl 1)), .inl (ck_one 221)], ([], [], []), ([], []), [(.inr none, 245, ([], [], []))])
set_option maxRecDepth 100000 in
theorem p5y4_1690_e : ck_ok p1_O none [] [] 129 [] 82 p5y4_1690 = true := by decide +kernel
theorem p5y4_1690_s {X : Int → Int} {LX : Nat} : ck_Ok p1_O X LX 129 p5y4_1690 := ck_ok_s (ck_E0) ck_X0 ck_l0 p5y4_1690_e
set_option maxRecDepth 100000 in
def p5y4_1691 : ck_Sum := ((0, 0, 0), 245, [.inr (.inr (.inl 200)), .inl (ck_one 221)], ([], [], [(201, 221, 221, ck_one 5)]), ([], []), [(.inr (some (.inl (ck_one 5))), 245, ([], [], []))])
set_option maxRecDepth 100000 in
theorem p5y4_1691_e : ck_ok p1_O none [] [] 34 [] 92 p5y4_1691 = true := by decide +kernel
theorem p5y4_1691_s {X : Int → Int} {LX : Nat} : ck_Ok p1_O X LX 34 p5y4_1691 := ck_ok_s (ck_E0) ck_X0 ck_l0 p5y4_1691_e
set_option maxRecDepth 100000 in
def p5y4_1692 : ck_Sum := ((1, 0, 0), 245, [.inr (.inr (.inl 1)), .inl (ck_one 221)], ([], [], [(201, 221, 221, ck_one 5)]), ([], []), [(.inr (some (.inl (ck_one 5))), 245, ([], [], []))])
set_option maxRecDepth 100000 in
theorem p5y4_1692_e : ck_ok p1_O none [] [(129, [p5y4_1690]), (34, [p5y4_1691])] 128 [] 86 p5y4_1692 = true := by decide +kernel
theorem p5y4_1692_s {X : Int → Int} {LX : Nat} : ck_Ok p1_O X LX 128 p5y4_1692 := ck_ok_s (ck_E1 (ck_S1 p5y4_1690_s ck_S0) (ck_E1 (ck_S1 p5y4_1691_s ck_S0) ck_E0)) ck_X0 ck_l0 p5y4_1692_e
set_option maxRecDepth 100000 in
def p5y4_1693 : ck_Sum := ((2, 0, 0), 245, [.inr (.inr (.inl 1)), .inl (ck_one 221), .inr (.inr (.inl 245))], ([], [], [(201, 221, 221, ck_one 5)]), ([(245, 0, 0)], []), [(.inr (some (.inl (ck_one 0))), 245, ([], [], [(245, 0, 0, ck_one 5)]))])
set_option maxRecDepth 100000 in
theorem p5y4_1693_e : ck_ok p1_O none [] [(128, [p5y4_1692])] 127 [] 90 p5y4_1693 = true := by decide +kernel
theorem p5y4_1693_s {X : Int → Int} {LX : Nat} : ck_Ok p1_O X LX 127 p5y4_1693 := ck_ok_s (ck_E1 (ck_S1 p5y4_1692_s ck_S0) ck_E0) ck_X0 ck_l0 p5y4_1693_e
set_option maxRecDepth 100000 in
def p5y4_1697 : ck_Sum := ((0, 0, 0), 245, [.inr (.inr (.inl 1)), .inl (ck_one 222)], ([], [], []), ([], []), [(.inr none, 245, ([], [], []))])
set_option maxRecDepth 100000 in
theorem p5y4_1697_e : ck_ok p1_O none [] [] 129 [] 82 p5y4_1697 = true := by decide +kernel
theorem p5y4_1697_s {X : Int → Int} {LX : Nat} : ck_Ok p1_O X LX 129 p5y4_1697 := ck_ok_s (ck_E0) ck_X0 ck_l0 p5y4_1697_e
set_option maxRecDepth 100000 in
def p5y4_1698 : ck_Sum := ((0, 0, 0), 245, [.inr (.inr (.inl 200)), .inl (ck_one 222)], ([], [], [(201, 222, 222, ck_one 6)]), ([], []), [(.inr (some (.inl (ck_one 6))), 245, ([], [], []))])
set_option maxRecDepth 100000 in
theorem p5y4_1698_e : ck_ok p1_O none [] [] 34 [] 92 p5y4_1698 = true := by decide +kernel
theorem p5y4_1698_s {X : Int → Int} {LX : Nat} : ck_Ok p1_O X LX 34 p5y4_1698 := ck_ok_s (ck_E0) ck_X0 ck_l0 p5y4_1698_e
set_option maxRecDepth 100000 in
def p5y4_1699 : ck_Sum := ((1, 0, 0), 245, [.inr (.inr (.inl 1)), .inl (ck_one 222)], ([], [], [(201, 222, 222, ck_one 6)]), ([], []), [(.inr (some (.inl (ck_one 6))), 245, ([], [], []))])
set_option maxRecDepth 100000 in
theorem p5y4_1699_e : ck_ok p1_O none [] [(129, [p5y4_1697]), (34, [p5y4_1698])] 128 [] 86 p5y4_1699 = true := by decide +kernel
theorem p5y4_1699_s {X : Int → Int} {LX : Nat} : ck_Ok p1_O X LX 128 p5y4_1699 := ck_ok_s (ck_E1 (ck_S1 p5y4_1697_s ck_S0) (ck_E1 (ck_S1 p5y4_1698_s ck_S0) ck_E0)) ck_X0 ck_l0 p5y4_1699_e
set_option maxRecDepth 100000 in
def p5y4_1700 : ck_Sum := ((2, 0, 0), 245, [.inr (.inr (.inl 1)), .inl (ck_one 222), .inr (.inr (.inl 245))], ([], [], [(201, 222, 222, ck_one 6)]), ([(245, 0, 0)], []), [(.inr (some (.inl (ck_one 0))), 245, ([], [], [(245, 0, 0, ck_one 6)]))])
set_option maxRecDepth 100000 in
theorem p5y4_1700_e : ck_ok p1_O none [] [(128, [p5y4_1699])] 127 [] 90 p5y4_1700 = true := by decide +kernel
theorem p5y4_1700_s {X : Int → Int} {LX : Nat} : ck_Ok p1_O X LX 127 p5y4_1700 := ck_ok_s (ck_E1 (ck_S1 p5y4_1699_s ck_S0) ck_E0) ck_X0 ck_l0 p5y4_1700_e
set_option maxRecDepth 100000 in
def p5y4_1704 : ck_Sum := ((0, 0, 0), 245, [.inr (.inr (.inl 1)), .inl (ck_one 223)], ([], [], []), ([], []), [(.inr none, 245, ([], [], []))])
set_option maxRecDepth 100000 in
theorem p5y4_1704_e : ck_ok p1_O none [] [] 129 [] 82 p5y4_1704 = true := by decide +kernel
theorem p5y4_1704_s {X : Int → Int} {LX : Nat} : ck_Ok p1_O X LX 129 p5y4_1704 := ck_ok_s (ck_E0) ck_X0 ck_l0 p5y4_1704_e
set_option maxRecDepth 100000 in
def p5y4_1705 : ck_Sum := ((0, 0, 0), 245, [.inr (.inr (.inl 200)), .inl (ck_one 223)], ([], [], [(201, 223, 223, ck_one 6)]), ([], []), [(.inr (some (.inl (ck_one 6))), 245, ([], [], []))])
set_option maxRecDepth 100000 in
theorem p5y4_1705_e : ck_ok p1_O none [] [] 34 [] 92 p5y4_1705 = true := by decide +kernel
theorem p5y4_1705_s {X : Int → Int} {LX : Nat} : ck_Ok p1_O X LX 34 p5y4_1705 := ck_ok_s (ck_E0) ck_X0 ck_l0 p5y4_1705_e
set_option maxRecDepth 100000 in
def p5y4_1706 : ck_Sum := ((1, 0, 0), 245, [.inr (.inr (.inl 1)), .inl (ck_one 223)], ([], [], [(201, 223, 223, ck_one 6)]), ([], []), [(.inr (some (.inl (ck_one 6))), 245, ([], [], []))])
set_option maxRecDepth 100000 in
theorem p5y4_1706_e : ck_ok p1_O none [] [(129, [p5y4_1704]), (34, [p5y4_1705])] 128 [] 86 p5y4_1706 = true := by decide +kernel
theorem p5y4_1706_s {X : Int → Int} {LX : Nat} : ck_Ok p1_O X LX 128 p5y4_1706 := ck_ok_s (ck_E1 (ck_S1 p5y4_1704_s ck_S0) (ck_E1 (ck_S1 p5y4_1705_s ck_S0) ck_E0)) ck_X0 ck_l0 p5y4_1706_e
set_option maxRecDepth 100000 in
def p5y4_1707 : ck_Sum := ((2, 0, 0), 245, [.inr (.inr (.inl 1)), .inl (ck_one 223), .inr (.inr (.inl 245))], ([], [], [(201, 223, 223, ck_one 6)]), ([(245, 0, 0)], []), [(.inr (some (.inl (ck_one 0))), 245, ([], [], [(245, 0, 0, ck_one 6)]))])
set_option maxRecDepth 100000 in
theorem p5y4_1707_e : ck_ok p1_O none [] [(128, [p5y4_1706])] 127 [] 90 p5y4_1707 = true := by decide +kernel
theorem p5y4_1707_s {X : Int → Int} {LX : Nat} : ck_Ok p1_O X LX 127 p5y4_1707 := ck_ok_s (ck_E1 (ck_S1 p5y4_1706_s ck_S0) ck_E0) ck_X0 ck_l0 p5y4_1707_e
set_option maxRecDepth 100000 in
def p5y4_1711 : ck_Sum := ((0, 0, 0), 245, [.inr (.inr (.inl 1)), .inl (ck_one 224)], ([], [], []), ([], []), [(.inr none, 245, ([], [], []))])
set_option maxRecDepth 100000 in
theorem p5y4_1711_e : ck_ok p1_O none [] [] 129 [] 82 p5y4_1711 = true := by decide +kernel
theorem p5y4_1711_s {X : Int → Int} {LX : Nat} : ck_Ok p1_O X LX 129 p5y4_1711 := ck_ok_s (ck_E0) ck_X0 ck_l0 p5y4_1711_e
set_option maxRecDepth 100000 in
def p5y4_1712 : ck_Sum := ((0, 0, 0), 245, [.inr (.inr (.inl 200)), .inl (ck_one 224)], ([], [], [(201, 224, 224, ck_one 2)]), ([], []), [(.inr (some (.inl (ck_one 2))), 245, ([], [], []))])
set_option maxRecDepth 100000 in
theorem p5y4_1712_e : ck_ok p1_O none [] [] 34 [] 92 p5y4_1712 = true := by decide +kernel
theorem p5y4_1712_s {X : Int → Int} {LX : Nat} : ck_Ok p1_O X LX 34 p5y4_1712 := ck_ok_s (ck_E0) ck_X0 ck_l0 p5y4_1712_e
set_option maxRecDepth 100000 in
def p5y4_1713 : ck_Sum := ((1, 0, 0), 245, [.inr (.inr (.inl 1)), .inl (ck_one 224)], ([], [], [(201, 224, 224, ck_one 2)]), ([], []), [(.inr (some (.inl (ck_one 2))), 245, ([], [], []))])
set_option maxRecDepth 100000 in
theorem p5y4_1713_e : ck_ok p1_O none [] [(129, [p5y4_1711]), (34, [p5y4_1712])] 128 [] 86 p5y4_1713 = true := by decide +kernel
theorem p5y4_1713_s {X : Int → Int} {LX : Nat} : ck_Ok p1_O X LX 128 p5y4_1713 := ck_ok_s (ck_E1 (ck_S1 p5y4_1711_s ck_S0) (ck_E1 (ck_S1 p5y4_1712_s ck_S0) ck_E0)) ck_X0 ck_l0 p5y4_1713_e
set_option maxRecDepth 100000 in
def p5y4_1714 : ck_Sum := ((2, 0, 0), 245, [.inr (.inr (.inl 1)), .inl (ck_one 224), .inr (.inr (.inl 245))], ([], [], [(201, 224, 224, ck_one 2)]), ([(245, 0, 0)], []), [(.inr (some (.inl (ck_one 0))), 245, ([], [], [(245, 0, 0, ck_one 2)]))])
set_option maxRecDepth 100000 in
theorem p5y4_1714_e : ck_ok p1_O none [] [(128, [p5y4_1713])] 127 [] 90 p5y4_1714 = true := by decide +kernel
theorem p5y4_1714_s {X : Int → Int} {LX : Nat} : ck_Ok p1_O X LX 127 p5y4_1714 := ck_ok_s (ck_E1 (ck_S1 p5y4_1713_s ck_S0) ck_E0) ck_X0 ck_l0 p5y4_1714_e
set_option maxRecDepth 100000 in
def p5y4_1718 : ck_Sum := ((0, 0, 0), 245, [.inr (.inr (.inl 1)), .inl (ck_one 225)], ([], [], []), ([], []), [(.inr none, 245, ([], [], []))])
set_option maxRecDepth 100000 in
theorem p5y4_1718_e : ck_ok p1_O none [] [] 129 [] 82 p5y4_1718 = true := by decide +kernel
theorem p5y4_1718_s {X : Int → Int} {LX : Nat} : ck_Ok p1_O X LX 129 p5y4_1718 := ck_ok_s (ck_E0) ck_X0 ck_l0 p5y4_1718_e
set_option maxRecDepth 100000 in
def p5y4_1719 : ck_Sum := ((0, 0, 0), 245, [.inr (.inr (.inl 200)), .inl (ck_one 225)], ([], [], [(201, 225, 225, ck_one 1)]), ([], []), [(.inr (some (.inl (ck_one 1))), 245, ([], [], []))])
set_option maxRecDepth 100000 in
theorem p5y4_1719_e : ck_ok p1_O none [] [] 34 [] 92 p5y4_1719 = true := by decide +kernel
theorem p5y4_1719_s {X : Int → Int} {LX : Nat} : ck_Ok p1_O X LX 34 p5y4_1719 := ck_ok_s (ck_E0) ck_X0 ck_l0 p5y4_1719_e
set_option maxRecDepth 100000 in
def p5y4_1720 : ck_Sum := ((1, 0, 0), 245, [.inr (.inr (.inl 1)), .inl (ck_one 225)], ([], [], [(201, 225, 225, ck_one 1)]), ([], []), [(.inr (some (.inl (ck_one 1))), 245, ([], [], []))])
set_option maxRecDepth 100000 in
theorem p5y4_1720_e : ck_ok p1_O none [] [(129, [p5y4_1718]), (34, [p5y4_1719])] 128 [] 86 p5y4_1720 = true := by decide +kernel
theorem p5y4_1720_s {X : Int → Int} {LX : Nat} : ck_Ok p1_O X LX 128 p5y4_1720 := ck_ok_s (ck_E1 (ck_S1 p5y4_1718_s ck_S0) (ck_E1 (ck_S1 p5y4_1719_s ck_S0) ck_E0)) ck_X0 ck_l0 p5y4_1720_e
set_option maxRecDepth 100000 in
def p5y4_1721 : ck_Sum := ((2, 0, 0), 245, [.inr (.inr (.inl 1)), .inl (ck_one 225), .inr (.inr (.inl 245))], ([], [], [(201, 225, 225, ck_one 1)]), ([(245, 0, 0)], []), [(.inr (some (.inl (ck_one 0))), 245, ([], [], [(245, 0, 0, ck_one 1)]))])
set_option maxRecDepth 100000 in
theorem p5y4_1721_e : ck_ok p1_O none [] [(128, [p5y4_1720])] 127 [] 90 p5y4_1721 = true := by decide +kernel
theorem p5y4_1721_s {X : Int → Int} {LX : Nat} : ck_Ok p1_O X LX 127 p5y4_1721 := ck_ok_s (ck_E1 (ck_S1 p5y4_1720_s ck_S0) ck_E0) ck_X0 ck_l0 p5y4_1721_e
set_option maxRecDepth 100000 in
def p5y4_1725 : ck_Sum := ((0, 0, 0), 245, [.inr (.inr (.inl 1)), .inl (ck_one 226)], ([], [], []), ([], []), [(.inr none, 245, ([], [], []))])
set_option maxRecDepth 100000 in
theorem p5y4_1725_e : ck_ok p1_O none [] [] 129 [] 82 p5y4_1725 = true := by decide +kernel
theorem p5y4_1725_s {X : Int → Int} {LX : Nat} : ck_Ok p1_O X LX 129 p5y4_1725 := ck_ok_s (ck_E0) ck_X0 ck_l0 p5y4_1725_e
set_option maxRecDepth 100000 in
def p5y4_1726 : ck_Sum := ((0, 0, 0), 245, [.inr (.inr (.inl 200)), .inl (ck_one 226)], ([], [], [(201, 226, 226, ck_one 8)]), ([], []), [(.inr (some (.inl (ck_one 8))), 245, ([], [], []))])
set_option maxRecDepth 100000 in
theorem p5y4_1726_e : ck_ok p1_O none [] [] 34 [] 92 p5y4_1726 = true := by decide +kernel
theorem p5y4_1726_s {X : Int → Int} {LX : Nat} : ck_Ok p1_O X LX 34 p5y4_1726 := ck_ok_s (ck_E0) ck_X0 ck_l0 p5y4_1726_e
set_option maxRecDepth 100000 in
def p5y4_1727 : ck_Sum := ((1, 0, 0), 245, [.inr (.inr (.inl 1)), .inl (ck_one 226)], ([], [], [(201, 226, 226, ck_one 8)]), ([], []), [(.inr (some (.inl (ck_one 8))), 245, ([], [], []))])
set_option maxRecDepth 100000 in
theorem p5y4_1727_e : ck_ok p1_O none [] [(129, [p5y4_1725]), (34, [p5y4_1726])] 128 [] 86 p5y4_1727 = true := by decide +kernel
theorem p5y4_1727_s {X : Int → Int} {LX : Nat} : ck_Ok p1_O X LX 128 p5y4_1727 := ck_ok_s (ck_E1 (ck_S1 p5y4_1725_s ck_S0) (ck_E1 (ck_S1 p5y4_1726_s ck_S0) ck_E0)) ck_X0 ck_l0 p5y4_1727_e
set_option maxRecDepth 100000 in
def p5y4_1728 : ck_Sum := ((2, 0, 0), 245, [.inr (.inr (.inl 1)), .inl (ck_one 226), .inr (.inr (.inl 245))], ([], [], [(201, 226, 226, ck_one 8)]), ([(245, 0, 0)], []), [(.inr (some (.inl (ck_one 0))), 245, ([], [], [(245, 0, 0, ck_one 8)]))])
set_option maxRecDepth 100000 in
theorem p5y4_1728_e : ck_ok p1_O none [] [(128, [p5y4_1727])] 127 [] 90 p5y4_1728 = true := by decide +kernel
theorem p5y4_1728_s {X : Int → Int} {LX : Nat} : ck_Ok p1_O X LX 127 p5y4_1728 := ck_ok_s (ck_E1 (ck_S1 p5y4_1727_s ck_S0) ck_E0) ck_X0 ck_l0 p5y4_1728_e
set_option maxRecDepth 100000 in
def p5y4_1732 : ck_Sum := ((0, 0, 0), 245, [.inr (.inr (.inl 1)), .inl (ck_one 227)], ([], [], []), ([], []), [(.inr none, 245, ([], [], []))])
set_option maxRecDepth 100000 in
theorem p5y4_1732_e : ck_ok p1_O none [] [] 129 [] 82 p5y4_1732 = true := by decide +kernel
theorem p5y4_1732_s {X : Int → Int} {LX : Nat} : ck_Ok p1_O X LX 129 p5y4_1732 := ck_ok_s (ck_E0) ck_X0 ck_l0 p5y4_1732_e
set_option maxRecDepth 100000 in
def p5y4_1733 : ck_Sum := ((0, 0, 0), 245, [.inr (.inr (.inl 200)), .inl (ck_one 227)], ([], [], [(201, 227, 227, ck_one 3)]), ([], []), [(.inr (some (.inl (ck_one 3))), 245, ([], [], []))])
set_option maxRecDepth 100000 in
theorem p5y4_1733_e : ck_ok p1_O none [] [] 34 [] 92 p5y4_1733 = true := by decide +kernel
theorem p5y4_1733_s {X : Int → Int} {LX : Nat} : ck_Ok p1_O X LX 34 p5y4_1733 := ck_ok_s (ck_E0) ck_X0 ck_l0 p5y4_1733_e
set_option maxRecDepth 100000 in
def p5y4_1734 : ck_Sum := ((1, 0, 0), 245, [.inr (.inr (.inl 1)), .inl (ck_one 227)], ([], [], [(201, 227, 227, ck_one 3)]), ([], []), [(.inr (some (.inl (ck_one 3))), 245, ([], [], []))])
set_option maxRecDepth 100000 in
theorem p5y4_1734_e : ck_ok p1_O none [] [(129, [p5y4_1732]), (34, [p5y4_1733])] 128 [] 86 p5y4_1734 = true := by decide +kernel
theorem p5y4_1734_s {X : Int → Int} {LX : Nat} : ck_Ok p1_O X LX 128 p5y4_1734 := ck_ok_s (ck_E1 (ck_S1 p5y4_1732_s ck_S0) (ck_E1 (ck_S1 p5y4_1733_s ck_S0) ck_E0)) ck_X0 ck_l0 p5y4_1734_e
set_option maxRecDepth 100000 in
def p5y4_1735 : ck_Sum := ((2, 0, 0), 245, [.inr (.inr (.inl 1)), .inl (ck_one 227), .inr (.inr (.inl 245))], ([], [], [(201, 227, 227, ck_one 3)]), ([(245, 0, 0)], []), [(.inr (some (.inl (ck_one 0))), 245, ([], [], [(245, 0, 0, ck_one 3)]))])
set_option maxRecDepth 100000 in
theorem p5y4_1735_e : ck_ok p1_O none [] [(128, [p5y4_1734])] 127 [] 90 p5y4_1735 = true := by decide +kernel
theorem p5y4_1735_s {X : Int → Int} {LX : Nat} : ck_Ok p1_O X LX 127 p5y4_1735 := ck_ok_s (ck_E1 (ck_S1 p5y4_1734_s ck_S0) ck_E0) ck_X0 ck_l0 p5y4_1735_e
set_option maxRecDepth 100000 in
def p5y4_1739 : ck_Sum := ((0, 0, 0), 245, [.inr (.inr (.inl 1)), .inl (ck_one 228)], ([], [], []), ([], []), [(.inr none, 245, ([], [], []))])
set_option maxRecDepth 100000 in
theorem p5y4_1739_e : ck_ok p1_O none [] [] 129 [] 82 p5y4_1739 = true := by decide +kernel
theorem p5y4_1739_s {X : Int → Int} {LX : Nat} : ck_Ok p1_O X LX 129 p5y4_1739 := ck_ok_s (ck_E0) ck_X0 ck_l0 p5y4_1739_e
set_option maxRecDepth 100000 in
def p5y4_1740 : ck_Sum := ((0, 0, 0), 245, [.inr (.inr (.inl 200)), .inl (ck_one 228)], ([], [], [(201, 228, 228, ck_one 1)]), ([], []), [(.inr (some (.inl (ck_one 1))), 245, ([], [], []))])
set_option maxRecDepth 100000 in
theorem p5y4_1740_e : ck_ok p1_O none [] [] 34 [] 92 p5y4_1740 = true := by decide +kernel
theorem p5y4_1740_s {X : Int → Int} {LX : Nat} : ck_Ok p1_O X LX 34 p5y4_1740 := ck_ok_s (ck_E0) ck_X0 ck_l0 p5y4_1740_e
set_option maxRecDepth 100000 in
def p5y4_1741 : ck_Sum := ((1, 0, 0), 245, [.inr (.inr (.inl 1)), .inl (ck_one 228)], ([], [], [(201, 228, 228, ck_one 1)]), ([], []), [(.inr (some (.inl (ck_one 1))), 245, ([], [], []))])
set_option maxRecDepth 100000 in
theorem p5y4_1741_e : ck_ok p1_O none [] [(129, [p5y4_1739]), (34, [p5y4_1740])] 128 [] 86 p5y4_1741 = true := by decide +kernel
theorem p5y4_1741_s {X : Int → Int} {LX : Nat} : ck_Ok p1_O X LX 128 p5y4_1741 := ck_ok_s (ck_E1 (ck_S1 p5y4_1739_s ck_S0) (ck_E1 (ck_S1 p5y4_1740_s ck_S0) ck_E0)) ck_X0 ck_l0 p5y4_1741_e
set_option maxRecDepth 100000 in
def p5y4_1742 : ck_Sum := ((2, 0, 0), 245, [.inr (.inr (.inl 1)), .inl (ck_one 228), .inr (.inr (.inl 245))], ([], [], [(201, 228, 228, ck_one 1)]), ([(245, 0, 0)], []), [(.inr (some (.inl (ck_one 0))), 245, ([], [], [(245, 0, 0, ck_one 1)]))])
set_option maxRecDepth 100000 in
theorem p5y4_1742_e : ck_ok p1_O none [] [(128, [p5y4_1741])] 127 [] 90 p5y4_1742 = true := by decide +kernel
theorem p5y4_1742_s {X : Int → Int} {LX : Nat} : ck_Ok p1_O X LX 127 p5y4_1742 := ck_ok_s (ck_E1 (ck_S1 p5y4_1741_s ck_S0) ck_E0) ck_X0 ck_l0 p5y4_1742_e
set_option maxRecDepth 100000 in
def p5y4_1746 : ck_Sum := ((0, 0, 0), 245, [.inr (.inr (.inl 1)), .inl (ck_one 229)], ([], [], []), ([], []), [(.inr none, 245, ([], [], []))])
set_option maxRecDepth 100000 in
theorem p5y4_1746_e : ck_ok p1_O none [] [] 129 [] 82 p5y4_1746 = true := by decide +kernel
theorem p5y4_1746_s {X : Int → Int} {LX : Nat} : ck_Ok p1_O X LX 129 p5y4_1746 := ck_ok_s (ck_E0) ck_X0 ck_l0 p5y4_1746_e
set_option maxRecDepth 100000 in
def p5y4_1747 : ck_Sum := ((0, 0, 0), 245, [.inr (.inr (.inl 200)), .inl (ck_one 229)], ([], [], [(201, 229, 229, ck_one 3)]), ([], []), [(.inr (some (.inl (ck_one 3))), 245, ([], [], []))])
set_option maxRecDepth 100000 in
theorem p5y4_1747_e : ck_ok p1_O none [] [] 34 [] 92 p5y4_1747 = true := by decide +kernel
theorem p5y4_1747_s {X : Int → Int} {LX : Nat} : ck_Ok p1_O X LX 34 p5y4_1747 := ck_ok_s (ck_E0) ck_X0 ck_l0 p5y4_1747_e
set_option maxRecDepth 100000 in
def p5y4_1748 : ck_Sum := ((1, 0, 0), 245, [.inr (.inr (.inl 1)), .inl (ck_one 229)], ([], [], [(201, 229, 229, ck_one 3)]), ([], []), [(.inr (some (.inl (ck_one 3))), 245, ([], [], []))])
set_option maxRecDepth 100000 in
theorem p5y4_1748_e : ck_ok p1_O none [] [(129, [p5y4_1746]), (34, [p5y4_1747])] 128 [] 86 p5y4_1748 = true := by decide +kernel
theorem p5y4_1748_s {X : Int → Int} {LX : Nat} : ck_Ok p1_O X LX 128 p5y4_1748 := ck_ok_s (ck_E1 (ck_S1 p5y4_1746_s ck_S0) (ck_E1 (ck_S1 p5y4_1747_s ck_S0) ck_E0)) ck_X0 ck_l0 p5y4_1748_e
set_option maxRecDepth 100000 in
def p5y4_1749 : ck_Sum := ((2, 0, 0), 245, [.inr (.inr (.inl 1)), .inl (ck_one 229), .inr (.inr (.inl 245))], ([], [], [(201, 229, 229, ck_one 3)]), ([(245, 0, 0)], []), [(.inr (some (.inl (ck_one 0))), 245, ([], [], [(245, 0, 0, ck_one 3)]))])
set_option maxRecDepth 100000 in
theorem p5y4_1749_e : ck_ok p1_O none [] [(128, [p5y4_1748])] 127 [] 90 p5y4_1749 = true := by decide +kernel
theorem p5y4_1749_s {X : Int → Int} {LX : Nat} : ck_Ok p1_O X LX 127 p5y4_1749 := ck_ok_s (ck_E1 (ck_S1 p5y4_1748_s ck_S0) ck_E0) ck_X0 ck_l0 p5y4_1749_e
set_option maxRecDepth 100000 in
def p5y4_1753 : ck_Sum := ((0, 0, 0), 245, [.inr (.inr (.inl 1)), .inl (ck_one 230)], ([], [], []), ([], []), [(.inr none, 245, ([], [], []))])
set_option maxRecDepth 100000 in
theorem p5y4_1753_e : ck_ok p1_O none [] [] 129 [] 82 p5y4_1753 = true := by decide +kernel
theorem p5y4_1753_s {X : Int → Int} {LX : Nat} : ck_Ok p1_O X LX 129 p5y4_1753 := ck_ok_s (ck_E0) ck_X0 ck_l0 p5y4_1753_e
set_option maxRecDepth 100000 in
def p5y4_1754 : ck_Sum := ((0, 0, 0), 245, [.inr (.inr (.inl 200)), .inl (ck_one 230)], ([], [], [(201, 230, 230, ck_one 2)]), ([], []), [(.inr (some (.inl (ck_one 2))), 245, ([], [], []))])
set_option maxRecDepth 100000 in
theorem p5y4_1754_e : ck_ok p1_O none [] [] 34 [] 92 p5y4_1754 = true := by decide +kernel
theorem p5y4_1754_s {X : Int → Int} {LX : Nat} : ck_Ok p1_O X LX 34 p5y4_1754 := ck_ok_s (ck_E0) ck_X0 ck_l0 p5y4_1754_e
set_option maxRecDepth 100000 in
def p5y4_1755 : ck_Sum := ((1, 0, 0), 245, [.inr (.inr (.inl 1)), .inl (ck_one 230)], ([], [], [(201, 230, 230, ck_one 2)]), ([], []), [(.inr (some (.inl (ck_one 2))), 245, ([], [], []))])
set_option maxRecDepth 100000 in
theorem p5y4_1755_e : ck_ok p1_O none [] [(129, [p5y4_1753]), (34, [p5y4_1754])] 128 [] 86 p5y4_1755 = true := by decide +kernel
theorem p5y4_1755_s {X : Int → Int} {LX : Nat} : ck_Ok p1_O X LX 128 p5y4_1755 := ck_ok_s (ck_E1 (ck_S1 p5y4_1753_s ck_S0) (ck_E1 (ck_S1 p5y4_1754_s ck_S0) ck_E0)) ck_X0 ck_l0 p5y4_1755_e
set_option maxRecDepth 100000 in
def p5y4_1756 : ck_Sum := ((2, 0, 0), 245, [.inr (.inr (.inl 1)), .inl (ck_one 230), .inr (.inr (.inl 245))], ([], [], [(201, 230, 230, ck_one 2)]), ([(245, 0, 0)], []), [(.inr (some (.inl (ck_one 0))), 245, ([], [], [(245, 0, 0, ck_one 2)]))])
set_option maxRecDepth 100000 in
theorem p5y4_1756_e : ck_ok p1_O none [] [(128, [p5y4_1755])] 127 [] 90 p5y4_1756 = true := by decide +kernel
theorem p5y4_1756_s {X : Int → Int} {LX : Nat} : ck_Ok p1_O X LX 127 p5y4_1756 := ck_ok_s (ck_E1 (ck_S1 p5y4_1755_s ck_S0) ck_E0) ck_X0 ck_l0 p5y4_1756_e
set_option maxRecDepth 100000 in
def p5y4_1760 : ck_Sum := ((0, 0, 0), 245, [.inr (.inr (.inl 1)), .inl (ck_one 231)], ([], [], []), ([], []), [(.inr none, 245, ([], [], []))])
set_option maxRecDepth 100000 in
theorem p5y4_1760_e : ck_ok p1_O none [] [] 129 [] 82 p5y4_1760 = true := by decide +kernel
theorem p5y4_1760_s {X : Int → Int} {LX : Nat} : ck_Ok p1_O X LX 129 p5y4_1760 := ck_ok_s (ck_E0) ck_X0 ck_l0 p5y4_1760_e
set_option maxRecDepth 100000 in
def p5y4_1761 : ck_Sum := ((0, 0, 0), 245, [.inr (.inr (.inl 200)), .inl (ck_one 231)], ([], [], [(201, 231, 231, ck_one 6)]), ([], []), [(.inr (some (.inl (ck_one 6))), 245, ([], [], []))])
set_option maxRecDepth 100000 in
theorem p5y4_1761_e : ck_ok p1_O none [] [] 34 [] 92 p5y4_1761 = true := by decide +kernel
theorem p5y4_1761_s {X : Int → Int} {LX : Nat} : ck_Ok p1_O X LX 34 p5y4_1761 := ck_ok_s (ck_E0) ck_X0 ck_l0 p5y4_1761_e
set_option maxRecDepth 100000 in
def p5y4_1762 : ck_Sum := ((1, 0, 0), 245, [.inr (.inr (.inl 1)), .inl (ck_one 231)], ([], [], [(201, 231, 231, ck_one 6)]), ([], []), [(.inr (some (.inl (ck_one 6))), 245, ([], [], []))])
set_option maxRecDepth 100000 in
theorem p5y4_1762_e : ck_ok p1_O none [] [(129, [p5y4_1760]), (34, [p5y4_1761])] 128 [] 86 p5y4_1762 = true := by decide +kernel
theorem p5y4_1762_s {X : Int → Int} {LX : Nat} : ck_Ok p1_O X LX 128 p5y4_1762 := ck_ok_s (ck_E1 (ck_S1 p5y4_1760_s ck_S0) (ck_E1 (ck_S1 p5y4_1761_s ck_S0) ck_E0)) ck_X0 ck_l0 p5y4_1762_e
set_option maxRecDepth 100000 in
def p5y4_1763 : ck_Sum := ((2, 0, 0), 245, [.inr (.inr (.inl 1)), .inl (ck_one 231), .inr (.inr (.inl 245))], ([], [], [(201, 231, 231, ck_one 6)]), ([(245, 0, 0)], []), [(.inr (some (.inl (ck_one 0))), 245, ([], [], [(245, 0, 0, ck_one 6)]))])
set_option maxRecDepth 100000 in
theorem p5y4_1763_e : ck_ok p1_O none [] [(128, [p5y4_1762])] 127 [] 90 p5y4_1763 = true := by decide +kernel
theorem p5y4_1763_s {X : Int → Int} {LX : Nat} : ck_Ok p1_O X LX 127 p5y4_1763 := ck_ok_s (ck_E1 (ck_S1 p5y4_1762_s ck_S0) ck_E0) ck_X0 ck_l0 p5y4_1763_e
set_option maxRecDepth 100000 in
def p5y4_1767 : ck_Sum := ((0, 0, 0), 245, [.inr (.inr (.inl 1)), .inl (ck_one 232)], ([], [], []), ([], []), [(.inr none, 245, ([], [], []))])
set_option maxRecDepth 100000 in
theorem p5y4_1767_e : ck_ok p1_O none [] [] 129 [] 82 p5y4_1767 = true := by decide +kernel
theorem p5y4_1767_s {X : Int → Int} {LX : Nat} : ck_Ok p1_O X LX 129 p5y4_1767 := ck_ok_s (ck_E0) ck_X0 ck_l0 p5y4_1767_e
set_option maxRecDepth 100000 in
def p5y4_1768 : ck_Sum := ((0, 0, 0), 245, [.inr (.inr (.inl 200)), .inl (ck_one 232)], ([], [], [(201, 232, 232, ck_one 1)]), ([], []), [(.inr (some (.inl (ck_one 1))), 245, ([], [], []))])
set_option maxRecDepth 100000 in
theorem p5y4_1768_e : ck_ok p1_O none [] [] 34 [] 92 p5y4_1768 = true := by decide +kernel
theorem p5y4_1768_s {X : Int → Int} {LX : Nat} : ck_Ok p1_O X LX 34 p5y4_1768 := ck_ok_s (ck_E0) ck_X0 ck_l0 p5y4_1768_e
set_option maxRecDepth 100000 in
def p5y4_1769 : ck_Sum := ((1, 0, 0), 245, [.inr (.inr (.inl 1)), .inl (ck_one 232)], ([], [], [(201, 232, 232, ck_one 1)]), ([], []), [(.inr (some (.inl (ck_one 1))), 245, ([], [], []))])
set_option maxRecDepth 100000 in
theorem p5y4_1769_e : ck_ok p1_O none [] [(129, [p5y4_1767]), (34, [p5y4_1768])] 128 [] 86 p5y4_1769 = true := by decide +kernel
theorem p5y4_1769_s {X : Int → Int} {LX : Nat} : ck_Ok p1_O X LX 128 p5y4_1769 := ck_ok_s (ck_E1 (ck_S1 p5y4_1767_s ck_S0) (ck_E1 (ck_S1 p5y4_1768_s ck_S0) ck_E0)) ck_X0 ck_l0 p5y4_1769_e
set_option maxRecDepth 100000 in
def p5y4_1770 : ck_Sum := ((2, 0, 0), 245, [.inr (.inr (.inl 1)), .inl (ck_one 232), .inr (.inr (.inl 245))], ([], [], [(201, 232, 232, ck_one 1)]), ([(245, 0, 0)], []), [(.inr (some (.inl (ck_one 0))), 245, ([], [], [(245, 0, 0, ck_one 1)]))])
set_option maxRecDepth 100000 in
theorem p5y4_1770_e : ck_ok p1_O none [] [(128, [p5y4_1769])] 127 [] 90 p5y4_1770 = true := by decide +kernel
theorem p5y4_1770_s {X : Int → Int} {LX : Nat} : ck_Ok p1_O X LX 127 p5y4_1770 := ck_ok_s (ck_E1 (ck_S1 p5y4_1769_s ck_S0) ck_E0) ck_X0 ck_l0 p5y4_1770_e
set_option maxRecDepth 100000 in
def p5y4_1774 : ck_Sum := ((0, 0, 0), 245, [.inr (.inr (.inl 1)), .inl (ck_one 233)], ([], [], []), ([], []), [(.inr none, 245, ([], [], []))])
set_option maxRecDepth 100000 in
theorem p5y4_1774_e : ck_ok p1_O none [] [] 129 [] 82 p5y4_1774 = true := by decide +kernel
theorem p5y4_1774_s {X : Int → Int} {LX : Nat} : ck_Ok p1_O X LX 129 p5y4_1774 := ck_ok_s (ck_E0) ck_X0 ck_l0 p5y4_1774_e
set_option maxRecDepth 100000 in
def p5y4_1775 : ck_Sum := ((0, 0, 0), 245, [.inr (.inr (.inl 200)), .inl (ck_one 233)], ([], [], [(201, 233, 233, ck_one 4)]), ([], []), [(.inr (some (.inl (ck_one 4))), 245, ([], [], []))])
set_option maxRecDepth 100000 in
theorem p5y4_1775_e : ck_ok p1_O none [] [] 34 [] 92 p5y4_1775 = true := by decide +kernel
theorem p5y4_1775_s {X : Int → Int} {LX : Nat} : ck_Ok p1_O X LX 34 p5y4_1775 := ck_ok_s (ck_E0) ck_X0 ck_l0 p5y4_1775_e
set_option maxRecDepth 100000 in
def p5y4_1776 : ck_Sum := ((1, 0, 0), 245, [.inr (.inr (.inl 1)), .inl (ck_one 233)], ([], [], [(201, 233, 233, ck_one 4)]), ([], []), [(.inr (some (.inl (ck_one 4))), 245, ([], [], []))])
set_option maxRecDepth 100000 in
theorem p5y4_1776_e : ck_ok p1_O none [] [(129, [p5y4_1774]), (34, [p5y4_1775])] 128 [] 86 p5y4_1776 = true := by decide +kernel
theorem p5y4_1776_s {X : Int → Int} {LX : Nat} : ck_Ok p1_O X LX 128 p5y4_1776 := ck_ok_s (ck_E1 (ck_S1 p5y4_1774_s ck_S0) (ck_E1 (ck_S1 p5y4_1775_s ck_S0) ck_E0)) ck_X0 ck_l0 p5y4_1776_e
set_option maxRecDepth 100000 in
def p5y4_1777 : ck_Sum := ((2, 0, 0), 245, [.inr (.inr (.inl 1)), .inl (ck_one 233), .inr (.inr (.inl 245))], ([], [], [(201, 233, 233, ck_one 4)]), ([(245, 0, 0)], []), [(.inr (some (.inl (ck_one 0))), 245, ([], [], [(245, 0, 0, ck_one 4)]))])
set_option maxRecDepth 100000 in
theorem p5y4_1777_e : ck_ok p1_O none [] [(128, [p5y4_1776])] 127 [] 90 p5y4_1777 = true := by decide +kernel
theorem p5y4_1777_s {X : Int → Int} {LX : Nat} : ck_Ok p1_O X LX 127 p5y4_1777 := ck_ok_s (ck_E1 (ck_S1 p5y4_1776_s ck_S0) ck_E0) ck_X0 ck_l0 p5y4_1777_e
set_option maxRecDepth 100000 in
def p5y4_1781 : ck_Sum := ((0, 0, 0), 245, [.inr (.inr (.inl 1)), .inl (ck_one 234)], ([], [], []), ([], []), [(.inr none, 245, ([], [], []))])
set_option maxRecDepth 100000 in
theorem p5y4_1781_e : ck_ok p1_O none [] [] 129 [] 82 p5y4_1781 = true := by decide +kernel
theorem p5y4_1781_s {X : Int → Int} {LX : Nat} : ck_Ok p1_O X LX 129 p5y4_1781 := ck_ok_s (ck_E0) ck_X0 ck_l0 p5y4_1781_e
set_option maxRecDepth 100000 in
def p5y4_1782 : ck_Sum := ((0, 0, 0), 245, [.inr (.inr (.inl 200)), .inl (ck_one 234)], ([], [], [(201, 234, 234, ck_one 8)]), ([], []), [(.inr (some (.inl (ck_one 8))), 245, ([], [], []))])
set_option maxRecDepth 100000 in
theorem p5y4_1782_e : ck_ok p1_O none [] [] 34 [] 92 p5y4_1782 = true := by decide +kernel
theorem p5y4_1782_s {X : Int → Int} {LX : Nat} : ck_Ok p1_O X LX 34 p5y4_1782 := ck_ok_s (ck_E0) ck_X0 ck_l0 p5y4_1782_e
set_option maxRecDepth 100000 in
def p5y4_1783 : ck_Sum := ((1, 0, 0), 245, [.inr (.inr (.inl 1)), .inl (ck_one 234)], ([], [], [(201, 234, 234, ck_one 8)]), ([], []), [(.inr (some (.inl (ck_one 8))), 245, ([], [], []))])
set_option maxRecDepth 100000 in
theorem p5y4_1783_e : ck_ok p1_O none [] [(129, [p5y4_1781]), (34, [p5y4_1782])] 128 [] 86 p5y4_1783 = true := by decide +kernel
theorem p5y4_1783_s {X : Int → Int} {LX : Nat} : ck_Ok p1_O X LX 128 p5y4_1783 := ck_ok_s (ck_E1 (ck_S1 p5y4_1781_s ck_S0) (ck_E1 (ck_S1 p5y4_1782_s ck_S0) ck_E0)) ck_X0 ck_l0 p5y4_1783_e
set_option maxRecDepth 100000 in
def p5y4_1784 : ck_Sum := ((2, 0, 0), 245, [.inr (.inr (.inl 1)), .inl (ck_one 234), .inr (.inr (.inl 245))], ([], [], [(201, 234, 234, ck_one 8)]), ([(245, 0, 0)], []), [(.inr (some (.inl (ck_one 0))), 245, ([], [], [(245, 0, 0, ck_one 8)]))])
set_option maxRecDepth 100000 in
theorem p5y4_1784_e : ck_ok p1_O none [] [(128, [p5y4_1783])] 127 [] 90 p5y4_1784 = true := by decide +kernel
theorem p5y4_1784_s {X : Int → Int} {LX : Nat} : ck_Ok p1_O X LX 127 p5y4_1784 := ck_ok_s (ck_E1 (ck_S1 p5y4_1783_s ck_S0) ck_E0) ck_X0 ck_l0 p5y4_1784_e
set_option maxRecDepth 100000 in
def p5y4_1788 : ck_Sum := ((0, 0, 0), 245, [.inr (.inr (.inl 1)), .inl (ck_one 235)], ([], [], []), ([], []), [(.inr none, 245, ([], [], []))])
set_option maxRecDepth 100000 in
theorem p5y4_1788_e : ck_ok p1_O none [] [] 129 [] 82 p5y4_1788 = true := by decide +kernel
theorem p5y4_1788_s {X : Int → Int} {LX : Nat} : ck_Ok p1_O X LX 129 p5y4_1788 := ck_ok_s (ck_E0) ck_X0 ck_l0 p5y4_1788_e
set_option maxRecDepth 100000 in
def p5y4_1789 : ck_Sum := ((0, 0, 0), 245, [.inr (.inr (.inl 200)), .inl (ck_one 235)], ([], [], [(201, 235, 235, ck_one 4)]), ([], []), [(.inr (some (.inl (ck_one 4))), 245, ([], [], []))])
set_option maxRecDepth 100000 in
theorem p5y4_1789_e : ck_ok p1_O none [] [] 34 [] 92 p5y4_1789 = true := by decide +kernel
theorem p5y4_1789_s {X : Int → Int} {LX : Nat} : ck_Ok p1_O X LX 34 p5y4_1789 := ck_ok_s (ck_E0) ck_X0 ck_l0 p5y4_1789_e
set_option maxRecDepth 100000 in
def p5y4_1790 : ck_Sum := ((1, 0, 0), 245, [.inr (.inr (.inl 1)), .inl (ck_one 235)], ([], [], [(201, 235, 235, ck_one 4)]), ([], []), [(.inr (some (.inl (ck_one 4))), 245, ([], [], []))])
set_option maxRecDepth 100000 in
theorem p5y4_1790_e : ck_ok p1_O none [] [(129, [p5y4_1788]), (34, [p5y4_1789])] 128 [] 86 p5y4_1790 = true := by decide +kernel
theorem p5y4_1790_s {X : Int → Int} {LX : Nat} : ck_Ok p1_O X LX 128 p5y4_1790 := ck_ok_s (ck_E1 (ck_S1 p5y4_1788_s ck_S0) (ck_E1 (ck_S1 p5y4_1789_s ck_S0) ck_E0)) ck_X0 ck_l0 p5y4_1790_e
set_option maxRecDepth 100000 in
def p5y4_1791 : ck_Sum := ((2, 0, 0), 245, [.inr (.inr (.inl 1)), .inl (ck_one 235), .inr (.inr (.inl 245))], ([], [], [(201, 235, 235, ck_one 4)]), ([(245, 0, 0)], []), [(.inr (some (.inl (ck_one 0))), 245, ([], [], [(245, 0, 0, ck_one 4)]))])
set_option maxRecDepth 100000 in
theorem p5y4_1791_e : ck_ok p1_O none [] [(128, [p5y4_1790])] 127 [] 90 p5y4_1791 = true := by decide +kernel
theorem p5y4_1791_s {X : Int → Int} {LX : Nat} : ck_Ok p1_O X LX 127 p5y4_1791 := ck_ok_s (ck_E1 (ck_S1 p5y4_1790_s ck_S0) ck_E0) ck_X0 ck_l0 p5y4_1791_e
set_option maxRecDepth 100000 in
def p5y4_1795 : ck_Sum := ((0, 0, 0), 245, [.inr (.inr (.inl 1)), .inl (ck_one 236)], ([], [], []), ([], []), [(.inr none, 245, ([], [], []))])
set_option maxRecDepth 100000 in
theorem p5y4_1795_e : ck_ok p1_O none [] [] 129 [] 82 p5y4_1795 = true := by decide +kernel
theorem p5y4_1795_s {X : Int → Int} {LX : Nat} : ck_Ok p1_O X LX 129 p5y4_1795 := ck_ok_s (ck_E0) ck_X0 ck_l0 p5y4_1795_e
set_option maxRecDepth 100000 in
def p5y4_1796 : ck_Sum := ((0, 0, 0), 245, [.inr (.inr (.inl 200)), .inl (ck_one 236)], ([], [], [(201, 236, 236, ck_one 9)]), ([], []), [(.inr (some (.inl (ck_one 9))), 245, ([], [], []))])
set_option maxRecDepth 100000 in
theorem p5y4_1796_e : ck_ok p1_O none [] [] 34 [] 92 p5y4_1796 = true := by decide +kernel
theorem p5y4_1796_s {X : Int → Int} {LX : Nat} : ck_Ok p1_O X LX 34 p5y4_1796 := ck_ok_s (ck_E0) ck_X0 ck_l0 p5y4_1796_e
set_option maxRecDepth 100000 in
def p5y4_1797 : ck_Sum := ((1, 0, 0), 245, [.inr (.inr (.inl 1)), .inl (ck_one 236)], ([], [], [(201, 236, 236, ck_one 9)]), ([], []), [(.inr (some (.inl (ck_one 9))), 245, ([], [], []))])
set_option maxRecDepth 100000 in
theorem p5y4_1797_e : ck_ok p1_O none [] [(129, [p5y4_1795]), (34, [p5y4_1796])] 128 [] 86 p5y4_1797 = true := by decide +kernel
theorem p5y4_1797_s {X : Int → Int} {LX : Nat} : ck_Ok p1_O X LX 128 p5y4_1797 := ck_ok_s (ck_E1 (ck_S1 p5y4_1795_s ck_S0) (ck_E1 (ck_S1 p5y4_1796_s ck_S0) ck_E0)) ck_X0 ck_l0 p5y4_1797_e
set_option maxRecDepth 100000 in
def p5y4_1798 : ck_Sum := ((2, 0, 0), 245, [.inr (.inr (.inl 1)), .inl (ck_one 236), .inr (.inr (.inl 245))], ([], [], [(201, 236, 236, ck_one 9)]), ([(245, 0, 0)], []), [(.inr (some (.inl (ck_one 0))), 245, ([], [], [(245, 0, 0, ck_one 9)]))])
set_option maxRecDepth 100000 in
theorem p5y4_1798_e : ck_ok p1_O none [] [(128, [p5y4_1797])] 127 [] 90 p5y4_1798 = true := by decide +kernel
theorem p5y4_1798_s {X : Int → Int} {LX : Nat} : ck_Ok p1_O X LX 127 p5y4_1798 := ck_ok_s (ck_E1 (ck_S1 p5y4_1797_s ck_S0) ck_E0) ck_X0 ck_l0 p5y4_1798_e
set_option maxRecDepth 100000 in
def p5y4_1802 : ck_Sum := ((0, 0, 0), 245, [.inr (.inr (.inl 1)), .inl (ck_one 237)], ([], [], []), ([], []), [(.inr none, 245, ([], [], []))])
set_option maxRecDepth 100000 in
theorem p5y4_1802_e : ck_ok p1_O none [] [] 129 [] 82 p5y4_1802 = true := by decide +kernel
theorem p5y4_1802_s {X : Int → Int} {LX : Nat} : ck_Ok p1_O X LX 129 p5y4_1802 := ck_ok_s (ck_E0) ck_X0 ck_l0 p5y4_1802_e
set_option maxRecDepth 100000 in
def p5y4_1803 : ck_Sum := ((0, 0, 0), 245, [.inr (.inr (.inl 200)), .inl (ck_one 237)], ([], [], [(201, 237, 237, ck_one 4)]), ([], []), [(.inr (some (.inl (ck_one 4))), 245, ([], [], []))])
set_option maxRecDepth 100000 in
theorem p5y4_1803_e : ck_ok p1_O none [] [] 34 [] 92 p5y4_1803 = true := by decide +kernel
theorem p5y4_1803_s {X : Int → Int} {LX : Nat} : ck_Ok p1_O X LX 34 p5y4_1803 := ck_ok_s (ck_E0) ck_X0 ck_l0 p5y4_1803_e
set_option maxRecDepth 100000 in
def p5y4_1804 : ck_Sum := ((1, 0, 0), 245, [.inr (.inr (.inl 1)), .inl (ck_one 237)], ([], [], [(201, 237, 237, ck_one 4)]), ([], []), [(.inr (some (.inl (ck_one 4))), 245, ([], [], []))])
set_option maxRecDepth 100000 in
theorem p5y4_1804_e : ck_ok p1_O none [] [(129, [p5y4_1802]), (34, [p5y4_1803])] 128 [] 86 p5y4_1804 = true := by decide +kernel
theorem p5y4_1804_s {X : Int → Int} {LX : Nat} : ck_Ok p1_O X LX 128 p5y4_1804 := ck_ok_s (ck_E1 (ck_S1 p5y4_1802_s ck_S0) (ck_E1 (ck_S1 p5y4_1803_s ck_S0) ck_E0)) ck_X0 ck_l0 p5y4_1804_e
set_option maxRecDepth 100000 in
def p5y4_1805 : ck_Sum := ((2, 0, 0), 245, [.inr (.inr (.inl 1)), .inl (ck_one 237), .inr (.inr (.inl 245))], ([], [], [(201, 237, 237, ck_one 4)]), ([(245, 0, 0)], []), [(.inr (some (.inl (ck_one 0))), 245, ([], [], [(245, 0, 0, ck_one 4)]))])
set_option maxRecDepth 100000 in
theorem p5y4_1805_e : ck_ok p1_O none [] [(128, [p5y4_1804])] 127 [] 90 p5y4_1805 = true := by decide +kernel
theorem p5y4_1805_s {X : Int → Int} {LX : Nat} : ck_Ok p1_O X LX 127 p5y4_1805 := ck_ok_s (ck_E1 (ck_S1 p5y4_1804_s ck_S0) ck_E0) ck_X0 ck_l0 p5y4_1805_e
set_option maxRecDepth 100000 in
def p5y4_1809 : ck_Sum := ((0, 0, 0), 245, [.inr (.inr (.inl 1)), .inl (ck_one 238)], ([], [], []), ([], []), [(.inr none, 245, ([], [], []))])
set_option maxRecDepth 100000 in
theorem p5y4_1809_e : ck_ok p1_O none [] [] 129 [] 82 p5y4_1809 = true := by decide +kernel
theorem p5y4_1809_s {X : Int → Int} {LX : Nat} : ck_Ok p1_O X LX 129 p5y4_1809 := ck_ok_s (ck_E0) ck_X0 ck_l0 p5y4_1809_e
set_option maxRecDepth 100000 in
def p5y4_1810 : ck_Sum := ((0, 0, 0), 245, [.inr (.inr (.inl 200)), .inl (ck_one 238)], ([], [], [(201, 238, 238, ck_one 1)]), ([], []), [(.inr (some (.inl (ck_one 1))), 245, ([], [], []))])
set_option maxRecDepth 100000 in
theorem p5y4_1810_e : ck_ok p1_O none [] [] 34 [] 92 p5y4_1810 = true := by decide +kernel
theorem p5y4_1810_s {X : Int → Int} {LX : Nat} : ck_Ok p1_O X LX 34 p5y4_1810 := ck_ok_s (ck_E0) ck_X0 ck_l0 p5y4_1810_e
set_option maxRecDepth 100000 in
def p5y4_1811 : ck_Sum := ((1, 0, 0), 245, [.inr (.inr (.inl 1)), .inl (ck_one 238)], ([], [], [(201, 238, 238, ck_one 1)]), ([], []), [(.inr (some (.inl (ck_one 1))), 245, ([], [], []))])
set_option maxRecDepth 100000 in
theorem p5y4_1811_e : ck_ok p1_O none [] [(129, [p5y4_1809]), (34, [p5y4_1810])] 128 [] 86 p5y4_1811 = true := by decide +kernel
theorem p5y4_1811_s {X : Int → Int} {LX : Nat} : ck_Ok p1_O X LX 128 p5y4_1811 := ck_ok_s (ck_E1 (ck_S1 p5y4_1809_s ck_S0) (ck_E1 (ck_S1 p5y4_1810_s ck_S0) ck_E0)) ck_X0 ck_l0 p5y4_1811_e
set_option maxRecDepth 100000 in
def p5y4_1812 : ck_Sum := ((2, 0, 0), 245, [.inr (.inr (.inl 1)), .inl (ck_one 238), .inr (.inr (.inl 245))], ([], [], [(201, 238, 238, ck_one 1)]), ([(245, 0, 0)], []), [(.inr (some (.inl (ck_one 0))), 245, ([], [], [(245, 0, 0, ck_one 1)]))])
set_option maxRecDepth 100000 in
theorem p5y4_1812_e : ck_ok p1_O none [] [(128, [p5y4_1811])] 127 [] 90 p5y4_1812 = true := by decide +kernel
theorem p5y4_1812_s {X : Int → Int} {LX : Nat} : ck_Ok p1_O X LX 127 p5y4_1812 := ck_ok_s (ck_E1 (ck_S1 p5y4_1811_s ck_S0) ck_E0) ck_X0 ck_l0 p5y4_1812_e
set_option maxRecDepth 100000 in
def p5y4_1816 : ck_Sum := ((0, 0, 0), 245, [.inr (.inr (.inl 1)), .inl (ck_one 239)], ([], [], []), ([], []), [(.inr none, 245, ([], [], []))])
set_option maxRecDepth 100000 in
theorem p5y4_1816_e : ck_ok p1_O none [] [] 129 [] 82 p5y4_1816 = true := by decide +kernel
theorem p5y4_1816_s {X : Int → Int} {LX : Nat} : ck_Ok p1_O X LX 129 p5y4_1816 := ck_ok_s (ck_E0) ck_X0 ck_l0 p5y4_1816_e
set_option maxRecDepth 100000 in
def p5y4_1817 : ck_Sum := ((0, 0, 0), 245, [.inr (.inr (.inl 200)), .inl (ck_one 239)], ([], [], [(201, 239, 239, ck_one 9)]), ([], []), [(.inr (some (.inl (ck_one 9))), 245, ([], [], []))])
set_option maxRecDepth 100000 in
theorem p5y4_1817_e : ck_ok p1_O none [] [] 34 [] 92 p5y4_1817 = true := by decide +kernel
theorem p5y4_1817_s {X : Int → Int} {LX : Nat} : ck_Ok p1_O X LX 34 p5y4_1817 := ck_ok_s (ck_E0) ck_X0 ck_l0 p5y4_1817_e
set_option maxRecDepth 100000 in
def p5y4_1818 : ck_Sum := ((1, 0, 0), 245, [.inr (.inr (.inl 1)), .inl (ck_one 239)], ([], [], [(201, 239, 239, ck_one 9)]), ([], []), [(.inr (some (.inl (ck_one 9))), 245, ([], [], []))])
set_option maxRecDepth 100000 in
theorem p5y4_1818_e : ck_ok p1_O none [] [(129, [p5y4_1816]), (34, [p5y4_1817])] 128 [] 86 p5y4_1818 = true := by decide +kernel
theorem p5y4_1818_s {X : Int → Int} {LX : Nat} : ck_Ok p1_O X LX 128 p5y4_1818 := ck_ok_s (ck_E1 (ck_S1 p5y4_1816_s ck_S0) (ck_E1 (ck_S1 p5y4_1817_s ck_S0) ck_E0)) ck_X0 ck_l0 p5y4_1818_e
set_option maxRecDepth 100000 in
def p5y4_1819 : ck_Sum := ((2, 0, 0), 245, [.inr (.inr (.inl 1)), .inl (ck_one 239), .inr (.inr (.inl 245))], ([], [], [(201, 239, 239, ck_one 9)]), ([(245, 0, 0)], []), [(.inr (some (.inl (ck_one 0))), 245, ([], [], [(245, 0, 0, ck_one 9)]))])
set_option maxRecDepth 100000 in
theorem p5y4_1819_e : ck_ok p1_O none [] [(128, [p5y4_1818])] 127 [] 90 p5y4_1819 = true := by decide +kernel
theorem p5y4_1819_s {X : Int → Int} {LX : Nat} : ck_Ok p1_O X LX 127 p5y4_1819 := ck_ok_s (ck_E1 (ck_S1 p5y4_1818_s ck_S0) ck_E0) ck_X0 ck_l0 p5y4_1819_e
set_option maxRecDepth 100000 in
def p5y4_1823 : ck_Sum := ((0, 0, 0), 245, [.inr (.inr (.inl 1)), .inl (ck_one 240)], ([], [], []), ([], []), [(.inr none, 245, ([], [], []))])
set_option maxRecDepth 100000 in
theorem p5y4_1823_e : ck_ok p1_O none [] [] 129 [] 82 p5y4_1823 = true := by decide +kernel
theorem p5y4_1823_s {X : Int → Int} {LX : Nat} : ck_Ok p1_O X LX 129 p5y4_1823 := ck_ok_s (ck_E0) ck_X0 ck_l0 p5y4_1823_e
set_option maxRecDepth 100000 in
def p5y4_1824 : ck_Sum := ((0, 0, 0), 245, [.inr (.inr (.inl 200)), .inl (ck_one 240)], ([], [], [(201, 240, 240, ck_one 5)]), ([], []), [(.inr (some (.inl (ck_one 5))), 245, ([], [], []))])
set_option maxRecDepth 100000 in
theorem p5y4_1824_e : ck_ok p1_O none [] [] 34 [] 92 p5y4_1824 = true := by decide +kernel
theorem p5y4_1824_s {X : Int → Int} {LX : Nat} : ck_Ok p1_O X LX 34 p5y4_1824 := ck_ok_s (ck_E0) ck_X0 ck_l0 p5y4_1824_e
set_option maxRecDepth 100000 in
def p5y4_1825 : ck_Sum := ((1, 0, 0), 245, [.inr (.inr (.inl 1)), .inl (ck_one 240)], ([], [], [(201, 240, 240, ck_one 5)]), ([], []), [(.inr (some (.inl (ck_one 5))), 245, ([], [], []))])
set_option maxRecDepth 100000 in
theorem p5y4_1825_e : ck_ok p1_O none [] [(129, [p5y4_1823]), (34, [p5y4_1824])] 128 [] 86 p5y4_1825 = true := by decide +kernel
theorem p5y4_1825_s {X : Int → Int} {LX : Nat} : ck_Ok p1_O X LX 128 p5y4_1825 := ck_ok_s (ck_E1 (ck_S1 p5y4_1823_s ck_S0) (ck_E1 (ck_S1 p5y4_1824_s ck_S0) ck_E0)) ck_X0 ck_l0 p5y4_1825_e
set_option maxRecDepth 100000 in
def p5y4_1826 : ck_Sum := ((2, 0, 0), 245, [.inr (.inr (.inl 1)), .inl (ck_one 240), .inr (.inr (.inl 245))], ([], [], [(201, 240, 240, ck_one 5)]), ([(245, 0, 0)], []), [(.inr (some (.inl (ck_one 0))), 245, ([], [], [(245, 0, 0, ck_one 5)]))])
set_option maxRecDepth 100000 in
theorem p5y4_1826_e : ck_ok p1_O none [] [(128, [p5y4_1825])] 127 [] 90 p5y4_1826 = true := by decide +kernel
theorem p5y4_1826_s {X : Int → Int} {LX : Nat} : ck_Ok p1_O X LX 127 p5y4_1826 := ck_ok_s (ck_E1 (ck_S1 p5y4_1825_s ck_S0) ck_E0) ck_X0 ck_l0 p5y4_1826_e
set_option maxRecDepth 100000 in
def p5y4_1830 : ck_Sum := ((0, 0, 0), 245, [.inr (.inr (.inl 1)), .inl (ck_one 241)], ([], [], []), ([], []), [(.inr none, 245, ([], [], []))])
set_option maxRecDepth 100000 in
theorem p5y4_1830_e : ck_ok p1_O none [] [] 129 [] 82 p5y4_1830 = true := by decide +kernel
theorem p5y4_1830_s {X : Int → Int} {LX : Nat} : ck_Ok p1_O X LX 129 p5y4_1830 := ck_ok_s (ck_E0) ck_X0 ck_l0 p5y4_1830_e
set_option maxRecDepth 100000 in
def p5y4_1831 : ck_Sum := ((0, 0, 0), 245, [.inr (.inr (.inl 200)), .inl (ck_one 241)], ([], [], [(201, 241, 241, ck_one 5)]), ([], []), [(.inr (some (.inl (ck_one 5))), 245, ([], [], []))])
set_option maxRecDepth 100000 in
theorem p5y4_1831_e : ck_ok p1_O none [] [] 34 [] 92 p5y4_1831 = true := by decide +kernel
theorem p5y4_1831_s {X : Int → Int} {LX : Nat} : ck_Ok p1_O X LX 34 p5y4_1831 := ck_ok_s (ck_E0) ck_X0 ck_l0 p5y4_1831_e
set_option maxRecDepth 100000 in
def p5y4_1832 : ck_Sum := ((1, 0, 0), 245, [.inr (.inr (.inl 1)), .inl (ck_one 241)], ([], [], [(201, 241, 241, ck_one 5)]), ([], []), [(.inr (some (.inl (ck_one 5))), 245, ([], [], []))])
set_option maxRecDepth 100000 in
theorem p5y4_1832_e : ck_ok p1_O none [] [(129, [p5y4_1830]), (34, [p5y4_1831])] 128 [] 86 p5y4_1832 = true := by decide +kernel
theorem p5y4_1832_s {X : Int → Int} {LX : Nat} : ck_Ok p1_O X LX 128 p5y4_1832 := ck_ok_s (ck_E1 (ck_S1 p5y4_1830_s ck_S0) (ck_E1 (ck_S1 p5y4_1831_s ck_S0) ck_E0)) ck_X0 ck_l0 p5y4_1832_e
set_option maxRecDepth 100000 in
def p5y4_1833 : ck_Sum := ((2, 0, 0), 245, [.inr (.inr (.inl 1)), .inl (ck_one 241), .inr (.inr (.inl 245))], ([], [], [(201, 241, 241, ck_one 5)]), ([(245, 0, 0)], []), [(.inr (some (.inl (ck_one 0))), 245, ([], [], [(245, 0, 0, ck_one 5)]))])
set_option maxRecDepth 100000 in
theorem p5y4_1833_e : ck_ok p1_O none [] [(128, [p5y4_1832])] 127 [] 90 p5y4_1833 = true := by decide +kernel
theorem p5y4_1833_s {X : Int → Int} {LX : Nat} : ck_Ok p1_O X LX 127 p5y4_1833 := ck_ok_s (ck_E1 (ck_S1 p5y4_1832_s ck_S0) ck_E0) ck_X0 ck_l0 p5y4_1833_e
set_option maxRecDepth 100000 in
def p5y4_1837 : ck_Sum := ((0, 0, 0), 245, [.inr (.inr (.inl 1)), .inl (ck_one 242)], ([], [], []), ([], []), [(.inr none, 245, ([], [], []))])
set_option maxRecDepth 100000 in
theorem p5y4_1837_e : ck_ok p1_O none [] [] 129 [] 82 p5y4_1837 = true := by decide +kernel
theorem p5y4_1837_s {X : Int → Int} {LX : Nat} : ck_Ok p1_O X LX 129 p5y4_1837 := ck_ok_s (ck_E0) ck_X0 ck_l0 p5y4_1837_e
set_option maxRecDepth 100000 in
def p5y4_1838 : ck_Sum := ((0, 0, 0), 245, [.inr (.inr (.inl 200)), .inl (ck_one 242)], ([], [], [(201, 242, 242, ck_one 4)]), ([], []), [(.inr (some (.inl (ck_one 4))), 245, ([], [], []))])
set_option maxRecDepth 100000 in
theorem p5y4_1838_e : ck_ok p1_O none [] [] 34 [] 92 p5y4_1838 = true := by decide +kernel
theorem p5y4_1838_s {X : Int → Int} {LX : Nat} : ck_Ok p1_O X LX 34 p5y4_1838 := ck_ok_s (ck_E0) ck_X0 ck_l0 p5y4_1838_e
set_option maxRecDepth 100000 in
def p5y4_1839 : ck_Sum := ((1, 0, 0), 245, [.inr (.inr (.inl 1)), .inl (ck_one 242)], ([], [], [(201, 242, 242, ck_one 4)]), ([], []), [(.inr (some (.inl (ck_one 4))), 245, ([], [], []))])
set_option maxRecDepth 100000 in
theorem p5y4_1839_e : ck_ok p1_O none [] [(129, [p5y4_1837]), (34, [p5y4_1838])] 128 [] 86 p5y4_1839 = true := by decide +kernel
theorem p5y4_1839_s {X : Int → Int} {LX : Nat} : ck_Ok p1_O X LX 128 p5y4_1839 := ck_ok_s (ck_E1 (ck_S1 p5y4_1837_s ck_S0) (ck_E1 (ck_S1 p5y4_1838_s ck_S0) ck_E0)) ck_X0 ck_l0 p5y4_1839_e
set_option maxRecDepth 100000 in
def p5y4_1840 : ck_Sum := ((2, 0, 0), 245, [.inr (.inr (.inl 1)), .inl (ck_one 242), .inr (.inr (.inl 245))], ([], [], [(201, 242, 242, ck_one 4)]), ([(245, 0, 0)], []), [(.inr (some (.inl (ck_one 0))), 245, ([], [], [(245, 0, 0, ck_one 4)]))])
set_option maxRecDepth 100000 in
theorem p5y4_1840_e : ck_ok p1_O none [] [(128, [p5y4_1839])] 127 [] 90 p5y4_1840 = true := by decide +kernel
theorem p5y4_1840_s {X : Int → Int} {LX : Nat} : ck_Ok p1_O X LX 127 p5y4_1840 := ck_ok_s (ck_E1 (ck_S1 p5y4_1839_s ck_S0) ck_E0) ck_X0 ck_l0 p5y4_1840_e
set_option maxRecDepth 100000 in
def p5y4_1844 : ck_Sum := ((0, 0, 0), 245, [.inr (.inr (.inl 1)), .inl (ck_one 243)], ([], [], []), ([], []), [(.inr none, 245, ([], [], []))])
set_option maxRecDepth 100000 in
theorem p5y4_1844_e : ck_ok p1_O none [] [] 129 [] 82 p5y4_1844 = true := by decide +kernel
theorem p5y4_1844_s {X : Int → Int} {LX : Nat} : ck_Ok p1_O X LX 129 p5y4_1844 := ck_ok_s (ck_E0) ck_X0 ck_l0 p5y4_1844_e
set_option maxRecDepth 100000 in
def p5y4_1845 : ck_Sum := ((0, 0, 0), 245, [.inr (.inr (.inl 200)), .inl (ck_one 243)], ([], [], [(201, 243, 243, ck_one 0)]), ([], []), [(.inr (some (.inl (ck_one 0))), 245, ([], [], []))])
set_option maxRecDepth 100000 in
theorem p5y4_1845_e : ck_ok p1_O none [] [] 34 [] 92 p5y4_1845 = true := by decide +kernel
theorem p5y4_1845_s {X : Int → Int} {LX : Nat} : ck_Ok p1_O X LX 34 p5y4_1845 := ck_ok_s (ck_E0) ck_X0 ck_l0 p5y4_1845_e
set_option maxRecDepth 100000 in
def p5y4_1846 : ck_Sum := ((1, 0, 0), 245, [.inr (.inr (.inl 1)), .inl (ck_one 243)], ([], [], [(201, 243, 243, ck_one 0)]), ([], []), [(.inr (some (.inl (ck_one 0))), 245, ([], [], []))])
set_option maxRecDepth 100000 in
theorem p5y4_1846_e : ck_ok p1_O none [] [(129, [p5y4_1844]), (34, [p5y4_1845])] 128 [] 86 p5y4_1846 = true := by decide +kernel
theorem p5y4_1846_s {X : Int → Int} {LX : Nat} : ck_Ok p1_O X LX 128 p5y4_1846 := ck_ok_s (ck_E1 (ck_S1 p5y4_1844_s ck_S0) (ck_E1 (ck_S1 p5y4_1845_s ck_S0) ck_E0)) ck_X0 ck_l0 p5y4_1846_e
set_option maxRecDepth 100000 in
def p5y4_1847 : ck_Sum := ((2, 0, 0), 245, [.inr (.inr (.inl 1)), .inl (ck_one 243), .inr (.inr (.inl 245))], ([], [], [(201, 243, 243, ck_one 0)]), ([(245, 0, 0)], []), [(.inr (some (.inl (ck_one 0))), 245, ([], [], [(245, 0, 0, ck_one 0)]))])
set_option maxRecDepth 100000 in
theorem p5y4_1847_e : ck_ok p1_O none [] [(128, [p5y4_1846])] 127 [] 90 p5y4_1847 = true := by decide +kernel
theorem p5y4_1847_s {X : Int → Int} {LX : Nat} : ck_Ok p1_O X LX 127 p5y4_1847 := ck_ok_s (ck_E1 (ck_S1 p5y4_1846_s ck_S0) ck_E0) ck_X0 ck_l0 p5y4_1847_e
set_option maxRecDepth 100000 in
def p5y4_1851 : ck_Sum := ((0, 0, 0), 245, [.inr (.inr (.inl 1)), .inl (ck_one 244)], ([], [], []), ([], []), [(.inr none, 245, ([], [], []))])
set_option maxRecDepth 100000 in
theorem p5y4_1851_e : ck_ok p1_O none [] [] 129 [] 82 p5y4_1851 = true := by decide +kernel
theorem p5y4_1851_s {X : Int → Int} {LX : Nat} : ck_Ok p1_O X LX 129 p5y4_1851 := ck_ok_s (ck_E0) ck_X0 ck_l0 p5y4_1851_e
set_option maxRecDepth 100000 in
def p5y4_1852 : ck_Sum := ((0, 0, 0), 245, [.inr (.inr (.inl 200)), .inl (ck_one 244)], ([], [], [(201, 244, 244, ck_one 2)]), ([], []), [(.inr (some (.inl (ck_one 2))), 245, ([], [], []))])
set_option maxRecDepth 100000 in
theorem p5y4_1852_e : ck_ok p1_O none [] [] 34 [] 92 p5y4_1852 = true := by decide +kernel
theorem p5y4_1852_s {X : Int → Int} {LX : Nat} : ck_Ok p1_O X LX 34 p5y4_1852 := ck_ok_s (ck_E0) ck_X0 ck_l0 p5y4_1852_e
set_option maxRecDepth 100000 in
def p5y4_1853 : ck_Sum := ((1, 0, 0), 245, [.inr (.inr (.inl 1)), .inl (ck_one 244)], ([], [], [(201, 244, 244, ck_one 2)]), ([], []), [(.inr (some (.inl (ck_one 2))), 245, ([], [], []))])
set_option maxRecDepth 100000 in
theorem p5y4_1853_e : ck_ok p1_O none [] [(129, [p5y4_1851]), (34, [p5y4_1852])] 128 [] 86 p5y4_1853 = true := by decide +kernel
theorem p5y4_1853_s {X : Int → Int} {LX : Nat} : ck_Ok p1_O X LX 128 p5y4_1853 := ck_ok_s (ck_E1 (ck_S1 p5y4_1851_s ck_S0) (ck_E1 (ck_S1 p5y4_1852_s ck_S0) ck_E0)) ck_X0 ck_l0 p5y4_1853_e
set_option maxRecDepth 100000 in
def p5y4_1854 : ck_Sum := ((2, 0, 0), 245, [.inr (.inr (.inl 1)), .inl (ck_one 244), .inr (.inr (.inl 245))], ([], [], [(201, 244, 244, ck_one 2)]), ([(245, 0, 0)], []), [(.inr (some (.inl (ck_one 0))), 245, ([], [], [(245, 0, 0, ck_one 2)]))])
set_option maxRecDepth 100000 in
theorem p5y4_1854_e : ck_ok p1_O none [] [(128, [p5y4_1853])] 127 [] 90 p5y4_1854 = true := by decide +kernel
theorem p5y4_1854_s {X : Int → Int} {LX : Nat} : ck_Ok p1_O X LX 127 p5y4_1854 := ck_ok_s (ck_E1 (ck_S1 p5y4_1853_s ck_S0) ck_E0) ck_X0 ck_l0 p5y4_1854_e
set_option maxRecDepth 100000 in
def p5y4_1858 : ck_Sum := ((0, 0, 0), 245, [.inr (.inr (.inl 1)), .inl (ck_one 245)], ([], [], []), ([], []), [(.inr none, 245, ([], [], []))])
set_option maxRecDepth 100000 in
theorem p5y4_1858_e : ck_ok p1_O none [] [] 129 [] 82 p5y4_1858 = true := by decide +kernel
theorem p5y4_1858_s {X : Int → Int} {LX : Nat} : ck_Ok p1_O X LX 129 p5y4_1858 := ck_ok_s (ck_E0) ck_X0 ck_l0 p5y4_1858_e
set_option maxRecDepth 100000 in
def p5y4_1859 : ck_Sum := ((0, 0, 0), 245, [.inr (.inr (.inl 200)), .inl (ck_one 245)], ([], [], [(201, 245, 245, ck_one 5)]), ([], []), [(.inr (some (.inl (ck_one 5))), 245, ([], [], []))])
set_option maxRecDepth 100000 in
theorem p5y4_1859_e : ck_ok p1_O none [] [] 34 [] 92 p5y4_1859 = true := by decide +kernel
theorem p5y4_1859_s {X : Int → Int} {LX : Nat} : ck_Ok p1_O X LX 34 p5y4_1859 := ck_ok_s (ck_E0) ck_X0 ck_l0 p5y4_1859_e
set_option maxRecDepth 100000 in
def p5y4_1860 : ck_Sum := ((1, 0, 0), 245, [.inr (.inr (.inl 1)), .inl (ck_one 245)], ([], [], [(201, 245, 245, ck_one 5)]), ([], []), [(.inr (some (.inl (ck_one 5))), 245, ([], [], []))])
set_option maxRecDepth 100000 in
theorem p5y4_1860_e : ck_ok p1_O none [] [(129, [p5y4_1858]), (34, [p5y4_1859])] 128 [] 86 p5y4_1860 = true := by decide +kernel
theorem p5y4_1860_s {X : Int → Int} {LX : Nat} : ck_Ok p1_O X LX 128 p5y4_1860 := ck_ok_s (ck_E1 (ck_S1 p5y4_1858_s ck_S0) (ck_E1 (ck_S1 p5y4_1859_s ck_S0) ck_E0)) ck_X0 ck_l0 p5y4_1860_e
set_option maxRecDepth 100000 in
def p5y4_1861 : ck_Sum := ((2, 0, 0), 245, [.inr (.inr (.inl 1)), .inl (ck_one 245), .inr (.inr (.inl 245))], ([], [], [(201, 245, 245, ck_one 5)]), ([(245, 0, 0)], []), [(.inr (some (.inl (ck_one 0))), 245, ([], [], [(245, 0, 0, ck_one 5)]))])
set_option maxRecDepth 100000 in
theorem p5y4_1861_e : ck_ok p1_O none [] [(128, [p5y4_1860])] 127 [] 90 p5y4_1861 = true := by decide +kernel
theorem p5y4_1861_s {X : Int → Int} {LX : Nat} : ck_Ok p1_O X LX 127 p5y4_1861 := ck_ok_s (ck_E1 (ck_S1 p5y4_1860_s ck_S0) ck_E0) ck_X0 ck_l0 p5y4_1861_e
set_option maxRecDepth 100000 in
def p5y4_1865 : ck_Sum := ((0, 0, 0), 245, [.inr (.inr (.inl 1)), .inl (ck_one 246)], ([], [], []), ([], []), [(.inr none, 245, ([], [], []))])
set_option maxRecDepth 100000 in
theorem p5y4_1865_e : ck_ok p1_O none [] [] 129 [] 82 p5y4_1865 = true := by decide +kernel
theorem p5y4_1865_s {X : Int → Int} {LX : Nat} : ck_Ok p1_O X LX 129 p5y4_1865 := ck_ok_s (ck_E0) ck_X0 ck_l0 p5y4_1865_e
set_option maxRecDepth 100000 in
def p5y4_1866 : ck_Sum := ((0, 0, 0), 245, [.inr (.inr (.inl 200)), .inl (ck_one 246)], ([], [], [(201, 246, 246, ck_one 9)]), ([], []), [(.inr (some (.inl (ck_one 9))), 245, ([], [], []))])
set_option maxRecDepth 100000 in
theorem p5y4_1866_e : ck_ok p1_O none [] [] 34 [] 92 p5y4_1866 = true := by decide +kernel
theorem p5y4_1866_s {X : Int → Int} {LX : Nat} : ck_Ok p1_O X LX 34 p5y4_1866 := ck_ok_s (ck_E0) ck_X0 ck_l0 p5y4_1866_e
set_option maxRecDepth 100000 in
def p5y4_1867 : ck_Sum := ((1, 0, 0), 245, [.inr (.inr (.inl 1)), .inl (ck_one 246)], ([], [], [(201, 246, 246, ck_one 9)]), ([], []), [(.inr (some (.inl (ck_one 9))), 245, ([], [], []))])
set_option maxRecDepth 100000 in
theorem p5y4_1867_e : ck_ok p1_O none [] [(129, [p5y4_1865]), (34, [p5y4_1866])] 128 [] 86 p5y4_1867 = true := by decide +kernel
theorem p5y4_1867_s {X : Int → Int} {LX : Nat} : ck_Ok p1_O X LX 128 p5y4_1867 := ck_ok_s (ck_E1 (ck_S1 p5y4_1865_s ck_S0) (ck_E1 (ck_S1 p5y4_1866_s ck_S0) ck_E0)) ck_X0 ck_l0 p5y4_1867_e
set_option maxRecDepth 100000 in
def p5y4_1868 : ck_Sum := ((2, 0, 0), 245, [.inr (.inr (.inl 1)), .inl (ck_one 246), .inr (.inr (.inl 245))], ([], [], [(201, 246, 246, ck_one 9)]), ([(245, 0, 0)], []), [(.inr (some (.inl (ck_one 0))), 245, ([], [], [(245, 0, 0, ck_one 9)]))])
set_option maxRecDepth 100000 in
theorem p5y4_1868_e : ck_ok p1_O none [] [(128, [p5y4_1867])] 127 [] 90 p5y4_1868 = true := by decide +kernel
theorem p5y4_1868_s {X : Int → Int} {LX : Nat} : ck_Ok p1_O X LX 127 p5y4_1868 := ck_ok_s (ck_E1 (ck_S1 p5y4_1867_s ck_S0) ck_E0) ck_X0 ck_l0 p5y4_1868_e
set_option maxRecDepth 100000 in
def p5y4_1872 : ck_Sum := ((0, 0, 0), 245, [.inr (.inr (.inl 1)), .inl (ck_one 247)], ([], [], []), ([], []), [(.inr none, 245, ([], [], []))])
set_option maxRecDepth 100000 in
theorem p5y4_1872_e : ck_ok p1_O none [] [] 129 [] 82 p5y4_1872 = true := by decide +kernel
theorem p5y4_1872_s {X : Int → Int} {LX : Nat} : ck_Ok p1_O X LX 129 p5y4_1872 := ck_ok_s (ck_E0) ck_X0 ck_l0 p5y4_1872_e
set_option maxRecDepth 100000 in
def p5y4_1873 : ck_Sum := ((0, 0, 0), 245, [.inr (.inr (.inl 200)), .inl (ck_one 247)], ([], [], [(201, 247, 247, ck_one 2)]), ([], []), [(.inr (some (.inl (ck_one 2))), 245, ([], [], []))])
set_option maxRecDepth 100000 in
theorem p5y4_1873_e : ck_ok p1_O none [] [] 34 [] 92 p5y4_1873 = true := by decide +kernel
theorem p5y4_1873_s {X : Int → Int} {LX : Nat} : ck_Ok p1_O X LX 34 p5y4_1873 := ck_ok_s (ck_E0) ck_X0 ck_l0 p5y4_1873_e
set_option maxRecDepth 100000 in
def p5y4_1874 : ck_Sum := ((1, 0, 0), 245, [.inr (.inr (.inl 1)), .inl (ck_one 247)], ([], [], [(201, 247, 247, ck_one 2)]), ([], []), [(.inr (some (.inl (ck_one 2))), 245, ([], [], []))])
set_option maxRecDepth 100000 in
theorem p5y4_1874_e : ck_ok p1_O none [] [(129, [p5y4_1872]), (34, [p5y4_1873])] 128 [] 86 p5y4_1874 = true := by decide +kernel
theorem p5y4_1874_s {X : Int → Int} {LX : Nat} : ck_Ok p1_O X LX 128 p5y4_1874 := ck_ok_s (ck_E1 (ck_S1 p5y4_1872_s ck_S0) (ck_E1 (ck_S1 p5y4_1873_s ck_S0) ck_E0)) ck_X0 ck_l0 p5y4_1874_e
set_option maxRecDepth 100000 in
def p5y4_1875 : ck_Sum := ((2, 0, 0), 245, [.inr (.inr (.inl 1)), .inl (ck_one 247), .inr (.inr (.inl 245))], ([], [], [(201, 247, 247, ck_one 2)]), ([(245, 0, 0)], []), [(.inr (some (.inl (ck_one 0))), 245, ([], [], [(245, 0, 0, ck_one 2)]))])
set_option maxRecDepth 100000 in
theorem p5y4_1875_e : ck_ok p1_O none [] [(128, [p5y4_1874])] 127 [] 90 p5y4_1875 = true := by decide +kernel
theorem p5y4_1875_s {X : Int → Int} {LX : Nat} : ck_Ok p1_O X LX 127 p5y4_1875 := ck_ok_s (ck_E1 (ck_S1 p5y4_1874_s ck_S0) ck_E0) ck_X0 ck_l0 p5y4_1875_e
set_option maxRecDepth 100000 in
def p5y4_1879 : ck_Sum := ((0, 0, 0), 245, [.inr (.inr (.inl 1)), .inl (ck_one 248)], ([], [], []), ([], []), [(.inr none, 245, ([], [], []))])
set_option maxRecDepth 100000 in
theorem p5y4_1879_e : ck_ok p1_O none [] [] 129 [] 82 p5y4_1879 = true := by decide +kernel
theorem p5y4_1879_s {X : Int → Int} {LX : Nat} : ck_Ok p1_O X LX 129 p5y4_1879 := ck_ok_s (ck_E0) ck_X0 ck_l0 p5y4_1879_e
set_option maxRecDepth 100000 in
def p5y4_1880 : ck_Sum := ((0, 0, 0), 245, [.inr (.inr (.inl 200)), .inl (ck_one 248)], ([], [], [(201, 248, 248, ck_one 0)]), ([], []), [(.inr (some (.inl (ck_one 0))), 245, ([], [], []))])
set_option maxRecDepth 100000 in
theorem p5y4_1880_e : ck_ok p1_O none [] [] 34 [] 92 p5y4_1880 = true := by decide +kernel
theorem p5y4_1880_s {X : Int → Int} {LX : Nat} : ck_Ok p1_O X LX 34 p5y4_1880 := ck_ok_s (ck_E0) ck_X0 ck_l0 p5y4_1880_e
set_option maxRecDepth 100000 in
def p5y4_1881 : ck_Sum := ((1, 0, 0), 245, [.inr (.inr (.inl 1)), .inl (ck_one 248)], ([], [], [(201, 248, 248, ck_one 0)]), ([], []), [(.inr (some (.inl (ck_one 0))), 245, ([], [], []))])
set_option maxRecDepth 100000 in
theorem p5y4_1881_e : ck_ok p1_O none [] [(129, [p5y4_1879]), (34, [p5y4_1880])] 128 [] 86 p5y4_1881 = true := by decide +kernel
theorem p5y4_1881_s {X : Int → Int} {LX : Nat} : ck_Ok p1_O X LX 128 p5y4_1881 := ck_ok_s (ck_E1 (ck_S1 p5y4_1879_s ck_S0) (ck_E1 (ck_S1 p5y4_1880_s ck_S0) ck_E0)) ck_X0 ck_l0 p5y4_1881_e
set_option maxRecDepth 100000 in
def p5y4_1882 : ck_Sum := ((2, 0, 0), 245, [.inr (.inr (.inl 1)), .inl (ck_one 248), .inr (.inr (.inl 245))], ([], [], [(201, 248, 248, ck_one 0)]), ([(245, 0, 0)], []), [(.inr (some (.inl (ck_one 0))), 245, ([], [], [(245, 0, 0, ck_one 0)]))])
set_option maxRecDepth 100000 in
theorem p5y4_1882_e : ck_ok p1_O none [] [(128, [p5y4_1881])] 127 [] 90 p5y4_1882 = true := by decide +kernel
theorem p5y4_1882_s {X : Int → Int} {LX : Nat} : ck_Ok p1_O X LX 127 p5y4_1882 := ck_ok_s (ck_E1 (ck_S1 p5y4_1881_s ck_S0) ck_E0) ck_X0 ck_l0 p5y4_1882_e
set_option maxRecDepth 100000 in
def p5y4_1886 : ck_Sum := ((0, 0, 0), 245, [.inr (.inr (.inl 1)), .inl (ck_one 249)], ([], [], []), ([], []), [(.inr none, 245, ([], [], []))])
set_option maxRecDepth 100000 in
theorem p5y4_1886_e : ck_ok p1_O none [] [] 129 [] 82 p5y4_1886 = true := by decide +kernel
theorem p5y4_1886_s {X : Int → Int} {LX : Nat} : ck_Ok p1_O X LX 129 p5y4_1886 := ck_ok_s (ck_E0) ck_X0 ck_l0 p5y4_1886_e
set_option maxRecDepth 100000 in
def p5y4_1887 : ck_Sum := ((0, 0, 0), 245, [.inr (.inr (.inl 200)), .inl (ck_one 249)], ([], [], [(201, 249, 249, ck_one 0)]), ([], []), [(.inr (some (.inl (ck_one 0))), 245, ([], [], []))])
set_option maxRecDepth 100000 in
theorem p5y4_1887_e : ck_ok p1_O none [] [] 34 [] 92 p5y4_1887 = true := by decide +kernel
theorem p5y4_1887_s {X : Int → Int} {LX : Nat} : ck_Ok p1_O X LX 34 p5y4_1887 := ck_ok_s (ck_E0) ck_X0 ck_l0 p5y4_1887_e
set_option maxRecDepth 100000 in
def p5y4_1888 : ck_Sum := ((1, 0, 0), 245, [.inr (.inr (.inl 1)), .inl (ck_one 249)], ([], [], [(201, 249, 249, ck_one 0)]), ([], []), [(.inr (some (.inl (ck_one 0))), 245, ([], [], []))])
set_option maxRecDepth 100000 in
theorem p5y4_1888_e : ck_ok p1_O none [] [(129, [p5y4_1886]), (34, [p5y4_1887])] 128 [] 86 p5y4_1888 = true := by decide +kernel
theorem p5y4_1888_s {X : Int → Int} {LX : Nat} : ck_Ok p1_O X LX 128 p5y4_1888 := ck_ok_s (ck_E1 (ck_S1 p5y4_1886_s ck_S0) (ck_E1 (ck_S1 p5y4_1887_s ck_S0) ck_E0)) ck_X0 ck_l0 p5y4_1888_e
set_option maxRecDepth 100000 in
def p5y4_1889 : ck_Sum := ((2, 0, 0), 245, [.inr (.inr (.inl 1)), .inl (ck_one 249), .inr (.inr (.inl 245))], ([], [], [(201, 249, 249, ck_one 0)]), ([(245, 0, 0)], []), [(.inr (some (.inl (ck_one 0))), 245, ([], [], [(245, 0, 0, ck_one 0)]))])
set_option maxRecDepth 100000 in
theorem p5y4_1889_e : ck_ok p1_O none [] [(128, [p5y4_1888])] 127 [] 90 p5y4_1889 = true := by decide +kernel
theorem p5y4_1889_s {X : Int → Int} {LX : Nat} : ck_Ok p1_O X LX 127 p5y4_1889 := ck_ok_s (ck_E1 (ck_S1 p5y4_1888_s ck_S0) ck_E0) ck_X0 ck_l0 p5y4_1889_e
set_option maxRecDepth 100000 in
def p5y4_1893 : ck_Sum := ((0, 0, 0), 245, [.inr (.inr (.inl 1)), .inl (ck_one 250)], ([], [], []), ([], []), [(.inr none, 245, ([], [], []))])
set_option maxRecDepth 100000 in
theorem p5y4_1893_e : ck_ok p1_O none [] [] 129 [] 82 p5y4_1893 = true := by decide +kernel
theorem p5y4_1893_s {X : Int → Int} {LX : Nat} : ck_Ok p1_O X LX 129 p5y4_1893 := ck_ok_s (ck_E0) ck_X0 ck_l0 p5y4_1893_e
set_option maxRecDepth 100000 in
def p5y4_1894 : ck_Sum := ((0, 0, 0), 245, [.inr (.inr (.inl 200)), .inl (ck_one 250)], ([], [], [(201, 250, 250, ck_one 5)]), ([], []), [(.inr (some (.inl (ck_one 5))), 245, ([], [], []))])
set_option maxRecDepth 100000 in
theorem p5y4_1894_e : ck_ok p1_O none [] [] 34 [] 92 p5y4_1894 = true := by decide +kernel
theorem p5y4_1894_s {X : Int → Int} {LX : Nat} : ck_Ok p1_O X LX 34 p5y4_1894 := ck_ok_s (ck_E0) ck_X0 ck_l0 p5y4_1894_e
set_option maxRecDepth 100000 in
def p5y4_1895 : ck_Sum := ((1, 0, 0), 245, [.inr (.inr (.inl 1)), .inl (ck_one 250)], ([], [], [(201, 250, 250, ck_one 5)]), ([], []), [(.inr (some (.inl (ck_one 5))), 245, ([], [], []))])
set_option maxRecDepth 100000 in
theorem p5y4_1895_e : ck_ok p1_O none [] [(129, [p5y4_1893]), (34, [p5y4_1894])] 128 [] 86 p5y4_1895 = true := by decide +kernel
theorem p5y4_1895_s {X : Int → Int} {LX : Nat} : ck_Ok p1_O X LX 128 p5y4_1895 := ck_ok_s (ck_E1 (ck_S1 p5y4_1893_s ck_S0) (ck_E1 (ck_S1 p5y4_1894_s ck_S0) ck_E0)) ck_X0 ck_l0 p5y4_1895_e
set_option maxRecDepth 100000 in
def p5y4_1896 : ck_Sum := ((2, 0, 0), 245, [.inr (.inr (.inl 1)), .inl (ck_one 250), .inr (.inr (.inl 245))], ([], [], [(201, 250, 250, ck_one 5)]), ([(245, 0, 0)], []), [(.inr (some (.inl (ck_one 0))), 245, ([], [], [(245, 0, 0, ck_one 5)]))])
set_option maxRecDepth 100000 in
theorem p5y4_1896_e : ck_ok p1_O none [] [(128, [p5y4_1895])] 127 [] 90 p5y4_1896 = true := by decide +kernel
theorem p5y4_1896_s {X : Int → Int} {LX : Nat} : ck_Ok p1_O X LX 127 p5y4_1896 := ck_ok_s (ck_E1 (ck_S1 p5y4_1895_s ck_S0) ck_E0) ck_X0 ck_l0 p5y4_1896_e
set_option maxRecDepth 100000 in
def p5y4_1900 : ck_Sum := ((0, 0, 0), 245, [.inr (.inr (.inl 1)), .inl (ck_one 251)], ([], [], []), ([], []), [(.inr none, 245, ([], [], []))])
set_option maxRecDepth 100000 in
theorem p5y4_1900_e : ck_ok p1_O none [] [] 129 [] 82 p5y4_1900 = true := by decide +kernel
theorem p5y4_1900_s {X : Int → Int} {LX : Nat} : ck_Ok p1_O X LX 129 p5y4_1900 := ck_ok_s (ck_E0) ck_X0 ck_l0 p5y4_1900_e
set_option maxRecDepth 100000 in
def p5y4_1901 : ck_Sum := ((0, 0, 0), 245, [.inr (.inr (.inl 200)), .inl (ck_one 251)], ([], [], [(201, 251, 251, ck_one 8)]), ([], []), [(.inr (some (.inl (ck_one 8))), 245, ([], [], []))])
set_option maxRecDepth 100000 in
theorem p5y4_1901_e : ck_ok p1_O none [] [] 34 [] 92 p5y4_1901 = true := by decide +kernel
theorem p5y4_1901_s {X : Int → Int} {LX : Nat} : ck_Ok p1_O X LX 34 p5y4_1901 := ck_ok_s (ck_E0) ck_X0 ck_l0 p5y4_1901_e
set_option maxRecDepth 100000 in
def p5y4_1902 : ck_Sum := ((1, 0, 0), 245, [.inr (.inr (.inl 1)), .inl (ck_one 251)], ([], [], [(201, 251, 251, ck_one 8)]), ([], []), [(.inr (some (.inl (ck_one 8))), 245, ([], [], []))])
set_option maxRecDepth 100000 in
theorem p5y4_1902_e : ck_ok p1_O none [] [(129, [p5y4_1900]), (34, [p5y4_1901])] 128 [] 86 p5y4_1902 = true := by decide +kernel
theorem p5y4_1902_s {X : Int → Int} {LX : Nat} : ck_Ok p1_O X LX 128 p5y4_1902 := ck_ok_s (ck_E1 (ck_S1 p5y4_1900_s ck_S0) (ck_E1 (ck_S1 p5y4_1901_s ck_S0) ck_E0)) ck_X0 ck_l0 p5y4_1902_e
set_option maxRecDepth 100000 in
def p5y4_1903 : ck_Sum := ((2, 0, 0), 245, [.inr (.inr (.inl 1)), .inl (ck_one 251), .inr (.inr (.inl 245))], ([], [], [(201, 251, 251, ck_one 8)]), ([(245, 0, 0)], []), [(.inr (some (.inl (ck_one 0))), 245, ([], [], [(245, 0, 0, ck_one 8)]))])
set_option maxRecDepth 100000 in
theorem p5y4_1903_e : ck_ok p1_O none [] [(128, [p5y4_1902])] 127 [] 90 p5y4_1903 = true := by decide +kernel
theorem p5y4_1903_s {X : Int → Int} {LX : Nat} : ck_Ok p1_O X LX 127 p5y4_1903 := ck_ok_s (ck_E1 (ck_S1 p5y4_1902_s ck_S0) ck_E0) ck_X0 ck_l0 p5y4_1903_e
set_option maxRecDepth 100000 in
def p5y4_1907 : ck_Sum := ((0, 0, 0), 245, [.inr (.inr (.inl 1)), .inl (ck_one 252)], ([], [], []), ([], []), [(.inr none, 245, ([], [], []))])
set_option maxRecDepth 100000 in
theorem p5y4_1907_e : ck_ok p1_O none [] [] 129 [] 82 p5y4_1907 = true := by decide +kernel
theorem p5y4_1907_s {X : Int → Int} {LX : Nat} : ck_Ok p1_O X LX 129 p5y4_1907 := ck_ok_s (ck_E0) ck_X0 ck_l0 p5y4_1907_e
set_option maxRecDepth 100000 in
def p5y4_1908 : ck_Sum := ((0, 0, 0), 245, [.inr (.inr (.inl 200)), .inl (ck_one 252)], ([], [], [(201, 252, 252, ck_one 1)]), ([], []), [(.inr (some (.inl (ck_one 1))), 245, ([], [], []))])
set_option maxRecDepth 100000 in
theorem p5y4_1908_e : ck_ok p1_O none [] [] 34 [] 92 p5y4_1908 = true := by decide +kernel
theorem p5y4_1908_s {X : Int → Int} {LX : Nat} : ck_Ok p1_O X LX 34 p5y4_1908 := ck_ok_s (ck_E0) ck_X0 ck_l0 p5y4_1908_e
set_option maxRecDepth 100000 in
def p5y4_1909 : ck_Sum := ((1, 0, 0), 245, [.inr (.inr (.inl 1)), .inl (ck_one 252)], ([], [], [(201, 252, 252, ck_one 1)]), ([], []), [(.inr (some (.inl (ck_one 1))), 245, ([], [], []))])
set_option maxRecDepth 100000 in
theorem p5y4_1909_e : ck_ok p1_O none [] [(129, [p5y4_1907]), (34, [p5y4_1908])] 128 [] 86 p5y4_1909 = true := by decide +kernel
theorem p5y4_1909_s {X : Int → Int} {LX : Nat} : ck_Ok p1_O X LX 128 p5y4_1909 := ck_ok_s (ck_E1 (ck_S1 p5y4_1907_s ck_S0) (ck_E1 (ck_S1 p5y4_1908_s ck_S0) ck_E0)) ck_X0 ck_l0 p5y4_1909_e
set_option maxRecDepth 100000 in
def p5y4_1910 : ck_Sum := ((2, 0, 0), 245, [.inr (.inr (.inl 1)), .inl (ck_one 252), .inr (.inr (.inl 245))], ([], [], [(201, 252, 252, ck_one 1)]), ([(245, 0, 0)], []), [(.inr (some (.inl (ck_one 0))), 245, ([], [], [(245, 0, 0, ck_one 1)]))])
set_option maxRecDepth 100000 in
theorem p5y4_1910_e : ck_ok p1_O none [] [(128, [p5y4_1909])] 127 [] 90 p5y4_1910 = true := by decide +kernel
theorem p5y4_1910_s {X : Int → Int} {LX : Nat} : ck_Ok p1_O X LX 127 p5y4_1910 := ck_ok_s (ck_E1 (ck_S1 p5y4_1909_s ck_S0) ck_E0) ck_X0 ck_l0 p5y4_1910_e
set_option maxRecDepth 100000 in
def p5y4_1914 : ck_Sum := ((0, 0, 0), 245, [.inr (.inr (.inl 1)), .inl (ck_one 253)], ([], [], []), ([], []), [(.inr none, 245, ([], [], []))])
set_option maxRecDepth 100000 in
theorem p5y4_1914_e : ck_ok p1_O none [] [] 129 [] 82 p5y4_1914 = true := by decide +kernel
theorem p5y4_1914_s {X : Int → Int} {LX : Nat} : ck_Ok p1_O X LX 129 p5y4_1914 := ck_ok_s (ck_E0) ck_X0 ck_l0 p5y4_1914_e
set_option maxRecDepth 100000 in
def p5y4_1915 : ck_Sum := ((0, 0, 0), 245, [.inr (.inr (.inl 200)), .inl (ck_one 253)], ([], [], [(201, 253, 253, ck_one 9)]), ([], []), [(.inr (some (.inl (ck_one 9))), 245, ([], [], []))])
set_option maxRecDepth 100000 in
theorem p5y4_1915_e : ck_ok p1_O none [] [] 34 [] 92 p5y4_1915 = true := by decide +kernel
theorem p5y4_1915_s {X : Int → Int} {LX : Nat} : ck_Ok p1_O X LX 34 p5y4_1915 := ck_ok_s (ck_E0) ck_X0 ck_l0 p5y4_1915_e
set_option maxRecDepth 100000 in
def p5y4_1916 : ck_Sum := ((1, 0, 0), 245, [.inr (.inr (.inl 1)), .inl (ck_one 253)], ([], [], [(201, 253, 253, ck_one 9)]), ([], []), [(.inr (some (.inl (ck_one 9))), 245, ([], [], []))])
set_option maxRecDepth 100000 in
theorem p5y4_1916_e : ck_ok p1_O none [] [(129, [p5y4_1914]), (34, [p5y4_1915])] 128 [] 86 p5y4_1916 = true := by decide +kernel
theorem p5y4_1916_s {X : Int → Int} {LX : Nat} : ck_Ok p1_O X LX 128 p5y4_1916 := ck_ok_s (ck_E1 (ck_S1 p5y4_1914_s ck_S0) (ck_E1 (ck_S1 p5y4_1915_s ck_S0) ck_E0)) ck_X0 ck_l0 p5y4_1916_e
set_option maxRecDepth 100000 in
def p5y4_1917 : ck_Sum := ((2, 0, 0), 245, [.inr (.inr (.inl 1)), .inl (ck_one 253), .inr (.inr (.inl 245))], ([], [], [(201, 253, 253, ck_one 9)]), ([(245, 0, 0)], []), [(.inr (some (.inl (ck_one 0))), 245, ([], [], [(245, 0, 0, ck_one 9)]))])
set_option maxRecDepth 100000 in
theorem p5y4_1917_e : ck_ok p1_O none [] [(128, [p5y4_1916])] 127 [] 90 p5y4_1917 = true := by decide +kernel
theorem p5y4_1917_s {X : Int → Int} {LX : Nat} : ck_Ok p1_O X LX 127 p5y4_1917 := ck_ok_s (ck_E1 (ck_S1 p5y4_1916_s ck_S0) ck_E0) ck_X0 ck_l0 p5y4_1917_e
set_option maxRecDepth 100000 in
def p5y4_1568 : ck_Sum := ((0, 0, 0), 245, [.inl (ck_one 203), .inl (ck_one 0), .inl (ck_one 299)], ([], [], []), ([], []), [(.inr (some (.inl (ck_one 1))), 245, ([], [], []))])
set_option maxRecDepth 100000 in
theorem p5y4_1568_e : ck_ok p1_O none [] [] 287 [] 88 p5y4_1568 = true := by decide +kernel
theorem p5y4_1568_s {X : Int → Int} {LX : Nat} : ck_Ok p1_O X LX 287 p5y4_1568 := ck_ok_s (ck_E0) ck_X0 ck_l0 p5y4_1568_e
set_option maxRecDepth 100000 in
def p5y4_1569 : ck_Sum := ((1, 0, 0), 245, [.inl (ck_one 203)], ([], [], []), ([], []), [(.inr (some (.inl (ck_one 0))), 245, ([], [], []))])
set_option maxRecDepth 100000 in
theorem p5y4_1569_e : ck_ok p1_O none [] [(287, [p5y4_1568])] 286 [] 84 p5y4_1569 = true := by decide +kernel
theorem p5y4_1569_s {X : Int → Int} {LX : Nat} : ck_Ok p1_O X LX 286 p5y4_1569 := ck_ok_s (ck_E1 (ck_S1 p5y4_1568_s ck_S0) ck_E0) ck_X0 ck_l0 p5y4_1569_e
set_option maxRecDepth 100000 in
def p5y4_147 : ck_Sum := ((0, 0, 0), 245, [.inr (.inr (.inl 226)), .inl (ck_one 0), .inl (ck_one 1)], ([], [], []), ([], []), [(.inr (some (.inl (ck_one 0))), 245, ([], [], []))])
set_option maxRecDepth 100000 in
theorem p5y4_147_e : ck_ok p1_O none [] [] 283 [] 78 p5y4_147 = true := by decide +kernel
theorem p5y4_147_s {X : Int → Int} {LX : Nat} : ck_Ok p1_O X LX 283 p5y4_147 := ck_ok_s (ck_E0) ck_X0 ck_l0 p5y4_147_e
set_option maxRecDepth 100000 in
def p5y4_1570 : ck_Sum := ((2, 0, 0), 245, [.inr (.inr (.inl 226)), .inl (ck_one 203)], ([], [], [(234, 203, 203, ck_one 9)]), ([(226, 0, 0)], []), [(.inr (some (.inl (ck_one 9))), 245, ([], [], [(226, 0, 0, ck_one 0)]))])
set_option maxRecDepth 100000 in
theorem p5y4_1570_e : ck_ok p1_O none [] [(286, [p5y4_1569]), (283, [p5y4_147])] 285 [] 98 p5y4_1570 = true := by decide +kernel
theorem p5y4_1570_s {X : Int → Int} {LX : Nat} : ck_Ok p1_O X LX 285 p5y4_1570 := ck_ok_s (ck_E1 (ck_S1 p5y4_1569_s ck_S0) (ck_E1 (ck_S1 p5y4_147_s ck_S0) ck_E0)) ck_X0 ck_l0 p5y4_1570_e
set_option maxRecDepth 100000 in
def p5y4_1575 : ck_Sum := ((0, 0, 0), 245, [.inl (ck_one 204), .inl (ck_one 0), .inl (ck_one 299)], ([], [], []), ([], []), [(.inr (some (.inl (ck_one 1))), 245, ([], [], []))])
set_option maxRecDepth 100000 in
theorem p5y4_1575_e : ck_ok p1_O none [] [] 287 [] 88 p5y4_1575 = true := by decide +kernel
theorem p5y4_1575_s {X : Int → Int} {LX : Nat} : ck_Ok p1_O X LX 287 p5y4_1575 := ck_ok_s (ck_E0) ck_X0 ck_l0 p5y4_1575_e
set_option maxRecDepth 100000 in
def p5y4_1576 : ck_Sum := ((1, 0, 0), 245, [.inl (ck_one 204)], ([], [], []), ([], []), [(.inr (some (.inl (ck_one 0))), 245, ([], [], []))])
set_option maxRecDepth 100000 in
theorem p5y4_1576_e : ck_ok p1_O none [] [(287, [p5y4_1575])] 286 [] 84 p5y4_1576 = true := by decide +kernel
theorem p5y4_1576_s {X : Int → Int} {LX : Nat} : ck_Ok p1_O X LX 286 p5y4_1576 := ck_ok_s (ck_E1 (ck_S1 p5y4_1575_s ck_S0) ck_E0) ck_X0 ck_l0 p5y4_1576_e
set_option maxRecDepth 100000 in
def p5y4_1577 : ck_Sum := ((2, 0, 0), 245, [.inr (.inr (.inl 226)), .inl (ck_one 204)], ([], [], [(234, 204, 204, ck_one 9)]), ([(226, 0, 0)], []), [(.inr (some (.inl (ck_one 9))), 245, ([], [], [(226, 0, 0, ck_one 0)]))])
set_option maxRecDepth 100000 in
theorem p5y4_1577_e : ck_ok p1_O none [] [(286, [p5y4_1576]), (283, [p5y4_147])] 285 [] 98 p5y4_1577 = true := by decide +kernel
theorem p5y4_1577_s {X : Int → Int} {LX : Nat} : ck_Ok p1_O X LX 285 p5y4_1577 := ck_ok_s (ck_E1 (ck_S1 p5y4_1576_s ck_S0) (ck_E1 (ck_S1 p5y4_147_s ck_S0) ck_E0)) ck_X0 ck_l0 p5y4_1577_e
set_option maxRecDepth 100000 in
def p5y4_1582 : ck_Sum := ((0, 0, 0), 245, [.inl (ck_one 205), .inl (ck_one 0), .inl (ck_one 299)], ([], [], []), ([], []), [(.inr (some (.inl (ck_one 1))), 245, ([], [], []))])
set_option maxRecDepth 100000 in
theorem p5y4_1582_e : ck_ok p1_O none [] [] 287 [] 88 p5y4_1582 = true := by decide +kernel
theorem p5y4_1582_s {X : Int → Int} {LX : Nat} : ck_Ok p1_O X LX 287 p5y4_1582 := ck_ok_s (ck_E0) ck_X0 ck_l0 p5y4_1582_e
set_option maxRecDepth 100000 in
def p5y4_1583 : ck_Sum := ((1, 0, 0), 245, [.inl (ck_one 205)], ([], [], []), ([], []), [(.inr (some (.inl (ck_one 0))), 245, ([], [], []))])
set_option maxRecDepth 100000 in
theorem p5y4_1583_e : ck_ok p1_O none [] [(287, [p5y4_1582])] 286 [] 84 p5y4_1583 = true := by decide +kernel
theorem p5y4_1583_s {X : Int → Int} {LX : Nat} : ck_Ok p1_O X LX 286 p5y4_1583 := ck_ok_s (ck_E1 (ck_S1 p5y4_1582_s ck_S0) ck_E0) ck_X0 ck_l0 p5y4_1583_e
set_option maxRecDepth 100000 in
def p5y4_1584 : ck_Sum := ((2, 0, 0), 245, [.inr (.inr (.inl 226)), .inl (ck_one 205)], ([], [], [(234, 205, 205, ck_one 0)]), ([(226, 0, 0)], []), [(.inr (some (.inl (ck_one 0))), 245, ([], [], [(226, 0, 0, ck_one 0)]))])
set_option maxRecDepth 100000 in
theorem p5y4_1584_e : ck_ok p1_O none [] [(286, [p5y4_1583]), (283, [p5y4_147])] 285 [] 98 p5y4_1584 = true := by decide +kernel
theorem p5y4_1584_s {X : Int → Int} {LX : Nat} : ck_Ok p1_O X LX 285 p5y4_1584 := ck_ok_s (ck_E1 (ck_S1 p5y4_1583_s ck_S0) (ck_E1 (ck_S1 p5y4_147_s ck_S0) ck_E0)) ck_X0 ck_l0 p5y4_1584_e
set_option maxRecDepth 100000 in
def p5y4_1589 : ck_Sum := ((0, 0, 0), 245, [.inl (ck_one 206), .inl (ck_one 0), .inl (ck_one 299)], ([], [], []), ([], []), [(.inr (some (.inl (ck_one 1))), 245, ([], [], []))])
set_option maxRecDepth 100000 in
theorem p5y4_1589_e : ck_ok p1_O none [] [] 287 [] 88 p5y4_1589 = true := by decide +kernel
theorem p5y4_1589_s {X : Int → Int} {LX : Nat} : ck_Ok p1_O X LX 287 p5y4_1589 := ck_ok_s (ck_E0) ck_X0 ck_l0 p5y4_1589_e
set_option maxRecDepth 100000 in
def p5y4_1590 : ck_Sum := ((1, 0, 0), 245, [.inl (ck_one 206)], ([], [], []), ([], []), [(.inr (some (.inl (ck_one 0))), 245, ([], [], []))])
set_option maxRecDepth 100000 in
theorem p5y4_1590_e : ck_ok p1_O none [] [(287, [p5y4_1589])] 286 [] 84 p5y4_1590 = true := by decide +kernel
theorem p5y4_1590_s {X : Int → Int} {LX : Nat} : ck_Ok p1_O X LX 286 p5y4_1590 := ck_ok_s (ck_E1 (ck_S1 p5y4_1589_s ck_S0) ck_E0) ck_X0 ck_l0 p5y4_1590_e
set_option maxRecDepth 100000 in
def p5y4_1591 : ck_Sum := ((2, 0, 0), 245, [.inr (.inr (.inl 226)), .inl (ck_one 206)], ([], [], [(234, 206, 206, ck_one 7)]), ([(226, 0, 0)], []), [(.inr (some (.inl (ck_one 7))), 245, ([], [], [(226, 0, 0, ck_one 0)]))])
set_option maxRecDepth 100000 in
theorem p5y4_1591_e : ck_ok p1_O none [] [(286, [p5y4_1590]), (283, [p5y4_147])] 285 [] 98 p5y4_1591 = true := by decide +kernel
theorem p5y4_1591_s {X : Int → Int} {LX : Nat} : ck_Ok p1_O X LX 285 p5y4_1591 := ck_ok_s (ck_E1 (ck_S1 p5y4_1590_s ck_S0) (ck_E1 (ck_S1 p5y4_147_s ck_S0) ck_E0)) ck_X0 ck_l0 p5y4_1591_e
set_option maxRecDepth 100000 in
def p5y4_1596 : ck_Sum := ((0, 0, 0), 245, [.inl (ck_one 207), .inl (ck_one 0), .inl (ck_one 299)], ([], [], []), ([], []), [(.inr (some (.inl (ck_one 1))), 245, ([], [], []))])
set_option maxRecDepth 100000 in
theorem p5y4_1596_e : ck_ok p1_O none [] [] 287 [] 88 p5y4_1596 = true := by decide +kernel
theorem p5y4_1596_s {X : Int → Int} {LX : Nat} : ck_Ok p1_O X LX 287 p5y4_1596 := ck_ok_s (ck_E0) ck_X0 ck_l0 p5y4_1596_e
set_option maxRecDepth 100000 in
def p5y4_1597 : ck_Sum := ((1, 0, 0), 245, [.inl (ck_one 207)], ([], [], []), ([], []), [(.inr (some (.inl (ck_one 0))), 245, ([], [], []))])
set_option maxRecDepth 100000 in
theorem p5y4_1597_e : ck_ok p1_O none [] [(287, [p5y4_1596])] 286 [] 84 p5y4_1597 = true := by decide +kernel
theorem p5y4_1597_s {X : Int → Int} {LX : Nat} : ck_Ok p1_O X LX 286 p5y4_1597 := ck_ok_s (ck_E1 (ck_S1 p5y4_1596_s ck_S0) ck_E0) ck_X0 ck_l0 p5y4_1597_e
set_option maxRecDepth 100000 in
def p5y4_1598 : ck_Sum := ((2, 0, 0), 245, [.inr (.inr (.inl 226)), .inl (ck_one 207)], ([], [], [(234, 207, 207, ck_one 8)]), ([(226, 0, 0)], []), [(.inr (some (.inl (ck_one 8))), 245, ([], [], [(226, 0, 0, ck_one 0)]))])
set_option maxRecDepth 100000 in
theorem p5y4_1598_e : ck_ok p1_O none [] [(286, [p5y4_1597]), (283, [p5y4_147])] 285 [] 98 p5y4_1598 = true := by decide +kernel
theorem p5y4_1598_s {X : Int → Int} {LX : Nat} : ck_Ok p1_O X LX 285 p5y4_1598 := ck_ok_s (ck_E1 (ck_S1 p5y4_1597_s ck_S0) (ck_E1 (ck_S1 p5y4_147_s ck_S0) ck_E0)) ck_X0 ck_l0 p5y4_1598_e
set_option maxRecDepth 100000 in
def p5y4_1603 : ck_Sum := ((0, 0, 0), 245, [.inl (ck_one 208), .inl (ck_one 0), .inl (ck_one 299)], ([], [], []), ([], []), [(.inr (some (.inl (ck_one 1))), 245, ([], [], []))])
set_option maxRecDepth 100000 in
theorem p5y4_1603_e : ck_ok p1_O none [] [] 287 [] 88 p5y4_1603 = true := by decide +kernel
theorem p5y4_1603_s {X : Int → Int} {LX : Nat} : ck_Ok p1_O X LX 287 p5y4_1603 := ck_ok_s (ck_E0) ck_X0 ck_l0 p5y4_1603_e
set_option maxRecDepth 100000 in
def p5y4_1604 : ck_Sum := ((1, 0, 0), 245, [.inl (ck_one 208)], ([], [], []), ([], []), [(.inr (some (.inl (ck_one 0))), 245, ([], [], []))])
set_option maxRecDepth 100000 in
theorem p5y4_1604_e : ck_ok p1_O none [] [(287, [p5y4_1603])] 286 [] 84 p5y4_1604 = true := by decide +kernel
theorem p5y4_1604_s {X : Int → Int} {LX : Nat} : ck_Ok p1_O X LX 286 p5y4_1604 := ck_ok_s (ck_E1 (ck_S1 p5y4_1603_s ck_S0) ck_E0) ck_X0 ck_l0 p5y4_1604_e
set_option maxRecDepth 100000 in
def p5y4_1605 : ck_Sum := ((2, 0, 0), 245, [.inr (.inr (.inl 226)), .inl (ck_one 208)], ([], [], [(234, 208, 208, ck_one 5)]), ([(226, 0, 0)], []), [(.inr (some (.inl (ck_one 5))), 245, ([], [], [(226, 0, 0, ck_one 0)]))])
set_option maxRecDepth 100000 in
theorem p5y4_1605_e : ck_ok p1_O none [] [(286, [p5y4_1604]), (283, [p5y4_147])] 285 [] 98 p5y4_1605 = true := by decide +kernel
theorem p5y4_1605_s {X : Int → Int} {LX : Nat} : ck_Ok p1_O X LX 285 p5y4_1605 := ck_ok_s (ck_E1 (ck_S1 p5y4_1604_s ck_S0) (ck_E1 (ck_S1 p5y4_147_s ck_S0) ck_E0)) ck_X0 ck_l0 p5y4_1605_e
set_option maxRecDepth 100000 in
def p5y4_1610 : ck_Sum := ((0, 0, 0), 245, [.inl (ck_one 209), .inl (ck_one 0), .inl (ck_one 299)], ([], [], []), ([], []), [(.inr (some (.inl (ck_one 1))), 245, ([], [], []))])
set_option maxRecDepth 100000 in
theorem p5y4_1610_e : ck_ok p1_O none [] [] 287 [] 88 p5y4_1610 = true := by decide +kernel
theorem p5y4_1610_s {X : Int → Int} {LX : Nat} : ck_Ok p1_O X LX 287 p5y4_1610 := ck_ok_s (ck_E0) ck_X0 ck_l0 p5y4_1610_e
set_option maxRecDepth 100000 in
def p5y4_1611 : ck_Sum := ((1, 0, 0), 245, [.inl (ck_one 209)], ([], [], []), ([], []), [(.inr (some (.inl (ck_one 0))), 245, ([], [], []))])
set_option maxRecDepth 100000 in
theorem p5y4_1611_e : ck_ok p1_O none [] [(287, [p5y4_1610])] 286 [] 84 p5y4_1611 = true := by decide +kernel
theorem p5y4_1611_s {X : Int → Int} {LX : Nat} : ck_Ok p1_O X LX 286 p5y4_1611 := ck_ok_s (ck_E1 (ck_S1 p5y4_1610_s ck_S0) ck_E0) ck_X0 ck_l0 p5y4_1611_e
set_option maxRecDepth 100000 in
def p5y4_1612 : ck_Sum := ((2, 0, 0), 245, [.inr (.inr (.inl 226)), .inl (ck_one 209)], ([], [], [(234, 209, 209, ck_one 7)]), ([(226, 0, 0)], []), [(.inr (some (.inl (ck_one 7))), 245, ([], [], [(226, 0, 0, ck_one 0)]))])
set_option maxRecDepth 100000 in
theorem p5y4_1612_e : ck_ok p1_O none [] [(286, [p5y4_1611]), (283, [p5y4_147])] 285 [] 98 p5y4_1612 = true := by decide +kernel
theorem p5y4_1612_s {X : Int → Int} {LX : Nat} : ck_Ok p1_O X LX 285 p5y4_1612 := ck_ok_s (ck_E1 (ck_S1 p5y4_1611_s ck_S0) (ck_E1 (ck_S1 p5y4_147_s ck_S0) ck_E0)) ck_X0 ck_l0 p5y4_1612_e
set_option maxRecDepth 100000 in
def p5y4_1617 : ck_Sum := ((0, 0, 0), 245, [.inl (ck_one 210), .inl (ck_one 0), .inl (ck_one 299)], ([], [], []), ([], []), [(.inr (some (.inl (ck_one 1))), 245, ([], [], []))])
set_option maxRecDepth 100000 in
theorem p5y4_1617_e : ck_ok p1_O none [] [] 287 [] 88 p5y4_1617 = true := by decide +kernel
theorem p5y4_1617_s {X : Int → Int} {LX : Nat} : ck_Ok p1_O X LX 287 p5y4_1617 := ck_ok_s (ck_E0) ck_X0 ck_l0 p5y4_1617_e
set_option maxRecDepth 100000 in
def p5y4_1618 : ck_Sum := ((1, 0, 0), 245, [.inl (ck_one 210)], ([], [], []), ([], []), [(.inr (some (.inl (ck_one 0))), 245, ([], [], []))])
set_option maxRecDepth 100000 in
theorem p5y4_1618_e : ck_ok p1_O none [] [(287, [p5y4_1617])] 286 [] 84 p5y4_1618 = true := by decide +kernel
theorem p5y4_1618_s {X : Int → Int} {LX : Nat} : ck_Ok p1_O X LX 286 p5y4_1618 := ck_ok_s (ck_E1 (ck_S1 p5y4_1617_s ck_S0) ck_E0) ck_X0 ck_l0 p5y4_1618_e
set_option maxRecDepth 100000 in
def p5y4_1619 : ck_Sum := ((2, 0, 0), 245, [.inr (.inr (.inl 226)), .inl (ck_one 210)], ([], [], [(234, 210, 210, ck_one 2)]), ([(226, 0, 0)], []), [(.inr (some (.inl (ck_one 2))), 245, ([], [], [(226, 0, 0, ck_one 0)]))])
set_option maxRecDepth 100000 in
theorem p5y4_1619_e : ck_ok p1_O none [] [(286, [p5y4_1618]), (283, [p5y4_147])] 285 [] 98 p5y4_1619 = true := by decide +kernel
theorem p5y4_1619_s {X : Int → Int} {LX : Nat} : ck_Ok p1_O X LX 285 p5y4_1619 := ck_ok_s (ck_E1 (ck_S1 p5y4_1618_s ck_S0) (ck_E1 (ck_S1 p5y4_147_s ck_S0) ck_E0)) ck_X0 ck_l0 p5y4_1619_e
set_option maxRecDepth 100000 in
def p5y4_1624 : ck_Sum := ((0, 0, 0), 245, [.inl (ck_one 211), .inl (ck_one 0), .inl (ck_one 299)], ([], [], []), ([], []), [(.inr (some (.inl (ck_one 1))), 245, ([], [], []))])
set_option maxRecDepth 100000 in
theorem p5y4_1624_e : ck_ok p1_O none [] [] 287 [] 88 p5y4_1624 = true := by decide +kernel
theorem p5y4_1624_s {X : Int → Int} {LX : Nat} : ck_Ok p1_O X LX 287 p5y4_1624 := ck_ok_s (ck_E0) ck_X0 ck_l0 p5y4_1624_e
set_option maxRecDepth 100000 in
def p5y4_1625 : ck_Sum := ((1, 0, 0), 245, [.inl (ck_one 211)], ([], [], []), ([], []), [(.inr (some (.inl (ck_one 0))), 245, ([], [], []))])
set_option maxRecDepth 100000 in
theorem p5y4_1625_e : ck_ok p1_O none [] [(287, [p5y4_1624])] 286 [] 84 p5y4_1625 = true := by decide +kernel
theorem p5y4_1625_s {X : Int → Int} {LX : Nat} : ck_Ok p1_O X LX 286 p5y4_1625 := ck_ok_s (ck_E1 (ck_S1 p5y4_1624_s ck_S0) ck_E0) ck_X0 ck_l0 p5y4_1625_e
set_option maxRecDepth 100000 in
def p5y4_1626 : ck_Sum := ((2, 0, 0), 245, [.inr (.inr (.inl 226)), .inl (ck_one 211)], ([], [], [(234, 211, 211, ck_one 4)]), ([(226, 0, 0)], []), [(.inr (some (.inl (ck_one 4))), 245, ([], [], [(226, 0, 0, ck_one 0)]))])
set_option maxRecDepth 100000 in
theorem p5y4_1626_e : ck_ok p1_O none [] [(286, [p5y4_1625]), (283, [p5y4_147])] 285 [] 98 p5y4_1626 = true := by decide +kernel
theorem p5y4_1626_s {X : Int → Int} {LX : Nat} : ck_Ok p1_O X LX 285 p5y4_1626 := ck_ok_s (ck_E1 (ck_S1 p5y4_1625_s ck_S0) (ck_E1 (ck_S1 p5y4_147_s ck_S0) ck_E0)) ck_X0 ck_l0 p5y4_1626_e
set_option maxRecDepth 100000 in
def p5y4_1631 : ck_Sum := ((0, 0, 0), 245, [.inl (ck_one 212), .inl (ck_one 0), .inl (ck_one 299)], ([], [], []), ([], []), [(.inr (some (.inl (ck_one 1))), 245, ([], [], []))])
set_option maxRecDepth 100000 in
theorem p5y4_1631_e : ck_ok p1_O none [] [] 287 [] 88 p5y4_1631 = true := by decide +kernel
theorem p5y4_1631_s {X : Int → Int} {LX : Nat} : ck_Ok p1_O X LX 287 p5y4_1631 := ck_ok_s (ck_E0) ck_X0 ck_l0 p5y4_1631_e
set_option maxRecDepth 100000 in
def p5y4_1632 : ck_Sum := ((1, 0, 0), 245, [.inl (ck_one 212)], ([], [], []), ([], []), [(.inr (some (.inl (ck_one 0))), 245, ([], [], []))])
set_option maxRecDepth 100000 in
theorem p5y4_1632_e : ck_ok p1_O none [] [(287, [p5y4_1631])] 286 [] 84 p5y4_1632 = true := by decide +kernel
theorem p5y4_1632_s {X : Int → Int} {LX : Nat} : ck_Ok p1_O X LX 286 p5y4_1632 := ck_ok_s (ck_E1 (ck_S1 p5y4_1631_s ck_S0) ck_E0) ck_X0 ck_l0 p5y4_1632_e
set_option maxRecDepth 100000 in
def p5y4_1633 : ck_Sum := ((2, 0, 0), 245, [.inr (.inr (.inl 226)), .inl (ck_one 212)], ([], [], [(234, 212, 212, ck_one 1)]), ([(226, 0, 0)], []), [(.inr (some (.inl (ck_one 1))), 245, ([], [], [(226, 0, 0, ck_one 0)]))])
set_option maxRecDepth 100000 in
theorem p5y4_1633_e : ck_ok p1_O none [] [(286, [p5y4_1632]), (283, [p5y4_147])] 285 [] 98 p5y4_1633 = true := by decide +kernel
theorem p5y4_1633_s {X : Int → Int} {LX : Nat} : ck_Ok p1_O X LX 285 p5y4_1633 := ck_ok_s (ck_E1 (ck_S1 p5y4_1632_s ck_S0) (ck_E1 (ck_S1 p5y4_147_s ck_S0) ck_E0)) ck_X0 ck_l0 p5y4_1633_e
set_option maxRecDepth 100000 in
def p5y4_1638 : ck_Sum := ((0, 0, 0), 245, [.inl (ck_one 213), .inl (ck_one 0), .inl (ck_one 299)], ([], [], []), ([], []), [(.inr (some (.inl (ck_one 1))), 245, ([], [], []))])
set_option maxRecDepth 100000 in
theorem p5y4_1638_e : ck_ok p1_O none [] [] 287 [] 88 p5y4_1638 = true := by decide +kernel
theorem p5y4_1638_s {X : Int → Int} {LX : Nat} : ck_Ok p1_O X LX 287 p5y4_1638 := ck_ok_s (ck_E0) ck_X0 ck_l0 p5y4_1638_e
set_option maxRecDepth 100000 in
def p5y4_1639 : ck_Sum := ((1, 0, 0), 245, [.inl (ck_one 213)], ([], [], []), ([], []), [(.inr (some (.inl (ck_one 0))), 245, ([], [], []))])
set_option maxRecDepth 100000 in
theorem p5y4_1639_e : ck_ok p1_O none [] [(287, [p5y4_1638])] 286 [] 84 p5y4_1639 = true := by decide +kernel
theorem p5y4_1639_s {X : Int → Int} {LX : Nat} : ck_Ok p1_O X LX 286 p5y4_1639 := ck_ok_s (ck_E1 (ck_S1 p5y4_1638_s ck_S0) ck_E0) ck_X0 ck_l0 p5y4_1639_e
set_option maxRecDepth 100000 in
def p5y4_1640 : ck_Sum := ((2, 0, 0), 245, [.inr (.inr (.inl 226)), .inl (ck_one 213)], ([], [], [(234, 213, 213, ck_one 2)]), ([(226, 0, 0)], []), [(.inr (some (.inl (ck_one 2))), 245, ([], [], [(226, 0, 0, ck_one 0)]))])
set_option maxRecDepth 100000 in
theorem p5y4_1640_e : ck_ok p1_O none [] [(286, [p5y4_1639]), (283, [p5y4_147])] 285 [] 98 p5y4_1640 = true := by decide +kernel
theorem p5y4_1640_s {X : Int → Int} {LX : Nat} : ck_Ok p1_O X LX 285 p5y4_1640 := ck_ok_s (ck_E1 (ck_S1 p5y4_1639_s ck_S0) (ck_E1 (ck_S1 p5y4_147_s ck_S0) ck_E0)) ck_X0 ck_l0 p5y4_1640_e
set_option maxRecDepth 100000 in
def p5y4_1645 : ck_Sum := ((0, 0, 0), 245, [.inl (ck_one 214), .inl (ck_one 0), .inl (ck_one 299)], ([], [], []), ([], []), [(.inr (some (.inl (ck_one 1))), 245, ([], [], []))])
set_option maxRecDepth 100000 in
theorem p5y4_1645_e : ck_ok p1_O none [] [] 287 [] 88 p5y4_1645 = true := by decide +kernel
theorem p5y4_1645_s {X : Int → Int} {LX : Nat} : ck_Ok p1_O X LX 287 p5y4_1645 := ck_ok_s (ck_E0) ck_X0 ck_l0 p5y4_1645_e
set_option maxRecDepth 100000 in
def p5y4_1646 : ck_Sum := ((1, 0, 0), 245, [.inl (ck_one 214)], ([], [], []), ([], []), [(.inr (some (.inl (ck_one 0))), 245, ([], [], []))])
set_option maxRecDepth 100000 in
theorem p5y4_1646_e : ck_ok p1_O none [] [(287, [p5y4_1645])] 286 [] 84 p5y4_1646 = true := by decide +kernel
theorem p5y4_1646_s {X : Int → Int} {LX : Nat} : ck_Ok p1_O X LX 286 p5y4_1646 := ck_ok_s (ck_E1 (ck_S1 p5y4_1645_s ck_S0) ck_E0) ck_X0 ck_l0 p5y4_1646_e
set_option maxRecDepth 100000 in
def p5y4_1647 : ck_Sum := ((2, 0, 0), 245, [.inr (.inr (.inl 226)), .inl (ck_one 214)], ([], [], [(234, 214, 214, ck_one 2)]), ([(226, 0, 0)], []), [(.inr (some (.inl (ck_one 2))), 245, ([], [], [(226, 0, 0, ck_one 0)]))])
set_option maxRecDepth 100000 in
theorem p5y4_1647_e : ck_ok p1_O none [] [(286, [p5y4_1646]), (283, [p5y4_147])] 285 [] 98 p5y4_1647 = true := by decide +kernel
theorem p5y4_1647_s {X : Int → Int} {LX : Nat} : ck_Ok p1_O X LX 285 p5y4_1647 := ck_ok_s (ck_E1 (ck_S1 p5y4_1646_s ck_S0) (ck_E1 (ck_S1 p5y4_147_s ck_S0) ck_E0)) ck_X0 ck_l0 p5y4_1647_e
set_option maxRecDepth 100000 in
def p5y4_1652 : ck_Sum := ((0, 0, 0), 245, [.inl (ck_one 215), .inl (ck_one 0), .inl (ck_one 299)], ([], [], []), ([], []), [(.inr (some (.inl (ck_one 1))), 245, ([], [], []))])
set_option maxRecDepth 100000 in
theorem p5y4_1652_e : ck_ok p1_O none [] [] 287 [] 88 p5y4_1652 = true := by decide +kernel
theorem p5y4_1652_s {X : Int → Int} {LX : Nat} : ck_Ok p1_O X LX 287 p5y4_1652 := ck_ok_s (ck_E0) ck_X0 ck_l0 p5y4_1652_e
set_option maxRecDepth 100000 in
def p5y4_1653 : ck_Sum := ((1, 0, 0), 245, [.inl (ck_one 215)], ([], [], []), ([], []), [(.inr (some (.inl (ck_one 0))), 245, ([], [], []))])
set_option maxRecDepth 100000 in
theorem p5y4_1653_e : ck_ok p1_O none [] [(287, [p5y4_1652])] 286 [] 84 p5y4_1653 = true := by decide +kernel
theorem p5y4_1653_s {X : Int → Int} {LX : Nat} : ck_Ok p1_O X LX 286 p5y4_1653 := ck_ok_s (ck_E1 (ck_S1 p5y4_1652_s ck_S0) ck_E0) ck_X0 ck_l0 p5y4_1653_e
set_option maxRecDepth 100000 in
def p5y4_1654 : ck_Sum := ((2, 0, 0), 245, [.inr (.inr (.inl 226)), .inl (ck_one 215)], ([], [], [(234, 215, 215, ck_one 4)]), ([(226, 0, 0)], []), [(.inr (some (.inl (ck_one 4))), 245, ([], [], [(226, 0, 0, ck_one 0)]))])
set_option maxRecDepth 100000 in
theorem p5y4_1654_e : ck_ok p1_O none [] [(286, [p5y4_1653]), (283, [p5y4_147])] 285 [] 98 p5y4_1654 = true := by decide +kernel
theorem p5y4_1654_s {X : Int → Int} {LX : Nat} : ck_Ok p1_O X LX 285 p5y4_1654 := ck_ok_s (ck_E1 (ck_S1 p5y4_1653_s ck_S0) (ck_E1 (ck_S1 p5y4_147_s ck_S0) ck_E0)) ck_X0 ck_l0 p5y4_1654_e
set_option maxRecDepth 100000 in
def p5y4_1659 : ck_Sum := ((0, 0, 0), 245, [.inl (ck_one 216), .inl (ck_one 0), .inl (ck_one 299)], ([], [], []), ([], []), [(.inr (some (.inl (ck_one 1))), 245, ([], [], []))])
set_option maxRecDepth 100000 in
theorem p5y4_1659_e : ck_ok p1_O none [] [] 287 [] 88 p5y4_1659 = true := by decide +kernel
theorem p5y4_1659_s {X : Int → Int} {LX : Nat} : ck_Ok p1_O X LX 287 p5y4_1659 := ck_ok_s (ck_E0) ck_X0 ck_l0 p5y4_1659_e
set_option maxRecDepth 100000 in
def p5y4_1660 : ck_Sum := ((1, 0, 0), 245, [.inl (ck_one 216)], ([], [], []), ([], []), [(.inr (some (.inl (ck_one 0))), 245, ([], [], []))])
set_option maxRecDepth 100000 in
theorem p5y4_1660_e : ck_ok p1_O none [] [(287, [p5y4_1659])] 286 [] 84 p5y4_1660 = true := by decide +kernel
theorem p5y4_1660_s {X : Int → Int} {LX : Nat} : ck_Ok p1_O X LX 286 p5y4_1660 := ck_ok_s (ck_E1 (ck_S1 p5y4_1659_s ck_S0) ck_E0) ck_X0 ck_l0 p5y4_1660_e
set_option maxRecDepth 100000 in
def p5y4_1661 : ck_Sum := ((2, 0, 0), 245, [.inr (.inr (.inl 226)), .inl (ck_one 216)], ([], [], [(234, 216, 216, ck_one 4)]), ([(226, 0, 0)], []), [(.inr (some (.inl (ck_one 4))), 245, ([], [], [(226, 0, 0, ck_one 0)]))])
set_option maxRecDepth 100000 in
theorem p5y4_1661_e : ck_ok p1_O none [] [(286, [p5y4_1660]), (283, [p5y4_147])] 285 [] 98 p5y4_1661 = true := by decide +kernel
theorem p5y4_1661_s {X : Int → Int} {LX : Nat} : ck_Ok p1_O X LX 285 p5y4_1661 := ck_ok_s (ck_E1 (ck_S1 p5y4_1660_s ck_S0) (ck_E1 (ck_S1 p5y4_147_s ck_S0) ck_E0)) ck_X0 ck_l0 p5y4_1661_e
set_option maxRecDepth 100000 in
def p5y4_1666 : ck_Sum := ((0, 0, 0), 245, [.inl (ck_one 217), .inl (ck_one 0), .inl (ck_one 299)], ([], [], []), ([], []), [(.inr (some (.inl (ck_one 1))), 245, ([], [], []))])
set_option maxRecDepth 100000 in
theorem p5y4_1666_e : ck_ok p1_O none [] [] 287 [] 88 p5y4_1666 = true := by decide +kernel
theorem p5y4_1666_s {X : Int → Int} {LX : Nat} : ck_Ok p1_O X LX 287 p5y4_1666 := ck_ok_s (ck_E0) ck_X0 ck_l0 p5y4_1666_e
set_option maxRecDepth 100000 in
def p5y4_1667 : ck_Sum := ((1, 0, 0), 245, [.inl (ck_one 217)], ([], [], []), ([], []), [(.inr (some (.inl (ck_one 0))), 245, ([], [], []))])
set_option maxRecDepth 100000 in
theorem p5y4_1667_e : ck_ok p1_O none [] [(287, [p5y4_1666])] 286 [] 84 p5y4_1667 = true := by decide +kernel
theorem p5y4_1667_s {X : Int → Int} {LX : Nat} : ck_Ok p1_O X LX 286 p5y4_1667 := ck_ok_s (ck_E1 (ck_S1 p5y4_1666_s ck_S0) ck_E0) ck_X0 ck_l0 p5y4_1667_e
set_option maxRecDepth 100000 in
def p5y4_1668 : ck_Sum := ((2, 0, 0), 245, [.inr (.inr (.inl 226)), .inl (ck_one 217)], ([], [], [(234, 217, 217, ck_one 5)]), ([(226, 0, 0)], []), [(.inr (some (.inl (ck_one 5))), 245, ([], [], [(226, 0, 0, ck_one 0)]))])
set_option maxRecDepth 100000 in
theorem p5y4_1668_e : ck_ok p1_O none [] [(286, [p5y4_1667]), (283, [p5y4_147])] 285 [] 98 p5y4_1668 = true := by decide +kernel
theorem p5y4_1668_s {X : Int → Int} {LX : Nat} : ck_Ok p1_O X LX 285 p5y4_1668 := ck_ok_s (ck_E1 (ck_S1 p5y4_1667_s ck_S0) (ck_E1 (ck_S1 p5y4_147_s ck_S0) ck_E0)) ck_X0 ck_l0 p5y4_1668_e
set_option maxRecDepth 100000 in
def p5y4_1673 : ck_Sum := ((0, 0, 0), 245, [.inl (ck_one 218), .inl (ck_one 0), .inl (ck_one 299)], ([], [], []), ([], []), [(.inr (some (.inl (ck_one 1))), 245, ([], [], []))])
set_option maxRecDepth 100000 in
theorem p5y4_1673_e : ck_ok p1_O none [] [] 287 [] 88 p5y4_1673 = true := by decide +kernel
theorem p5y4_1673_s {X : Int → Int} {LX : Nat} : ck_Ok p1_O X LX 287 p5y4_1673 := ck_ok_s (ck_E0) ck_X0 ck_l0 p5y4_1673_e
set_option maxRecDepth 100000 in
def p5y4_1674 : ck_Sum := ((1, 0, 0), 245, [.inl (ck_one 218)], ([], [], []), ([], []), [(.inr (some (.inl (ck_one 0))), 245, ([], [], []))])
set_option maxRecDepth 100000 in
theorem p5y4_1674_e : ck_ok p1_O none [] [(287, [p5y4_1673])] 286 [] 84 p5y4_1674 = true := by decide +kernel
theorem p5y4_1674_s {X : Int → Int} {LX : Nat} : ck_Ok p1_O X LX 286 p5y4_1674 := ck_ok_s (ck_E1 (ck_S1 p5y4_1673_s ck_S0) ck_E0) ck_X0 ck_l0 p5y4_1674_e
set_option maxRecDepth 100000 in
def p5y4_1675 : ck_Sum := ((2, 0, 0), 245, [.inr (.inr (.inl 226)), .inl (ck_one 218)], ([], [], [(234, 218, 218, ck_one 7)]), ([(226, 0, 0)], []), [(.inr (some (.inl (ck_one 7))), 245, ([], [], [(226, 0, 0, ck_one 0)]))])
set_option maxRecDepth 100000 in
theorem p5y4_1675_e : ck_ok p1_O none [] [(286, [p5y4_1674]), (283, [p5y4_147])] 285 [] 98 p5y4_1675 = true := by decide +kernel
theorem p5y4_1675_s {X : Int → Int} {LX : Nat} : ck_Ok p1_O X LX 285 p5y4_1675 := ck_ok_s (ck_E1 (ck_S1 p5y4_1674_s ck_S0) (ck_E1 (ck_S1 p5y4_147_s ck_S0) ck_E0)) ck_X0 ck_l0 p5y4_1675_e
set_option maxRecDepth 100000 in
def p5y4_1680 : ck_Sum := ((0, 0, 0), 245, [.inl (ck_one 219), .inl (ck_one 0), .inl (ck_one 299)], ([], [], []), ([], []), [(.inr (some (.inl (ck_one 1))), 245, ([], [], []))])
set_option maxRecDepth 100000 in
theorem p5y4_1680_e : ck_ok p1_O none [] [] 287 [] 88 p5y4_1680 = true := by decide +kernel
theorem p5y4_1680_s {X : Int → Int} {LX : Nat} : ck_Ok p1_O X LX 287 p5y4_1680 := ck_ok_s (ck_E0) ck_X0 ck_l0 p5y4_1680_e
set_option maxRecDepth 100000 in
def p5y4_1681 : ck_Sum := ((1, 0, 0), 245, [.inl (ck_one 219)], ([], [], []), ([], []), [(.inr (some (.inl (ck_one 0))), 245, ([], [], []))])
set_option maxRecDepth 100000 in
theorem p5y4_1681_e : ck_ok p1_O none [] [(287, [p5y4_1680])] 286 [] 84 p5y4_1681 = true := by decide +kernel
theorem p5y4_1681_s {X : Int → Int} {LX : Nat} : ck_Ok p1_O X LX 286 p5y4_1681 := ck_ok_s (ck_E1 (ck_S1 p5y4_1680_s ck_S0) ck_E0) ck_X0 ck_l0 p5y4_1681_e
set_option maxRecDepth 100000 in
def p5y4_1682 : ck_Sum := ((2, 0, 0), 245, [.inr (.inr (.inl 226)), .inl (ck_one 219)], ([], [], [(234, 219, 219, ck_one 6)]), ([(226, 0, 0)], []), [(.inr (some (.inl (ck_one 6))), 245, ([], [], [(226, 0, 0, ck_one 0)]))])
set_option maxRecDepth 100000 in
theorem p5y4_1682_e : ck_ok p1_O none [] [(286, [p5y4_1681]), (283, [p5y4_147])] 285 [] 98 p5y4_1682 = true := by decide +kernel
theorem p5y4_1682_s {X : Int → Int} {LX : Nat} : ck_Ok p1_O X LX 285 p5y4_1682 := ck_ok_s (ck_E1 (ck_S1 p5y4_1681_s ck_S0) (ck_E1 (ck_S1 p5y4_147_s ck_S0) ck_E0)) ck_X0 ck_l0 p5y4_1682_e
set_option maxRecDepth 100000 in
def p5y4_1687 : ck_Sum := ((0, 0, 0), 245, [.inl (ck_one 220), .inl (ck_one 0), .inl (ck_one 299)], ([], [], []), ([], []), [(.inr (some (.inl (ck_one 1))), 245, ([], [], []))])
set_option maxRecDepth 100000 in
theorem p5y4_1687_e : ck_ok p1_O none [] [] 287 [] 88 p5y4_1687 = true := by decide +kernel
theorem p5y4_1687_s {X : Int → Int} {LX : Nat} : ck_Ok p1_O X LX 287 p5y4_1687 := ck_ok_s (ck_E0) ck_X0 ck_l0 p5y4_1687_e
set_option maxRecDepth 100000 in
def p5y4_1688 : ck_Sum := ((1, 0, 0), 245, [.inl (ck_one 220)], ([], [], []), ([], []), [(.inr (some (.inl (ck_one 0))), 245, ([], [], []))])
set_option maxRecDepth 100000 in
theorem p5y4_1688_e : ck_ok p1_O none [] [(287, [p5y4_1687])] 286 [] 84 p5y4_1688 = true := by decide +kernel
theorem p5y4_1688_s {X : Int → Int} {LX : Nat} : ck_Ok p1_O X LX 286 p5y4_1688 := ck_ok_s (ck_E1 (ck_S1 p5y4_1687_s ck_S0) ck_E0) ck_X0 ck_l0 p5y4_1688_e
set_option maxRecDepth 100000 in
def p5y4_1689 : ck_Sum := ((2, 0, 0), 245, [.inr (.inr (.inl 226)), .inl (ck_one 220)], ([], [], [(234, 220, 220, ck_one 8)]), ([(226, 0, 0)], []), [(.inr (some (.inl (ck_one 8))), 245, ([], [], [(226, 0, 0, ck_one 0)]))])
set_option maxRecDepth 100000 in
theorem p5y4_1689_e : ck_ok p1_O none [] [(286, [p5y4_1688]), (283, [p5y4_147])] 285 [] 98 p5y4_1689 = true := by decide +kernel
theorem p5y4_1689_s {X : Int → Int} {LX : Nat} : ck_Ok p1_O X LX 285 p5y4_1689 := ck_ok_s (ck_E1 (ck_S1 p5y4_1688_s ck_S0) (ck_E1 (ck_S1 p5y4_147_s ck_S0) ck_E0)) ck_X0 ck_l0 p5y4_1689_e
set_option maxRecDepth 100000 in
def p5y4_1694 : ck_Sum := ((0, 0, 0), 245, [.inl (ck_one 221), .inl (ck_one 0), .inl (ck_one 299)], ([], [], []), ([], []), [(.inr (some (.inl (ck_one 1))), 245, ([], [], []))])
set_option maxRecDepth 100000 in
theorem p5y4_1694_e : ck_ok p1_O none [] [] 287 [] 88 p5y4_1694 = true := by decide +kernel
theorem p5y4_1694_s {X : Int → Int} {LX : Nat} : ck_Ok p1_O X LX 287 p5y4_1694 := ck_ok_s (ck_E0) ck_X0 ck_l0 p5y4_1694_e
set_option maxRecDepth 100000 in
def p5y4_1695 : ck_Sum := ((1, 0, 0), 245, [.inl (ck_one 221)], ([], [], []), ([], []), [(.inr (some (.inl (ck_one 0))), 245, ([], [], []))])
set_option maxRecDepth 100000 in
theorem p5y4_1695_e : ck_ok p1_O none [] [(287, [p5y4_1694])] 286 [] 84 p5y4_1695 = true := by decide +kernel
theorem p5y4_1695_s {X : Int → Int} {LX : Nat} : ck_Ok p1_O X LX 286 p5y4_1695 := ck_ok_s (ck_E1 (ck_S1 p5y4_1694_s ck_S0) ck_E0) ck_X0 ck_l0 p5y4_1695_e
set_option maxRecDepth 100000 in
def p5y4_1696 : ck_Sum := ((2, 0, 0), 245, [.inr (.inr (.inl 226)), .inl (ck_one 221)], ([], [], [(234, 221, 221, ck_one 5)]), ([(226, 0, 0)], []), [(.inr (some (.inl (ck_one 5))), 245, ([], [], [(226, 0, 0, ck_one 0)]))])
set_option maxRecDepth 100000 in
theorem p5y4_1696_e : ck_ok p1_O none [] [(286, [p5y4_1695]), (283, [p5y4_147])] 285 [] 98 p5y4_1696 = true := by decide +kernel
theorem p5y4_1696_s {X : Int → Int} {LX : Nat} : ck_Ok p1_O X LX 285 p5y4_1696 := ck_ok_s (ck_E1 (ck_S1 p5y4_1695_s ck_S0) (ck_E1 (ck_S1 p5y4_147_s ck_S0) ck_E0)) ck_X0 ck_l0 p5y4_1696_e
set_option maxRecDepth 100000 in
def p5y4_1701 : ck_Sum := ((0, 0, 0), 245, [.inl (ck_one 222), .inl (ck_one 0), .inl (ck_one 299)], ([], [], []), ([], []), [(.inr (some (.inl (ck_one 1))), 245, ([], [], []))])
set_option maxRecDepth 100000 in
theorem p5y4_1701_e : ck_ok p1_O none [] [] 287 [] 88 p5y4_1701 = true := by decide +kernel
theorem p5y4_1701_s {X : Int → Int} {LX : Nat} : ck_Ok p1_O X LX 287 p5y4_1701 := ck_ok_s (ck_E0) ck_X0 ck_l0 p5y4_1701_e
set_option maxRecDepth 100000 in
def p5y4_1702 : ck_Sum := ((1, 0, 0), 245, [.inl (ck_one 222)], ([], [], []), ([], []), [(.inr (some (.inl (ck_one 0))), 245, ([], [], []))])
set_option maxRecDepth 100000 in
theorem p5y4_1702_e : ck_ok p1_O none [] [(287, [p5y4_1701])] 286 [] 84 p5y4_1702 = true := by decide +kernel
theorem p5y4_1702_s {X : Int → Int} {LX : Nat} : ck_Ok p1_O X LX 286 p5y4_1702 := ck_ok_s (ck_E1 (ck_S1 p5y4_1701_s ck_S0) ck_E0) ck_X0 ck_l0 p5y4_1702_e
set_option maxRecDepth 100000 in
def p5y4_1703 : ck_Sum := ((2, 0, 0), 245, [.inr (.inr (.inl 226)), .inl (ck_one 222)], ([], [], [(234, 222, 222, ck_one 6)]), ([(226, 0, 0)], []), [(.inr (some (.inl (ck_one 6))), 245, ([], [], [(226, 0, 0, ck_one 0)]))])
set_option maxRecDepth 100000 in
theorem p5y4_1703_e : ck_ok p1_O none [] [(286, [p5y4_1702]), (283, [p5y4_147])] 285 [] 98 p5y4_1703 = true := by decide +kernel
theorem p5y4_1703_s {X : Int → Int} {LX : Nat} : ck_Ok p1_O X LX 285 p5y4_1703 := ck_ok_s (ck_E1 (ck_S1 p5y4_1702_s ck_S0) (ck_E1 (ck_S1 p5y4_147_s ck_S0) ck_E0)) ck_X0 ck_l0 p5y4_1703_e
set_option maxRecDepth 100000 in
def p5y4_1708 : ck_Sum := ((0, 0, 0), 245, [.inl (ck_one 223), .inl (ck_one 0), .inl (ck_one 299)], ([], [], []), ([], []), [(.inr (some (.inl (ck_one 1))), 245, ([], [], []))])
set_option maxRecDepth 100000 in
theorem p5y4_1708_e : ck_ok p1_O none [] [] 287 [] 88 p5y4_1708 = true := by decide +kernel
theorem p5y4_1708_s {X : Int → Int} {LX : Nat} : ck_Ok p1_O X LX 287 p5y4_1708 := ck_ok_s (ck_E0) ck_X0 ck_l0 p5y4_1708_e
set_option maxRecDepth 100000 in
def p5y4_1709 : ck_Sum := ((1, 0, 0), 245, [.inl (ck_one 223)], ([], [], []), ([], []), [(.inr (some (.inl (ck_one 0))), 245, ([], [], []))])
set_option maxRecDepth 100000 in
theorem p5y4_1709_e : ck_ok p1_O none [] [(287, [p5y4_1708])] 286 [] 84 p5y4_1709 = true := by decide +kernel
theorem p5y4_1709_s {X : Int → Int} {LX : Nat} : ck_Ok p1_O X LX 286 p5y4_1709 := ck_ok_s (ck_E1 (ck_S1 p5y4_1708_s ck_S0) ck_E0) ck_X0 ck_l0 p5y4_1709_e
set_option maxRecDepth 100000 in
def p5y4_1710 : ck_Sum := ((2, 0, 0), 245, [.inr (.inr (.inl 226)), .inl (ck_one 223)], ([], [], [(234, 223, 223, ck_one 6)]), ([(226, 0, 0)], []), [(.inr (some (.inl (ck_one 6))), 245, ([], [], [(226, 0, 0, ck_one 0)]))])
set_option maxRecDepth 100000 in
theorem p5y4_1710_e : ck_ok p1_O none [] [(286, [p5y4_1709]), (283, [p5y4_147])] 285 [] 98 p5y4_1710 = true := by decide +kernel
theorem p5y4_1710_s {X : Int → Int} {LX : Nat} : ck_Ok p1_O X LX 285 p5y4_1710 := ck_ok_s (ck_E1 (ck_S1 p5y4_1709_s ck_S0) (ck_E1 (ck_S1 p5y4_147_s ck_S0) ck_E0)) ck_X0 ck_l0 p5y4_1710_e
set_option maxRecDepth 100000 in
def p5y4_1715 : ck_Sum := ((0, 0, 0), 245, [.inl (ck_one 224), .inl (ck_one 0), .inl (ck_one 299)], ([], [], []), ([], []), [(.inr (some (.inl (ck_one 1))), 245, ([], [], []))])
set_option maxRecDepth 100000 in
theorem p5y4_1715_e : ck_ok p1_O none [] [] 287 [] 88 p5y4_1715 = true := by decide +kernel
theorem p5y4_1715_s {X : Int → Int} {LX : Nat} : ck_Ok p1_O X LX 287 p5y4_1715 := ck_ok_s (ck_E0) ck_X0 ck_l0 p5y4_1715_e
set_option maxRecDepth 100000 in
def p5y4_1716 : ck_Sum := ((1, 0, 0), 245, [.inl (ck_one 224)], ([], [], []), ([], []), [(.inr (some (.inl (ck_one 0))), 245, ([], [], []))])
set_option maxRecDepth 100000 in
theorem p5y4_1716_e : ck_ok p1_O none [] [(287, [p5y4_1715])] 286 [] 84 p5y4_1716 = true := by decide +kernel
theorem p5y4_1716_s {X : Int → Int} {LX : Nat} : ck_Ok p1_O X LX 286 p5y4_1716 := ck_ok_s (ck_E1 (ck_S1 p5y4_1715_s ck_S0) ck_E0) ck_X0 ck_l0 p5y4_1716_e
set_option maxRecDepth 100000 in
def p5y4_1717 : ck_Sum := ((2, 0, 0), 245, [.inr (.inr (.inl 226)), .inl (ck_one 224)], ([], [], [(234, 224, 224, ck_one 2)]), ([(226, 0, 0)], []), [(.inr (some (.inl (ck_one 2))), 245, ([], [], [(226, 0, 0, ck_one 0)]))])
set_option maxRecDepth 100000 in
theorem p5y4_1717_e : ck_ok p1_O none [] [(286, [p5y4_1716]), (283, [p5y4_147])] 285 [] 98 p5y4_1717 = true := by decide +kernel
theorem p5y4_1717_s {X : Int → Int} {LX : Nat} : ck_Ok p1_O X LX 285 p5y4_1717 := ck_ok_s (ck_E1 (ck_S1 p5y4_1716_s ck_S0) (ck_E1 (ck_S1 p5y4_147_s ck_S0) ck_E0)) ck_X0 ck_l0 p5y4_1717_e
set_option maxRecDepth 100000 in
def p5y4_1722 : ck_Sum := ((0, 0, 0), 245, [.inl (ck_one 225), .inl (ck_one 0), .inl (ck_one 299)], ([], [], []), ([], []), [(.inr (some (.inl (ck_one 1))), 245, ([], [], []))])
set_option maxRecDepth 100000 in
theorem p5y4_1722_e : ck_ok p1_O none [] [] 287 [] 88 p5y4_1722 = true := by decide +kernel
theorem p5y4_1722_s {X : Int → Int} {LX : Nat} : ck_Ok p1_O X LX 287 p5y4_1722 := ck_ok_s (ck_E0) ck_X0 ck_l0 p5y4_1722_e
set_option maxRecDepth 100000 in
def p5y4_1723 : ck_Sum := ((1, 0, 0), 245, [.inl (ck_one 225)], ([], [], []), ([], []), [(.inr (some (.inl (ck_one 0))), 245, ([], [], []))])
set_option maxRecDepth 100000 in
theorem p5y4_1723_e : ck_ok p1_O none [] [(287, [p5y4_1722])] 286 [] 84 p5y4_1723 = true := by decide +kernel
theorem p5y4_1723_s {X : Int → Int} {LX : Nat} : ck_Ok p1_O X LX 286 p5y4_1723 := ck_ok_s (ck_E1 (ck_S1 p5y4_1722_s ck_S0) ck_E0) ck_X0 ck_l0 p5y4_1723_e
set_option maxRecDepth 100000 in
def p5y4_1724 : ck_Sum := ((2, 0, 0), 245, [.inr (.inr (.inl 226)), .inl (ck_one 225)], ([], [], [(234, 225, 225, ck_one 1)]), ([(226, 0, 0)], []), [(.inr (some (.inl (ck_one 1))), 245, ([], [], [(226, 0, 0, ck_one 0)]))])
set_option maxRecDepth 100000 in
theorem p5y4_1724_e : ck_ok p1_O none [] [(286, [p5y4_1723]), (283, [p5y4_147])] 285 [] 98 p5y4_1724 = true := by decide +kernel
theorem p5y4_1724_s {X : Int → Int} {LX : Nat} : ck_Ok p1_O X LX 285 p5y4_1724 := ck_ok_s (ck_E1 (ck_S1 p5y4_1723_s ck_S0) (ck_E1 (ck_S1 p5y4_147_s ck_S0) ck_E0)) ck_X0 ck_l0 p5y4_1724_e
set_option maxRecDepth 100000 in
def p5y4_1729 : ck_Sum := ((0, 0, 0), 245, [.inl (ck_one 226), .inl (ck_one 0), .inl (ck_one 299)], ([], [], []), ([], []), [(.inr (some (.inl (ck_one 1))), 245, ([], [], []))])
set_option maxRecDepth 100000 in
theorem p5y4_1729_e : ck_ok p1_O none [] [] 287 [] 88 p5y4_1729 = true := by decide +kernel
theorem p5y4_1729_s {X : Int → Int} {LX : Nat} : ck_Ok p1_O X LX 287 p5y4_1729 := ck_ok_s (ck_E0) ck_X0 ck_l0 p5y4_1729_e
set_option maxRecDepth 100000 in
def p5y4_1730 : ck_Sum := ((1, 0, 0), 245, [.inl (ck_one 226)], ([], [], []), ([], []), [(.inr (some (.inl (ck_one 0))), 245, ([], [], []))])
set_option maxRecDepth 100000 in
theorem p5y4_1730_e : ck_ok p1_O none [] [(287, [p5y4_1729])] 286 [] 84 p5y4_1730 = true := by decide +kernel
theorem p5y4_1730_s {X : Int → Int} {LX : Nat} : ck_Ok p1_O X LX 286 p5y4_1730 := ck_ok_s (ck_E1 (ck_S1 p5y4_1729_s ck_S0) ck_E0) ck_X0 ck_l0 p5y4_1730_e
set_option maxRecDepth 100000 in
def p5y4_1731 : ck_Sum := ((2, 0, 0), 245, [.inr (.inr (.inl 226)), .inl (ck_one 226)], ([], [], [(234, 226, 226, ck_one 8)]), ([(226, 0, 0)], []), [(.inr (some (.inl (ck_one 8))), 245, ([], [], [(226, 0, 0, ck_one 0)]))])
set_option maxRecDepth 100000 in
theorem p5y4_1731_e : ck_ok p1_O none [] [(286, [p5y4_1730]), (283, [p5y4_147])] 285 [] 98 p5y4_1731 = true := by decide +kernel
theorem p5y4_1731_s {X : Int → Int} {LX : Nat} : ck_Ok p1_O X LX 285 p5y4_1731 := ck_ok_s (ck_E1 (ck_S1 p5y4_1730_s ck_S0) (ck_E1 (ck_S1 p5y4_147_s ck_S0) ck_E0)) ck_X0 ck_l0 p5y4_1731_e
set_option maxRecDepth 100000 in
def p5y4_1736 : ck_Sum := ((0, 0, 0), 245, [.inl (ck_one 227), .inl (ck_one 0), .inl (ck_one 299)], ([], [], []), ([], []), [(.inr (some (.inl (ck_one 1))), 245, ([], [], []))])
set_option maxRecDepth 100000 in
theorem p5y4_1736_e : ck_ok p1_O none [] [] 287 [] 88 p5y4_1736 = true := by decide +kernel
theorem p5y4_1736_s {X : Int → Int} {LX : Nat} : ck_Ok p1_O X LX 287 p5y4_1736 := ck_ok_s (ck_E0) ck_X0 ck_l0 p5y4_1736_e
set_option maxRecDepth 100000 in
def p5y4_1737 : ck_Sum := ((1, 0, 0), 245, [.inl (ck_one 227)], ([], [], []), ([], []), [(.inr (some (.inl (ck_one 0))), 245, ([], [], []))])
set_option maxRecDepth 100000 in
theorem p5y4_1737_e : ck_ok p1_O none [] [(287, [p5y4_1736])] 286 [] 84 p5y4_1737 = true := by decide +kernel
theorem p5y4_1737_s {X : Int → Int} {LX : Nat} : ck_Ok p1_O X LX 286 p5y4_1737 := ck_ok_s (ck_E1 (ck_S1 p5y4_1736_s ck_S0) ck_E0) ck_X0 ck_l0 p5y4_1737_e
set_option maxRecDepth 100000 in
def p5y4_1738 : ck_Sum := ((2, 0, 0), 245, [.inr (.inr (.inl 226)), .inl (ck_one 227)], ([], [], [(234, 227, 227, ck_one 3)]), ([(226, 0, 0)], []), [(.inr (some (.inl (ck_one 3))), 245, ([], [], [(226, 0, 0, ck_one 0)]))])
set_option maxRecDepth 100000 in
theorem p5y4_1738_e : ck_ok p1_O none [] [(286, [p5y4_1737]), (283, [p5y4_147])] 285 [] 98 p5y4_1738 = true := by decide +kernel
theorem p5y4_1738_s {X : Int → Int} {LX : Nat} : ck_Ok p1_O X LX 285 p5y4_1738 := ck_ok_s (ck_E1 (ck_S1 p5y4_1737_s ck_S0) (ck_E1 (ck_S1 p5y4_147_s ck_S0) ck_E0)) ck_X0 ck_l0 p5y4_1738_e
set_option maxRecDepth 100000 in
def p5y4_1743 : ck_Sum := ((0, 0, 0), 245, [.inl (ck_one 228), .inl (ck_one 0), .inl (ck_one 299)], ([], [], []), ([], []), [(.inr (some (.inl (ck_one 1))), 245, ([], [], []))])
set_option maxRecDepth 100000 in
theorem p5y4_1743_e : ck_ok p1_O none [] [] 287 [] 88 p5y4_1743 = true := by decide +kernel
theorem p5y4_1743_s {X : Int → Int} {LX : Nat} : ck_Ok p1_O X LX 287 p5y4_1743 := ck_ok_s (ck_E0) ck_X0 ck_l0 p5y4_1743_e
set_option maxRecDepth 100000 in
def p5y4_1744 : ck_Sum := ((1, 0, 0), 245, [.inl (ck_one 228)], ([], [], []), ([], []), [(.inr (some (.inl (ck_one 0))), 245, ([], [], []))])
set_option maxRecDepth 100000 in
theorem p5y4_1744_e : ck_ok p1_O none [] [(287, [p5y4_1743])] 286 [] 84 p5y4_1744 = true := by decide +kernel
theorem p5y4_1744_s {X : Int → Int} {LX : Nat} : ck_Ok p1_O X LX 286 p5y4_1744 := ck_ok_s (ck_E1 (ck_S1 p5y4_1743_s ck_S0) ck_E0) ck_X0 ck_l0 p5y4_1744_e
set_option maxRecDepth 100000 in
def p5y4_1745 : ck_Sum := ((2, 0, 0), 245, [.inr (.inr (.inl 226)), .inl (ck_one 228)], ([], [], [(234, 228, 228, ck_one 1)]), ([(226, 0, 0)], []), [(.inr (some (.inl (ck_one 1))), 245, ([], [], [(226, 0, 0, ck_one 0)]))])
set_option maxRecDepth 100000 in
theorem p5y4_1745_e : ck_ok p1_O none [] [(286, [p5y4_1744]), (283, [p5y4_147])] 285 [] 98 p5y4_1745 = true := by decide +kernel
theorem p5y4_1745_s {X : Int → Int} {LX : Nat} : ck_Ok p1_O X LX 285 p5y4_1745 := ck_ok_s (ck_E1 (ck_S1 p5y4_1744_s ck_S0) (ck_E1 (ck_S1 p5y4_147_s ck_S0) ck_E0)) ck_X0 ck_l0 p5y4_1745_e
set_option maxRecDepth 100000 in
def p5y4_1750 : ck_Sum := ((0, 0, 0), 245, [.inl (ck_one 229), .inl (ck_one 0), .inl (ck_one 299)], ([], [], []), ([], []), [(.inr (some (.inl (ck_one 1))), 245, ([], [], []))])
set_option maxRecDepth 100000 in
theorem p5y4_1750_e : ck_ok p1_O none [] [] 287 [] 88 p5y4_1750 = true := by decide +kernel
theorem p5y4_1750_s {X : Int → Int} {LX : Nat} : ck_Ok p1_O X LX 287 p5y4_1750 := ck_ok_s (ck_E0) ck_X0 ck_l0 p5y4_1750_e
set_option maxRecDepth 100000 in
def p5y4_1751 : ck_Sum := ((1, 0, 0), 245, [.inl (ck_one 229)], ([], [], []), ([], []), [(.inr (some (.inl (ck_one 0))), 245, ([], [], []))])
set_option maxRecDepth 100000 in
theorem p5y4_1751_e : ck_ok p1_O none [] [(287, [p5y4_1750])] 286 [] 84 p5y4_1751 = true := by decide +kernel
theorem p5y4_1751_s {X : Int → Int} {LX : Nat} : ck_Ok p1_O X LX 286 p5y4_1751 := ck_ok_s (ck_E1 (ck_S1 p5y4_1750_s ck_S0) ck_E0) ck_X0 ck_l0 p5y4_1751_e
set_option maxRecDepth 100000 in
def p5y4_1752 : ck_Sum := ((2, 0, 0), 245, [.inr (.inr (.inl 226)), .inl (ck_one 229)], ([], [], [(234, 229, 229, ck_one 3)]), ([(226, 0, 0)], []), [(.inr (some (.inl (ck_one 3))), 245, ([], [], [(226, 0, 0, ck_one 0)]))])
set_option maxRecDepth 100000 in
theorem p5y4_1752_e : ck_ok p1_O none [] [(286, [p5y4_1751]), (283, [p5y4_147])] 285 [] 98 p5y4_1752 = true := by decide +kernel
theorem p5y4_1752_s {X : Int → Int} {LX : Nat} : ck_Ok p1_O X LX 285 p5y4_1752 := ck_ok_s (ck_E1 (ck_S1 p5y4_1751_s ck_S0) (ck_E1 (ck_S1 p5y4_147_s ck_S0) ck_E0)) ck_X0 ck_l0 p5y4_1752_e
set_option maxRecDepth 100000 in
def p5y4_1757 : ck_Sum := ((0, 0, 0), 245, [.inl (ck_one 230), .inl (ck_one 0), .inl (ck_one 299)], ([], [], []), ([], []), [(.inr (some (.inl (ck_one 1))), 245, ([], [], []))])
set_option maxRecDepth 100000 in
theorem p5y4_1757_e : ck_ok p1_O none [] [] 287 [] 88 p5y4_1757 = true := by decide +kernel
theorem p5y4_1757_s {X : Int → Int} {LX : Nat} : ck_Ok p1_O X LX 287 p5y4_1757 := ck_ok_s (ck_E0) ck_X0 ck_l0 p5y4_1757_e
set_option maxRecDepth 100000 in
def p5y4_1758 : ck_Sum := ((1, 0, 0), 245, [.inl (ck_one 230)], ([], [], []), ([], []), [(.inr (some (.inl (ck_one 0))), 245, ([], [], []))])
set_option maxRecDepth 100000 in
theorem p5y4_1758_e : ck_ok p1_O none [] [(287, [p5y4_1757])] 286 [] 84 p5y4_1758 = true := by decide +kernel
theorem p5y4_1758_s {X : Int → Int} {LX : Nat} : ck_Ok p1_O X LX 286 p5y4_1758 := ck_ok_s (ck_E1 (ck_S1 p5y4_1757_s ck_S0) ck_E0) ck_X0 ck_l0 p5y4_1758_e
set_option maxRecDepth 100000 in
def p5y4_1759 : ck_Sum := ((2, 0, 0), 245, [.inr (.inr (.inl 226)), .inl (ck_one 230)], ([], [], [(234, 230, 230, ck_one 2)]), ([(226, 0, 0)], []), [(.inr (some (.inl (ck_one 2))), 245, ([], [], [(226, 0, 0, ck_one 0)]))])
set_option maxRecDepth 100000 in
theorem p5y4_1759_e : ck_ok p1_O none [] [(286, [p5y4_1758]), (283, [p5y4_147])] 285 [] 98 p5y4_1759 = true := by decide +kernel
theorem p5y4_1759_s {X : Int → Int} {LX : Nat} : ck_Ok p1_O X LX 285 p5y4_1759 := ck_ok_s (ck_E1 (ck_S1 p5y4_1758_s ck_S0) (ck_E1 (ck_S1 p5y4_147_s ck_S0) ck_E0)) ck_X0 ck_l0 p5y4_1759_e
set_option maxRecDepth 100000 in
def p5y4_1764 : ck_Sum := ((0, 0, 0), 245, [.inl (ck_one 231), .inl (ck_one 0), .inl (ck_one 299)], ([], [], []), ([], []), [(.inr (some (.inl (ck_one 1))), 245, ([], [], []))])
set_option maxRecDepth 100000 in
theorem p5y4_1764_e : ck_ok p1_O none [] [] 287 [] 88 p5y4_1764 = true := by decide +kernel
theorem p5y4_1764_s {X : Int → Int} {LX : Nat} : ck_Ok p1_O X LX 287 p5y4_1764 := ck_ok_s (ck_E0) ck_X0 ck_l0 p5y4_1764_e
set_option maxRecDepth 100000 in
def p5y4_1765 : ck_Sum := ((1, 0, 0), 245, [.inl (ck_one 231)], ([], [], []), ([], []), [(.inr (some (.inl (ck_one 0))), 245, ([], [], []))])
set_option maxRecDepth 100000 in
theorem p5y4_1765_e : ck_ok p1_O none [] [(287, [p5y4_1764])] 286 [] 84 p5y4_1765 = true := by decide +kernel
theorem p5y4_1765_s {X : Int → Int} {LX : Nat} : ck_Ok p1_O X LX 286 p5y4_1765 := ck_ok_s (ck_E1 (ck_S1 p5y4_1764_s ck_S0) ck_E0) ck_X0 ck_l0 p5y4_1765_e
set_option maxRecDepth 100000 in
def p5y4_1766 : ck_Sum := ((2, 0, 0), 245, [.inr (.inr (.inl 226)), .inl (ck_one 231)], ([], [], [(234, 231, 231, ck_one 6)]), ([(226, 0, 0)], []), [(.inr (some (.inl (ck_one 6))), 245, ([], [], [(226, 0, 0, ck_one 0)]))])
set_option maxRecDepth 100000 in
theorem p5y4_1766_e : ck_ok p1_O none [] [(286, [p5y4_1765]), (283, [p5y4_147])] 285 [] 98 p5y4_1766 = true := by decide +kernel
theorem p5y4_1766_s {X : Int → Int} {LX : Nat} : ck_Ok p1_O X LX 285 p5y4_1766 := ck_ok_s (ck_E1 (ck_S1 p5y4_1765_s ck_S0) (ck_E1 (ck_S1 p5y4_147_s ck_S0) ck_E0)) ck_X0 ck_l0 p5y4_1766_e
set_option maxRecDepth 100000 in
def p5y4_1771 : ck_Sum := ((0, 0, 0), 245, [.inl (ck_one 232), .inl (ck_one 0), .inl (ck_one 299)], ([], [], []), ([], []), [(.inr (some (.inl (ck_one 1))), 245, ([], [], []))])
set_option maxRecDepth 100000 in
theorem p5y4_1771_e : ck_ok p1_O none [] [] 287 [] 88 p5y4_1771 = true := by decide +kernel
theorem p5y4_1771_s {X : Int → Int} {LX : Nat} : ck_Ok p1_O X LX 287 p5y4_1771 := ck_ok_s (ck_E0) ck_X0 ck_l0 p5y4_1771_e
set_option maxRecDepth 100000 in
def p5y4_1772 : ck_Sum := ((1, 0, 0), 245, [.inl (ck_one 232)], ([], [], []), ([], []), [(.inr (some (.inl (ck_one 0))), 245, ([], [], []))])
set_option maxRecDepth 100000 in
theorem p5y4_1772_e : ck_ok p1_O none [] [(287, [p5y4_1771])] 286 [] 84 p5y4_1772 = true := by decide +kernel
theorem p5y4_1772_s {X : Int → Int} {LX : Nat} : ck_Ok p1_O X LX 286 p5y4_1772 := ck_ok_s (ck_E1 (ck_S1 p5y4_1771_s ck_S0) ck_E0) ck_X0 ck_l0 p5y4_1772_e
set_option maxRecDepth 100000 in
def p5y4_1773 : ck_Sum := ((2, 0, 0), 245, [.inr (.inr (.inl 226)), .inl (ck_one 232)], ([], [], [(234, 232, 232, ck_one 1)]), ([(226, 0, 0)], []), [(.inr (some (.inl (ck_one 1))), 245, ([], [], [(226, 0, 0, ck_one 0)]))])
set_option maxRecDepth 100000 in
theorem p5y4_1773_e : ck_ok p1_O none [] [(286, [p5y4_1772]), (283, [p5y4_147])] 285 [] 98 p5y4_1773 = true := by decide +kernel
theorem p5y4_1773_s {X : Int → Int} {LX : Nat} : ck_Ok p1_O X LX 285 p5y4_1773 := ck_ok_s (ck_E1 (ck_S1 p5y4_1772_s ck_S0) (ck_E1 (ck_S1 p5y4_147_s ck_S0) ck_E0)) ck_X0 ck_l0 p5y4_1773_e
set_option maxRecDepth 100000 in
def p5y4_1778 : ck_Sum := ((0, 0, 0), 245, [.inl (ck_one 233), .inl (ck_one 0), .inl (ck_one 299)], ([], [], []), ([], []), [(.inr (some (.inl (ck_one 1))), 245, ([], [], []))])
set_option maxRecDepth 100000 in
theorem p5y4_1778_e : ck_ok p1_O none [] [] 287 [] 88 p5y4_1778 = true := by decide +kernel
theorem p5y4_1778_s {X : Int → Int} {LX : Nat} : ck_Ok p1_O X LX 287 p5y4_1778 := ck_ok_s (ck_E0) ck_X0 ck_l0 p5y4_1778_e
set_option maxRecDepth 100000 in
def p5y4_1779 : ck_Sum := ((1, 0, 0), 245, [.inl (ck_one 233)], ([], [], []), ([], []), [(.inr (some (.inl (ck_one 0))), 245, ([], [], []))])
set_option maxRecDepth 100000 in
theorem p5y4_1779_e : ck_ok p1_O none [] [(287, [p5y4_1778])] 286 [] 84 p5y4_1779 = true := by decide +kernel
theorem p5y4_1779_s {X : Int → Int} {LX : Nat} : ck_Ok p1_O X LX 286 p5y4_1779 := ck_ok_s (ck_E1 (ck_S1 p5y4_1778_s ck_S0) ck_E0) ck_X0 ck_l0 p5y4_1779_e
set_option maxRecDepth 100000 in
def p5y4_1780 : ck_Sum := ((2, 0, 0), 245, [.inr (.inr (.inl 226)), .inl (ck_one 233)], ([], [], [(234, 233, 233, ck_one 4)]), ([(226, 0, 0)], []), [(.inr (some (.inl (ck_one 4))), 245, ([], [], [(226, 0, 0, ck_one 0)]))])
set_option maxRecDepth 100000 in
theorem p5y4_1780_e : ck_ok p1_O none [] [(286, [p5y4_1779]), (283, [p5y4_147])] 285 [] 98 p5y4_1780 = true := by decide +kernel
theorem p5y4_1780_s {X : Int → Int} {LX : Nat} : ck_Ok p1_O X LX 285 p5y4_1780 := ck_ok_s (ck_E1 (ck_S1 p5y4_1779_s ck_S0) (ck_E1 (ck_S1 p5y4_147_s ck_S0) ck_E0)) ck_X0 ck_l0 p5y4_1780_e
set_option maxRecDepth 100000 in
def p5y4_1785 : ck_Sum := ((0, 0, 0), 245, [.inl (ck_one 234), .inl (ck_one 0), .inl (ck_one 299)], ([], [], []), ([], []), [(.inr (some (.inl (ck_one 1))), 245, ([], [], []))])
set_option maxRecDepth 100000 in
theorem p5y4_1785_e : ck_ok p1_O none [] [] 287 [] 88 p5y4_1785 = true := by decide +kernel
theorem p5y4_1785_s {X : Int → Int} {LX : Nat} : ck_Ok p1_O X LX 287 p5y4_1785 := ck_ok_s (ck_E0) ck_X0 ck_l0 p5y4_1785_e
set_option maxRecDepth 100000 in
def p5y4_1786 : ck_Sum := ((1, 0, 0), 245, [.inl (ck_one 234)], ([], [], []), ([], []), [(.inr (some (.inl (ck_one 0))), 245, ([], [], []))])
set_option maxRecDepth 100000 in
theorem p5y4_1786_e : ck_ok p1_O none [] [(287, [p5y4_1785])] 286 [] 84 p5y4_1786 = true := by decide +kernel
theorem p5y4_1786_s {X : Int → Int} {LX : Nat} : ck_Ok p1_O X LX 286 p5y4_1786 := ck_ok_s (ck_E1 (ck_S1 p5y4_1785_s ck_S0) ck_E0) ck_X0 ck_l0 p5y4_1786_e
set_option maxRecDepth 100000 in
def p5y4_1787 : ck_Sum := ((2, 0, 0), 245, [.inr (.inr (.inl 226)), .inl (ck_one 234)], ([], [], [(234, 234, 234, ck_one 8)]), ([(226, 0, 0)], []), [(.inr (some (.inl (ck_one 8))), 245, ([], [], [(226, 0, 0, ck_one 0)]))])
set_option maxRecDepth 100000 in
theorem p5y4_1787_e : ck_ok p1_O none [] [(286, [p5y4_1786]), (283, [p5y4_147])] 285 [] 98 p5y4_1787 = true := by decide +kernel
theorem p5y4_1787_s {X : Int → Int} {LX : Nat} : ck_Ok p1_O X LX 285 p5y4_1787 := ck_ok_s (ck_E1 (ck_S1 p5y4_1786_s ck_S0) (ck_E1 (ck_S1 p5y4_147_s ck_S0) ck_E0)) ck_X0 ck_l0 p5y4_1787_e
set_option maxRecDepth 100000 in
def p5y4_1792 : ck_Sum := ((0, 0, 0), 245, [.inl (ck_one 235), .inl (ck_one 0), .inl (ck_one 299)], ([], [], []), ([], []), [(.inr (some (.inl (ck_one 1))), 245, ([], [], []))])
set_option maxRecDepth 100000 in
theorem p5y4_1792_e : ck_ok p1_O none [] [] 287 [] 88 p5y4_1792 = true := by decide +kernel
theorem p5y4_1792_s {X : Int → Int} {LX : Nat} : ck_Ok p1_O X LX 287 p5y4_1792 := ck_ok_s (ck_E0) ck_X0 ck_l0 p5y4_1792_e
set_option maxRecDepth 100000 in
def p5y4_1793 : ck_Sum := ((1, 0, 0), 245, [.inl (ck_one 235)], ([], [], []), ([], []), [(.inr (some (.inl (ck_one 0))), 245, ([], [], []))])
set_option maxRecDepth 100000 in
theorem p5y4_1793_e : ck_ok p1_O none [] [(287, [p5y4_1792])] 286 [] 84 p5y4_1793 = true := by decide +kernel
theorem p5y4_1793_s {X : Int → Int} {LX : Nat} : ck_Ok p1_O X LX 286 p5y4_1793 := ck_ok_s (ck_E1 (ck_S1 p5y4_1792_s ck_S0) ck_E0) ck_X0 ck_l0 p5y4_1793_e
set_option maxRecDepth 100000 in
def p5y4_1794 : ck_Sum := ((2, 0, 0), 245, [.inr (.inr (.inl 226)), .inl (ck_one 235)], ([], [], [(234, 235, 235, ck_one 4)]), ([(226, 0, 0)], []), [(.inr (some (.inl (ck_one 4))), 245, ([], [], [(226, 0, 0, ck_one 0)]))])
set_option maxRecDepth 100000 in
theorem p5y4_1794_e : ck_ok p1_O none [] [(286, [p5y4_1793]), (283, [p5y4_147])] 285 [] 98 p5y4_1794 = true := by decide +kernel
theorem p5y4_1794_s {X : Int → Int} {LX : Nat} : ck_Ok p1_O X LX 285 p5y4_1794 := ck_ok_s (ck_E1 (ck_S1 p5y4_1793_s ck_S0) (ck_E1 (ck_S1 p5y4_147_s ck_S0) ck_E0)) ck_X0 ck_l0 p5y4_1794_e
set_option maxRecDepth 100000 in
def p5y4_1799 : ck_Sum := ((0, 0, 0), 245, [.inl (ck_one 236), .inl (ck_one 0), .inl (ck_one 299)], ([], [], []), ([], []), [(.inr (some (.inl (ck_one 1))), 245, ([], [], []))])
set_option maxRecDepth 100000 in
theorem p5y4_1799_e : ck_ok p1_O none [] [] 287 [] 88 p5y4_1799 = true := by decide +kernel
theorem p5y4_1799_s {X : Int → Int} {LX : Nat} : ck_Ok p1_O X LX 287 p5y4_1799 := ck_ok_s (ck_E0) ck_X0 ck_l0 p5y4_1799_e
set_option maxRecDepth 100000 in
def p5y4_1800 : ck_Sum := ((1, 0, 0), 245, [.inl (ck_one 236)], ([], [], []), ([], []), [(.inr (some (.inl (ck_one 0))), 245, ([], [], []))])
set_option maxRecDepth 100000 in
theorem p5y4_1800_e : ck_ok p1_O none [] [(287, [p5y4_1799])] 286 [] 84 p5y4_1800 = true := by decide +kernel
theorem p5y4_1800_s {X : Int → Int} {LX : Nat} : ck_Ok p1_O X LX 286 p5y4_1800 := ck_ok_s (ck_E1 (ck_S1 p5y4_1799_s ck_S0) ck_E0) ck_X0 ck_l0 p5y4_1800_e
set_option maxRecDepth 100000 in
def p5y4_1801 : ck_Sum := ((2, 0, 0), 245, [.inr (.inr (.inl 226)), .inl (ck_one 236)], ([], [], [(234, 236, 236, ck_one 9)]), ([(226, 0, 0)], []), [(.inr (some (.inl (ck_one 9))), 245, ([], [], [(226, 0, 0, ck_one 0)]))])
set_option maxRecDepth 100000 in
theorem p5y4_1801_e : ck_ok p1_O none [] [(286, [p5y4_1800]), (283, [p5y4_147])] 285 [] 98 p5y4_1801 = true := by decide +kernel
theorem p5y4_1801_s {X : Int → Int} {LX : Nat} : ck_Ok p1_O X LX 285 p5y4_1801 := ck_ok_s (ck_E1 (ck_S1 p5y4_1800_s ck_S0) (ck_E1 (ck_S1 p5y4_147_s ck_S0) ck_E0)) ck_X0 ck_l0 p5y4_1801_e
set_option maxRecDepth 100000 in
def p5y4_1806 : ck_Sum := ((0, 0, 0), 245, [.inl (ck_one 237), .inl (ck_one 0), .inl (ck_one 299)], ([], [], []), ([], []), [(.inr (some (.inl (ck_one 1))), 245, ([], [], []))])
set_option maxRecDepth 100000 in
theorem p5y4_1806_e : ck_ok p1_O none [] [] 287 [] 88 p5y4_1806 = true := by decide +kernel
theorem p5y4_1806_s {X : Int → Int} {LX : Nat} : ck_Ok p1_O X LX 287 p5y4_1806 := ck_ok_s (ck_E0) ck_X0 ck_l0 p5y4_1806_e
set_option maxRecDepth 100000 in
def p5y4_1807 : ck_Sum := ((1, 0, 0), 245, [.inl (ck_one 237)], ([], [], []), ([], []), [(.inr (some (.inl (ck_one 0))), 245, ([], [], []))])
set_option maxRecDepth 100000 in
theorem p5y4_1807_e : ck_ok p1_O none [] [(287, [p5y4_1806])] 286 [] 84 p5y4_1807 = true := by decide +kernel
theorem p5y4_1807_s {X : Int → Int} {LX : Nat} : ck_Ok p1_O X LX 286 p5y4_1807 := ck_ok_s (ck_E1 (ck_S1 p5y4_1806_s ck_S0) ck_E0) ck_X0 ck_l0 p5y4_1807_e
set_option maxRecDepth 100000 in
def p5y4_1808 : ck_Sum := ((2, 0, 0), 245, [.inr (.inr (.inl 226)), .inl (ck_one 237)], ([], [], [(234, 237, 237, ck_one 4)]), ([(226, 0, 0)], []), [(.inr (some (.inl (ck_one 4))), 245, ([], [], [(226, 0, 0, ck_one 0)]))])
set_option maxRecDepth 100000 in
theorem p5y4_1808_e : ck_ok p1_O none [] [(286, [p5y4_1807]), (283, [p5y4_147])] 285 [] 98 p5y4_1808 = true := by decide +kernel
theorem p5y4_1808_s {X : Int → Int} {LX : Nat} : ck_Ok p1_O X LX 285 p5y4_1808 := ck_ok_s (ck_E1 (ck_S1 p5y4_1807_s ck_S0) (ck_E1 (ck_S1 p5y4_147_s ck_S0) ck_E0)) ck_X0 ck_l0 p5y4_1808_e
set_option maxRecDepth 100000 in
def p5y4_1813 : ck_Sum := ((0, 0, 0), 245, [.inl (ck_one 238), .inl (ck_one 0), .inl (ck_one 299)], ([], [], []), ([], []), [(.inr (some (.inl (ck_one 1))), 245, ([], [], []))])
set_option maxRecDepth 100000 in
theorem p5y4_1813_e : ck_ok p1_O none [] [] 287 [] 88 p5y4_1813 = true := by decide +kernel
theorem p5y4_1813_s {X : Int → Int} {LX : Nat} : ck_Ok p1_O X LX 287 p5y4_1813 := ck_ok_s (ck_E0) ck_X0 ck_l0 p5y4_1813_e
set_option maxRecDepth 100000 in
def p5y4_1814 : ck_Sum := ((1, 0, 0), 245, [.inl (ck_one 238)], ([], [], []), ([], []), [(.inr (some (.inl (ck_one 0))), 245, ([], [], []))])
set_option maxRecDepth 100000 in
theorem p5y4_1814_e : ck_ok p1_O none [] [(287, [p5y4_1813])] 286 [] 84 p5y4_1814 = true := by decide +kernel
theorem p5y4_1814_s {X : Int → Int} {LX : Nat} : ck_Ok p1_O X LX 286 p5y4_1814 := ck_ok_s (ck_E1 (ck_S1 p5y4_1813_s ck_S0) ck_E0) ck_X0 ck_l0 p5y4_1814_e
set_option maxRecDepth 100000 in
def p5y4_1815 : ck_Sum := ((2, 0, 0), 245, [.inr (.inr (.inl 226)), .inl (ck_one 238)], ([], [], [(234, 238, 238, ck_one 1)]), ([(226, 0, 0)], []), [(.inr (some (.inl (ck_one 1))), 245, ([], [], [(226, 0, 0, ck_one 0)]))])
set_option maxRecDepth 100000 in
theorem p5y4_1815_e : ck_ok p1_O none [] [(286, [p5y4_1814]), (283, [p5y4_147])] 285 [] 98 p5y4_1815 = true := by decide +kernel
theorem p5y4_1815_s {X : Int → Int} {LX : Nat} : ck_Ok p1_O X LX 285 p5y4_1815 := ck_ok_s (ck_E1 (ck_S1 p5y4_1814_s ck_S0) (ck_E1 (ck_S1 p5y4_147_s ck_S0) ck_E0)) ck_X0 ck_l0 p5y4_1815_e
set_option maxRecDepth 100000 in
def p5y4_1820 : ck_Sum := ((0, 0, 0), 245, [.inl (ck_one 239), .inl (ck_one 0), .inl (ck_one 299)], ([], [], []), ([], []), [(.inr (some (.inl (ck_one 1))), 245, ([], [], []))])
set_option maxRecDepth 100000 in
theorem p5y4_1820_e : ck_ok p1_O none [] [] 287 [] 88 p5y4_1820 = true := by decide +kernel
theorem p5y4_1820_s {X : Int → Int} {LX : Nat} : ck_Ok p1_O X LX 287 p5y4_1820 := ck_ok_s (ck_E0) ck_X0 ck_l0 p5y4_1820_e
set_option maxRecDepth 100000 in
def p5y4_1821 : ck_Sum := ((1, 0, 0), 245, [.inl (ck_one 239)], ([], [], []), ([], []), [(.inr (some (.inl (ck_one 0))), 245, ([], [], []))])
set_option maxRecDepth 100000 in
theorem p5y4_1821_e : ck_ok p1_O none [] [(287, [p5y4_1820])] 286 [] 84 p5y4_1821 = true := by decide +kernel
theorem p5y4_1821_s {X : Int → Int} {LX : Nat} : ck_Ok p1_O X LX 286 p5y4_1821 := ck_ok_s (ck_E1 (ck_S1 p5y4_1820_s ck_S0) ck_E0) ck_X0 ck_l0 p5y4_1821_e
set_option maxRecDepth 100000 in
def p5y4_1822 : ck_Sum := ((2, 0, 0), 245, [.inr (.inr (.inl 226)), .inl (ck_one 239)], ([], [], [(234, 239, 239, ck_one 9)]), ([(226, 0, 0)], []), [(.inr (some (.inl (ck_one 9))), 245, ([], [], [(226, 0, 0, ck_one 0)]))])
set_option maxRecDepth 100000 in
theorem p5y4_1822_e : ck_ok p1_O none [] [(286, [p5y4_1821]), (283, [p5y4_147])] 285 [] 98 p5y4_1822 = true := by decide +kernel
theorem p5y4_1822_s {X : Int → Int} {LX : Nat} : ck_Ok p1_O X LX 285 p5y4_1822 := ck_ok_s (ck_E1 (ck_S1 p5y4_1821_s ck_S0) (ck_E1 (ck_S1 p5y4_147_s ck_S0) ck_E0)) ck_X0 ck_l0 p5y4_1822_e
set_option maxRecDepth 100000 in
def p5y4_1827 : ck_Sum := ((0, 0, 0), 245, [.inl (ck_one 240), .inl (ck_one 0), .inl (ck_one 299)], ([], [], []), ([], []), [(.inr (some (.inl (ck_one 1))), 245, ([], [], []))])
set_option maxRecDepth 100000 in
theorem p5y4_1827_e : ck_ok p1_O none [] [] 287 [] 88 p5y4_1827 = true := by decide +kernel
theorem p5y4_1827_s {X : Int → Int} {LX : Nat} : ck_Ok p1_O X LX 287 p5y4_1827 := ck_ok_s (ck_E0) ck_X0 ck_l0 p5y4_1827_e
set_option maxRecDepth 100000 in
def p5y4_1828 : ck_Sum := ((1, 0, 0), 245, [.inl (ck_one 240)], ([], [], []), ([], []), [(.inr (some (.inl (ck_one 0))), 245, ([], [], []))])
set_option maxRecDepth 100000 in
theorem p5y4_1828_e : ck_ok p1_O none [] [(287, [p5y4_1827])] 286 [] 84 p5y4_1828 = true := by decide +kernel
theorem p5y4_1828_s {X : Int → Int} {LX : Nat} : ck_Ok p1_O X LX 286 p5y4_1828 := ck_ok_s (ck_E1 (ck_S1 p5y4_1827_s ck_S0) ck_E0) ck_X0 ck_l0 p5y4_1828_e
set_option maxRecDepth 100000 in
def p5y4_1829 : ck_Sum := ((2, 0, 0), 245, [.inr (.inr (.inl 226)), .inl (ck_one 240)], ([], [], [(234, 240, 240, ck_one 5)]), ([(226, 0, 0)], []), [(.inr (some (.inl (ck_one 5))), 245, ([], [], [(226, 0, 0, ck_one 0)]))])
set_option maxRecDepth 100000 in
theorem p5y4_1829_e : ck_ok p1_O none [] [(286, [p5y4_1828]), (283, [p5y4_147])] 285 [] 98 p5y4_1829 = true := by decide +kernel
theorem p5y4_1829_s {X : Int → Int} {LX : Nat} : ck_Ok p1_O X LX 285 p5y4_1829 := ck_ok_s (ck_E1 (ck_S1 p5y4_1828_s ck_S0) (ck_E1 (ck_S1 p5y4_147_s ck_S0) ck_E0)) ck_X0 ck_l0 p5y4_1829_e
set_option maxRecDepth 100000 in
def p5y4_1834 : ck_Sum := ((0, 0, 0), 245, [.inl (ck_one 241), .inl (ck_one 0), .inl (ck_one 299)], ([], [], []), ([], []), [(.inr (some (.inl (ck_one 1))), 245, ([], [], []))])
set_option maxRecDepth 100000 in
theorem p5y4_1834_e : ck_ok p1_O none [] [] 287 [] 88 p5y4_1834 = true := by decide +kernel
theorem p5y4_1834_s {X : Int → Int} {LX : Nat} : ck_Ok p1_O X LX 287 p5y4_1834 := ck_ok_s (ck_E0) ck_X0 ck_l0 p5y4_1834_e
set_option maxRecDepth 100000 in
def p5y4_1835 : ck_Sum := ((1, 0, 0), 245, [.inl (ck_one 241)], ([], [], []), ([], []), [(.inr (some (.inl (ck_one 0))), 245, ([], [], []))])
set_option maxRecDepth 100000 in
theorem p5y4_1835_e : ck_ok p1_O none [] [(287, [p5y4_1834])] 286 [] 84 p5y4_1835 = true := by decide +kernel
theorem p5y4_1835_s {X : Int → Int} {LX : Nat} : ck_Ok p1_O X LX 286 p5y4_1835 := ck_ok_s (ck_E1 (ck_S1 p5y4_1834_s ck_S0) ck_E0) ck_X0 ck_l0 p5y4_1835_e
set_option maxRecDepth 100000 in
def p5y4_1836 : ck_Sum := ((2, 0, 0), 245, [.inr (.inr (.inl 226)), .inl (ck_one 241)], ([], [], [(234, 241, 241, ck_one 5)]), ([(226, 0, 0)], []), [(.inr (some (.inl (ck_one 5))), 245, ([], [], [(226, 0, 0, ck_one 0)]))])
set_option maxRecDepth 100000 in
theorem p5y4_1836_e : ck_ok p1_O none [] [(286, [p5y4_1835]), (283, [p5y4_147])] 285 [] 98 p5y4_1836 = true := by decide +kernel
theorem p5y4_1836_s {X : Int → Int} {LX : Nat} : ck_Ok p1_O X LX 285 p5y4_1836 := ck_ok_s (ck_E1 (ck_S1 p5y4_1835_s ck_S0) (ck_E1 (ck_S1 p5y4_147_s ck_S0) ck_E0)) ck_X0 ck_l0 p5y4_1836_e
set_option maxRecDepth 100000 in
def p5y4_1841 : ck_Sum := ((0, 0, 0), 245, [.inl (ck_one 242), .inl (ck_one 0), .inl (ck_one 299)], ([], [], []), ([], []), [(.inr (some (.inl (ck_one 1))), 245, ([], [], []))])
set_option maxRecDepth 100000 in
theorem p5y4_1841_e : ck_ok p1_O none [] [] 287 [] 88 p5y4_1841 = true := by decide +kernel
theorem p5y4_1841_s {X : Int → Int} {LX : Nat} : ck_Ok p1_O X LX 287 p5y4_1841 := ck_ok_s (ck_E0) ck_X0 ck_l0 p5y4_1841_e
set_option maxRecDepth 100000 in
def p5y4_1842 : ck_Sum := ((1, 0, 0), 245, [.inl (ck_one 242)], ([], [], []), ([], []), [(.inr (some (.inl (ck_one 0))), 245, ([], [], []))])
set_option maxRecDepth 100000 in
theorem p5y4_1842_e : ck_ok p1_O none [] [(287, [p5y4_1841])] 286 [] 84 p5y4_1842 = true := by decide +kernel
theorem p5y4_1842_s {X : Int → Int} {LX : Nat} : ck_Ok p1_O X LX 286 p5y4_1842 := ck_ok_s (ck_E1 (ck_S1 p5y4_1841_s ck_S0) ck_E0) ck_X0 ck_l0 p5y4_1842_e
set_option maxRecDepth 100000 in
def p5y4_1843 : ck_Sum := ((2, 0, 0), 245, [.inr (.inr (.inl 226)), .inl (ck_one 242)], ([], [], [(234, 242, 242, ck_one 4)]), ([(226, 0, 0)], []), [(.inr (some (.inl (ck_one 4))), 245, ([], [], [(226, 0, 0, ck_one 0)]))])
set_option maxRecDepth 100000 in
theorem p5y4_1843_e : ck_ok p1_O none [] [(286, [p5y4_1842]), (283, [p5y4_147])] 285 [] 98 p5y4_1843 = true := by decide +kernel
theorem p5y4_1843_s {X : Int → Int} {LX : Nat} : ck_Ok p1_O X LX 285 p5y4_1843 := ck_ok_s (ck_E1 (ck_S1 p5y4_1842_s ck_S0) (ck_E1 (ck_S1 p5y4_147_s ck_S0) ck_E0)) ck_X0 ck_l0 p5y4_1843_e
set_option maxRecDepth 100000 in
def p5y4_1848 : ck_Sum := ((0, 0, 0), 245, [.inl (ck_one 243), .inl (ck_one 0), .inl (ck_one 299)], ([], [], []), ([], []), [(.inr (some (.inl (ck_one 1))), 245, ([], [], []))])
set_option maxRecDepth 100000 in
theorem p5y4_1848_e : ck_ok p1_O none [] [] 287 [] 88 p5y4_1848 = true := by decide +kernel
theorem p5y4_1848_s {X : Int → Int} {LX : Nat} : ck_Ok p1_O X LX 287 p5y4_1848 := ck_ok_s (ck_E0) ck_X0 ck_l0 p5y4_1848_e
set_option maxRecDepth 100000 in
def p5y4_1849 : ck_Sum := ((1, 0, 0), 245, [.inl (ck_one 243)], ([], [], []), ([], []), [(.inr (some (.inl (ck_one 0))), 245, ([], [], []))])
set_option maxRecDepth 100000 in
theorem p5y4_1849_e : ck_ok p1_O none [] [(287, [p5y4_1848])] 286 [] 84 p5y4_1849 = true := by decide +kernel
theorem p5y4_1849_s {X : Int → Int} {LX : Nat} : ck_Ok p1_O X LX 286 p5y4_1849 := ck_ok_s (ck_E1 (ck_S1 p5y4_1848_s ck_S0) ck_E0) ck_X0 ck_l0 p5y4_1849_e
set_option maxRecDepth 100000 in
def p5y4_1850 : ck_Sum := ((2, 0, 0), 245, [.inr (.inr (.inl 226)), .inl (ck_one 243)], ([], [], [(234, 243, 243, ck_one 0)]), ([(226, 0, 0)], []), [(.inr (some (.inl (ck_one 0))), 245, ([], [], [(226, 0, 0, ck_one 0)]))])
set_option maxRecDepth 100000 in
theorem p5y4_1850_e : ck_ok p1_O none [] [(286, [p5y4_1849]), (283, [p5y4_147])] 285 [] 98 p5y4_1850 = true := by decide +kernel
theorem p5y4_1850_s {X : Int → Int} {LX : Nat} : ck_Ok p1_O X LX 285 p5y4_1850 := ck_ok_s (ck_E1 (ck_S1 p5y4_1849_s ck_S0) (ck_E1 (ck_S1 p5y4_147_s ck_S0) ck_E0)) ck_X0 ck_l0 p5y4_1850_e
set_option maxRecDepth 100000 in
def p5y4_1855 : ck_Sum := ((0, 0, 0), 245, [.inl (ck_one 244), .inl (ck_one 0), .inl (ck_one 299)], ([], [], []), ([], []), [(.inr (some (.inl (ck_one 1))), 245, ([], [], []))])
set_option maxRecDepth 100000 in
theorem p5y4_1855_e : ck_ok p1_O none [] [] 287 [] 88 p5y4_1855 = true := by decide +kernel
theorem p5y4_1855_s {X : Int → Int} {LX : Nat} : ck_Ok p1_O X LX 287 p5y4_1855 := ck_ok_s (ck_E0) ck_X0 ck_l0 p5y4_1855_e
set_option maxRecDepth 100000 in
def p5y4_1856 : ck_Sum := ((1, 0, 0), 245, [.inl (ck_one 244)], ([], [], []), ([], []), [(.inr (some (.inl (ck_one 0))), 245, ([], [], []))])
set_option maxRecDepth 100000 in
theorem p5y4_1856_e : ck_ok p1_O none [] [(287, [p5y4_1855])] 286 [] 84 p5y4_1856 = true := by decide +kernel
theorem p5y4_1856_s {X : Int → Int} {LX : Nat} : ck_Ok p1_O X LX 286 p5y4_1856 := ck_ok_s (ck_E1 (ck_S1 p5y4_1855_s ck_S0) ck_E0) ck_X0 ck_l0 p5y4_1856_e
set_option maxRecDepth 100000 in
def p5y4_1857 : ck_Sum := ((2, 0, 0), 245, [.inr (.inr (.inl 226)), .inl (ck_one 244)], ([], [], [(234, 244, 244, ck_one 2)]), ([(226, 0, 0)], []), [(.inr (some (.inl (ck_one 2))), 245, ([], [], [(226, 0, 0, ck_one 0)]))])
set_option maxRecDepth 100000 in
theorem p5y4_1857_e : ck_ok p1_O none [] [(286, [p5y4_1856]), (283, [p5y4_147])] 285 [] 98 p5y4_1857 = true := by decide +kernel
theorem p5y4_1857_s {X : Int → Int} {LX : Nat} : ck_Ok p1_O X LX 285 p5y4_1857 := ck_ok_s (ck_E1 (ck_S1 p5y4_1856_s ck_S0) (ck_E1 (ck_S1 p5y4_147_s ck_S0) ck_E0)) ck_X0 ck_l0 p5y4_1857_e
set_option maxRecDepth 100000 in
def p5y4_1862 : ck_Sum := ((0, 0, 0), 245, [.inl (ck_one 245), .inl (ck_one 0), .inl (ck_one 299)], ([], [], []), ([], []), [(.inr (some (.inl (ck_one 1))), 245, ([], [], []))])
set_option maxRecDepth 100000 in
theorem p5y4_1862_e : ck_ok p1_O none [] [] 287 [] 88 p5y4_1862 = true := by decide +kernel
theorem p5y4_1862_s {X : Int → Int} {LX : Nat} : ck_Ok p1_O X LX 287 p5y4_1862 := ck_ok_s (ck_E0) ck_X0 ck_l0 p5y4_1862_e
set_option maxRecDepth 100000 in
def p5y4_1863 : ck_Sum := ((1, 0, 0), 245, [.inl (ck_one 245)], ([], [], []), ([], []), [(.inr (some (.inl (ck_one 0))), 245, ([], [], []))])
set_option maxRecDepth 100000 in
theorem p5y4_1863_e : ck_ok p1_O none [] [(287, [p5y4_1862])] 286 [] 84 p5y4_1863 = true := by decide +kernel
theorem p5y4_1863_s {X : Int → Int} {LX : Nat} : ck_Ok p1_O X LX 286 p5y4_1863 := ck_ok_s (ck_E1 (ck_S1 p5y4_1862_s ck_S0) ck_E0) ck_X0 ck_l0 p5y4_1863_e
set_option maxRecDepth 100000 in
def p5y4_1864 : ck_Sum := ((2, 0, 0), 245, [.inr (.inr (.inl 226)), .inl (ck_one 245)], ([], [], [(234, 245, 245, ck_one 5)]), ([(226, 0, 0)], []), [(.inr (some (.inl (ck_one 5))), 245, ([], [], [(226, 0, 0, ck_one 0)]))])
set_option maxRecDepth 100000 in
theorem p5y4_1864_e : ck_ok p1_O none [] [(286, [p5y4_1863]), (283, [p5y4_147])] 285 [] 98 p5y4_1864 = true := by decide +kernel
theorem p5y4_1864_s {X : Int → Int} {LX : Nat} : ck_Ok p1_O X LX 285 p5y4_1864 := ck_ok_s (ck_E1 (ck_S1 p5y4_1863_s ck_S0) (ck_E1 (ck_S1 p5y4_147_s ck_S0) ck_E0)) ck_X0 ck_l0 p5y4_1864_e
set_option maxRecDepth 100000 in
def p5y4_1869 : ck_Sum := ((0, 0, 0), 245, [.inl (ck_one 246), .inl (ck_one 0), .inl (ck_one 299)], ([], [], []), ([], []), [(.inr (some (.inl (ck_one 1))), 245, ([], [], []))])
set_option maxRecDepth 100000 in
theorem p5y4_1869_e : ck_ok p1_O none [] [] 287 [] 88 p5y4_1869 = true := by decide +kernel
theorem p5y4_1869_s {X : Int → Int} {LX : Nat} : ck_Ok p1_O X LX 287 p5y4_1869 := ck_ok_s (ck_E0) ck_X0 ck_l0 p5y4_1869_e
set_option maxRecDepth 100000 in
def p5y4_1870 : ck_Sum := ((1, 0, 0), 245, [.inl (ck_one 246)], ([], [], []), ([], []), [(.inr (some (.inl (ck_one 0))), 245, ([], [], []))])
set_option maxRecDepth 100000 in
theorem p5y4_1870_e : ck_ok p1_O none [] [(287, [p5y4_1869])] 286 [] 84 p5y4_1870 = true := by decide +kernel
theorem p5y4_1870_s {X : Int → Int} {LX : Nat} : ck_Ok p1_O X LX 286 p5y4_1870 := ck_ok_s (ck_E1 (ck_S1 p5y4_1869_s ck_S0) ck_E0) ck_X0 ck_l0 p5y4_1870_e
set_option maxRecDepth 100000 in
def p5y4_1871 : ck_Sum := ((2, 0, 0), 245, [.inr (.inr (.inl 226)), .inl (ck_one 246)], ([], [], [(234, 246, 246, ck_one 9)]), ([(226, 0, 0)], []), [(.inr (some (.inl (ck_one 9))), 245, ([], [], [(226, 0, 0, ck_one 0)]))])
set_option maxRecDepth 100000 in
theorem p5y4_1871_e : ck_ok p1_O none [] [(286, [p5y4_1870]), (283, [p5y4_147])] 285 [] 98 p5y4_1871 = true := by decide +kernel
theorem p5y4_1871_s {X : Int → Int} {LX : Nat} : ck_Ok p1_O X LX 285 p5y4_1871 := ck_ok_s (ck_E1 (ck_S1 p5y4_1870_s ck_S0) (ck_E1 (ck_S1 p5y4_147_s ck_S0) ck_E0)) ck_X0 ck_l0 p5y4_1871_e
set_option maxRecDepth 100000 in
def p5y4_1876 : ck_Sum := ((0, 0, 0), 245, [.inl (ck_one 247), .inl (ck_one 0), .inl (ck_one 299)], ([], [], []), ([], []), [(.inr (some (.inl (ck_one 1))), 245, ([], [], []))])
set_option maxRecDepth 100000 in
theorem p5y4_1876_e : ck_ok p1_O none [] [] 287 [] 88 p5y4_1876 = true := by decide +kernel
theorem p5y4_1876_s {X : Int → Int} {LX : Nat} : ck_Ok p1_O X LX 287 p5y4_1876 := ck_ok_s (ck_E0) ck_X0 ck_l0 p5y4_1876_e
set_option maxRecDepth 100000 in
def p5y4_1877 : ck_Sum := ((1, 0, 0), 245, [.inl (ck_one 247)], ([], [], []), ([], []), [(.inr (some (.inl (ck_one 0))), 245, ([], [], []))])
set_option maxRecDepth 100000 in
theorem p5y4_1877_e : ck_ok p1_O none [] [(287, [p5y4_1876])] 286 [] 84 p5y4_1877 = true := by decide +kernel
theorem p5y4_1877_s {X : Int → Int} {LX : Nat} : ck_Ok p1_O X LX 286 p5y4_1877 := ck_ok_s (ck_E1 (ck_S1 p5y4_1876_s ck_S0) ck_E0) ck_X0 ck_l0 p5y4_1877_e
set_option maxRecDepth 100000 in
def p5y4_1878 : ck_Sum := ((2, 0, 0), 245, [.inr (.inr (.inl 226)), .inl (ck_one 247)], ([], [], [(234, 247, 247, ck_one 2)]), ([(226, 0, 0)], []), [(.inr (some (.inl (ck_one 2))), 245, ([], [], [(226, 0, 0, ck_one 0)]))])
set_option maxRecDepth 100000 in
theorem p5y4_1878_e : ck_ok p1_O none [] [(286, [p5y4_1877]), (283, [p5y4_147])] 285 [] 98 p5y4_1878 = true := by decide +kernel
theorem p5y4_1878_s {X : Int → Int} {LX : Nat} : ck_Ok p1_O X LX 285 p5y4_1878 := ck_ok_s (ck_E1 (ck_S1 p5y4_1877_s ck_S0) (ck_E1 (ck_S1 p5y4_147_s ck_S0) ck_E0)) ck_X0 ck_l0 p5y4_1878_e
set_option maxRecDepth 100000 in
def p5y4_1883 : ck_Sum := ((0, 0, 0), 245, [.inl (ck_one 248), .inl (ck_one 0), .inl (ck_one 299)], ([], [], []), ([], []), [(.inr (some (.inl (ck_one 1))), 245, ([], [], []))])
set_option maxRecDepth 100000 in
theorem p5y4_1883_e : ck_ok p1_O none [] [] 287 [] 88 p5y4_1883 = true := by decide +kernel
theorem p5y4_1883_s {X : Int → Int} {LX : Nat} : ck_Ok p1_O X LX 287 p5y4_1883 := ck_ok_s (ck_E0) ck_X0 ck_l0 p5y4_1883_e
set_option maxRecDepth 100000 in
def p5y4_1884 : ck_Sum := ((1, 0, 0), 245, [.inl (ck_one 248)], ([], [], []), ([], []), [(.inr (some (.inl (ck_one 0))), 245, ([], [], []))])
set_option maxRecDepth 100000 in
theorem p5y4_1884_e : ck_ok p1_O none [] [(287, [p5y4_1883])] 286 [] 84 p5y4_1884 = true := by decide +kernel
theorem p5y4_1884_s {X : Int → Int} {LX : Nat} : ck_Ok p1_O X LX 286 p5y4_1884 := ck_ok_s (ck_E1 (ck_S1 p5y4_1883_s ck_S0) ck_E0) ck_X0 ck_l0 p5y4_1884_e
set_option maxRecDepth 100000 in
def p5y4_1885 : ck_Sum := ((2, 0, 0), 245, [.inr (.inr (.inl 226)), .inl (ck_one 248)], ([], [], [(234, 248, 248, ck_one 0)]), ([(226, 0, 0)], []), [(.inr (some (.inl (ck_one 0))), 245, ([], [], [(226, 0, 0, ck_one 0)]))])
set_option maxRecDepth 100000 in
theorem p5y4_1885_e : ck_ok p1_O none [] [(286, [p5y4_1884]), (283, [p5y4_147])] 285 [] 98 p5y4_1885 = true := by decide +kernel
theorem p5y4_1885_s {X : Int → Int} {LX : Nat} : ck_Ok p1_O X LX 285 p5y4_1885 := ck_ok_s (ck_E1 (ck_S1 p5y4_1884_s ck_S0) (ck_E1 (ck_S1 p5y4_147_s ck_S0) ck_E0)) ck_X0 ck_l0 p5y4_1885_e
set_option maxRecDepth 100000 in
def p5y4_1890 : ck_Sum := ((0, 0, 0), 245, [.inl (ck_one 249), .inl (ck_one 0), .inl (ck_one 299)], ([], [], []), ([], []), [(.inr (some (.inl (ck_one 1))), 245, ([], [], []))])
set_option maxRecDepth 100000 in
theorem p5y4_1890_e : ck_ok p1_O none [] [] 287 [] 88 p5y4_1890 = true := by decide +kernel
theorem p5y4_1890_s {X : Int → Int} {LX : Nat} : ck_Ok p1_O X LX 287 p5y4_1890 := ck_ok_s (ck_E0) ck_X0 ck_l0 p5y4_1890_e
set_option maxRecDepth 100000 in
def p5y4_1891 : ck_Sum := ((1, 0, 0), 245, [.inl (ck_one 249)], ([], [], []), ([], []), [(.inr (some (.inl (ck_one 0))), 245, ([], [], []))])
set_option maxRecDepth 100000 in
theorem p5y4_1891_e : ck_ok p1_O none [] [(287, [p5y4_1890])] 286 [] 84 p5y4_1891 = true := by decide +kernel
theorem p5y4_1891_s {X : Int → Int} {LX : Nat} : ck_Ok p1_O X LX 286 p5y4_1891 := ck_ok_s (ck_E1 (ck_S1 p5y4_1890_s ck_S0) ck_E0) ck_X0 ck_l0 p5y4_1891_e
set_option maxRecDepth 100000 in
def p5y4_1892 : ck_Sum := ((2, 0, 0), 245, [.inr (.inr (.inl 226)), .inl (ck_one 249)], ([], [], [(234, 249, 249, ck_one 0)]), ([(226, 0, 0)], []), [(.inr (some (.inl (ck_one 0))), 245, ([], [], [(226, 0, 0, ck_one 0)]))])
set_option maxRecDepth 100000 in
theorem p5y4_1892_e : ck_ok p1_O none [] [(286, [p5y4_1891]), (283, [p5y4_147])] 285 [] 98 p5y4_1892 = true := by decide +kernel
theorem p5y4_1892_s {X : Int → Int} {LX : Nat} : ck_Ok p1_O X LX 285 p5y4_1892 := ck_ok_s (ck_E1 (ck_S1 p5y4_1891_s ck_S0) (ck_E1 (ck_S1 p5y4_147_s ck_S0) ck_E0)) ck_X0 ck_l0 p5y4_1892_e
set_option maxRecDepth 100000 in
def p5y4_1897 : ck_Sum := ((0, 0, 0), 245, [.inl (ck_one 250), .inl (ck_one 0), .inl (ck_one 299)], ([], [], []), ([], []), [(.inr (some (.inl (ck_one 1))), 245, ([], [], []))])
set_option maxRecDepth 100000 in
theorem p5y4_1897_e : ck_ok p1_O none [] [] 287 [] 88 p5y4_1897 = true := by decide +kernel
theorem p5y4_1897_s {X : Int → Int} {LX : Nat} : ck_Ok p1_O X LX 287 p5y4_1897 := ck_ok_s (ck_E0) ck_X0 ck_l0 p5y4_1897_e
set_option maxRecDepth 100000 in
def p5y4_1898 : ck_Sum := ((1, 0, 0), 245, [.inl (ck_one 250)], ([], [], []), ([], []), [(.inr (some (.inl (ck_one 0))), 245, ([], [], []))])
set_option maxRecDepth 100000 in
theorem p5y4_1898_e : ck_ok p1_O none [] [(287, [p5y4_1897])] 286 [] 84 p5y4_1898 = true := by decide +kernel
theorem p5y4_1898_s {X : Int → Int} {LX : Nat} : ck_Ok p1_O X LX 286 p5y4_1898 := ck_ok_s (ck_E1 (ck_S1 p5y4_1897_s ck_S0) ck_E0) ck_X0 ck_l0 p5y4_1898_e
set_option maxRecDepth 100000 in
def p5y4_1899 : ck_Sum := ((2, 0, 0), 245, [.inr (.inr (.inl 226)), .inl (ck_one 250)], ([], [], [(234, 250, 250, ck_one 5)]), ([(226, 0, 0)], []), [(.inr (some (.inl (ck_one 5))), 245, ([], [], [(226, 0, 0, ck_one 0)]))])
set_option maxRecDepth 100000 in
theorem p5y4_1899_e : ck_ok p1_O none [] [(286, [p5y4_1898]), (283, [p5y4_147])] 285 [] 98 p5y4_1899 = true := by decide +kernel
theorem p5y4_1899_s {X : Int → Int} {LX : Nat} : ck_Ok p1_O X LX 285 p5y4_1899 := ck_ok_s (ck_E1 (ck_S1 p5y4_1898_s ck_S0) (ck_E1 (ck_S1 p5y4_147_s ck_S0) ck_E0)) ck_X0 ck_l0 p5y4_1899_e
set_option maxRecDepth 100000 in
def p5y4_1904 : ck_Sum := ((0, 0, 0), 245, [.inl (ck_one 251), .inl (ck_one 0), .inl (ck_one 299)], ([], [], []), ([], []), [(.inr (some (.inl (ck_one 1))), 245, ([], [], []))])
set_option maxRecDepth 100000 in
theorem p5y4_1904_e : ck_ok p1_O none [] [] 287 [] 88 p5y4_1904 = true := by decide +kernel
theorem p5y4_1904_s {X : Int → Int} {LX : Nat} : ck_Ok p1_O X LX 287 p5y4_1904 := ck_ok_s (ck_E0) ck_X0 ck_l0 p5y4_1904_e
set_option maxRecDepth 100000 in
def p5y4_1905 : ck_Sum := ((1, 0, 0), 245, [.inl (ck_one 251)], ([], [], []), ([], []), [(.inr (some (.inl (ck_one 0))), 245, ([], [], []))])
set_option maxRecDepth 100000 in
theorem p5y4_1905_e : ck_ok p1_O none [] [(287, [p5y4_1904])] 286 [] 84 p5y4_1905 = true := by decide +kernel
theorem p5y4_1905_s {X : Int → Int} {LX : Nat} : ck_Ok p1_O X LX 286 p5y4_1905 := ck_ok_s (ck_E1 (ck_S1 p5y4_1904_s ck_S0) ck_E0) ck_X0 ck_l0 p5y4_1905_e
set_option maxRecDepth 100000 in
def p5y4_1906 : ck_Sum := ((2, 0, 0), 245, [.inr (.inr (.inl 226)), .inl (ck_one 251)], ([], [], [(234, 251, 251, ck_one 8)]), ([(226, 0, 0)], []), [(.inr (some (.inl (ck_one 8))), 245, ([], [], [(226, 0, 0, ck_one 0)]))])
set_option maxRecDepth 100000 in
theorem p5y4_1906_e : ck_ok p1_O none [] [(286, [p5y4_1905]), (283, [p5y4_147])] 285 [] 98 p5y4_1906 = true := by decide +kernel
theorem p5y4_1906_s {X : Int → Int} {LX : Nat} : ck_Ok p1_O X LX 285 p5y4_1906 := ck_ok_s (ck_E1 (ck_S1 p5y4_1905_s ck_S0) (ck_E1 (ck_S1 p5y4_147_s ck_S0) ck_E0)) ck_X0 ck_l0 p5y4_1906_e
set_option maxRecDepth 100000 in
def p5y4_1911 : ck_Sum := ((0, 0, 0), 245, [.inl (ck_one 252), .inl (ck_one 0), .inl (ck_one 299)], ([], [], []), ([], []), [(.inr (some (.inl (ck_one 1))), 245, ([], [], []))])
set_option maxRecDepth 100000 in
theorem p5y4_1911_e : ck_ok p1_O none [] [] 287 [] 88 p5y4_1911 = true := by decide +kernel
theorem p5y4_1911_s {X : Int → Int} {LX : Nat} : ck_Ok p1_O X LX 287 p5y4_1911 := ck_ok_s (ck_E0) ck_X0 ck_l0 p5y4_1911_e
set_option maxRecDepth 100000 in
def p5y4_1912 : ck_Sum := ((1, 0, 0), 245, [.inl (ck_one 252)], ([], [], []), ([], []), [(.inr (some (.inl (ck_one 0))), 245, ([], [], []))])
set_option maxRecDepth 100000 in
theorem p5y4_1912_e : ck_ok p1_O none [] [(287, [p5y4_1911])] 286 [] 84 p5y4_1912 = true := by decide +kernel
theorem p5y4_1912_s {X : Int → Int} {LX : Nat} : ck_Ok p1_O X LX 286 p5y4_1912 := ck_ok_s (ck_E1 (ck_S1 p5y4_1911_s ck_S0) ck_E0) ck_X0 ck_l0 p5y4_1912_e
set_option maxRecDepth 100000 in
def p5y4_1913 : ck_Sum := ((2, 0, 0), 245, [.inr (.inr (.inl 226)), .inl (ck_one 252)], ([], [], [(234, 252, 252, ck_one 1)]), ([(226, 0, 0)], []), [(.inr (some (.inl (ck_one 1))), 245, ([], [], [(226, 0, 0, ck_one 0)]))])
set_option maxRecDepth 100000 in
theorem p5y4_1913_e : ck_ok p1_O none [] [(286, [p5y4_1912]), (283, [p5y4_147])] 285 [] 98 p5y4_1913 = true := by decide +kernel
theorem p5y4_1913_s {X : Int → Int} {LX : Nat} : ck_Ok p1_O X LX 285 p5y4_1913 := ck_ok_s (ck_E1 (ck_S1 p5y4_1912_s ck_S0) (ck_E1 (ck_S1 p5y4_147_s ck_S0) ck_E0)) ck_X0 ck_l0 p5y4_1913_e
set_option maxRecDepth 100000 in
def p5y4_1918 : ck_Sum := ((0, 0, 0), 245, [.inl (ck_one 253), .inl (ck_one 0), .inl (ck_one 299)], ([], [], []), ([], []), [(.inr (some (.inl (ck_one 1))), 245, ([], [], []))])
set_option maxRecDepth 100000 in
theorem p5y4_1918_e : ck_ok p1_O none [] [] 287 [] 88 p5y4_1918 = true := by decide +kernel
theorem p5y4_1918_s {X : Int → Int} {LX : Nat} : ck_Ok p1_O X LX 287 p5y4_1918 := ck_ok_s (ck_E0) ck_X0 ck_l0 p5y4_1918_e
set_option maxRecDepth 100000 in
def p5y4_1919 : ck_Sum := ((1, 0, 0), 245, [.inl (ck_one 253)], ([], [], []), ([], []), [(.inr (some (.inl (ck_one 0))), 245, ([], [], []))])
set_option maxRecDepth 100000 in
theorem p5y4_1919_e : ck_ok p1_O none [] [(287, [p5y4_1918])] 286 [] 84 p5y4_1919 = true := by decide +kernel
theorem p5y4_1919_s {X : Int → Int} {LX : Nat} : ck_Ok p1_O X LX 286 p5y4_1919 := ck_ok_s (ck_E1 (ck_S1 p5y4_1918_s ck_S0) ck_E0) ck_X0 ck_l0 p5y4_1919_e
set_option maxRecDepth 100000 in
def p5y4_1920 : ck_Sum := ((2, 0, 0), 245, [.inr (.inr (.inl 226)), .inl (ck_one 253)], ([], [], [(234, 253, 253, ck_one 9)]), ([(226, 0, 0)], []), [(.inr (some (.inl (ck_one 9))), 245, ([], [], [(226, 0, 0, ck_one 0)]))])
set_option maxRecDepth 100000 in
theorem p5y4_1920_e : ck_ok p1_O none [] [(286, [p5y4_1919]), (283, [p5y4_147])] 285 [] 98 p5y4_1920 = true := by decide +kernel
theorem p5y4_1920_s {X : Int → Int} {LX : Nat} : ck_Ok p1_O X LX 285 p5y4_1920 := ck_ok_s (ck_E1 (ck_S1 p5y4_1919_s ck_S0) (ck_E1 (ck_S1 p5y4_147_s ck_S0) ck_E0)) ck_X0 ck_l0 p5y4_1920_e
set_option maxRecDepth 100000 in
def p5y4_149 : ck_Sum := ((0, 0, 0), 245, [.inr (.inr (.inl 226))], ([], [], [(226, 0, 0, ck_one 0)]), ([], []), [(.inr (some (.inl (ck_one 0))), 245, ([], [], []))])
set_option maxRecDepth 100000 in
theorem p5y4_149_e : ck_ok p1_O none [] [] 234 [] 76 p5y4_149 = true := by decide +kernel
theorem p5y4_149_s {X : Int → Int} {LX : Nat} : ck_Ok p1_O X LX 234 p5y4_149 := ck_ok_s (ck_E0) ck_X0 ck_l0 p5y4_149_e
set_option maxRecDepth 100000 in
def p5y4_F : ck_F := ([], [(3, 8, 0), (16, 8, 0), (29, 8, 0), (44, 8, 0), (57, 8, 0), (70, 8, 0), (83, 8, 0), (96, 8, 0), (109, 8, 0), (122, 8, 0), (135, 8, 0), (148, 8, 0), (161, 8, 0), (174, 8, 0), (187, 8, 0)], [(245, 0, 0, ck_one 0), (234, 253, 253, ck_one 9), (234, 252, 252, ck_one 1), (234, 251, 251, ck_one 8), (234, 250, 250, ck_one 5), (234, 249, 249, ck_one 0), (234, 248, 248, ck_one 0), (234, 247, 247, ck_one 2), (234, 246, 246, ck_one 9), (234, 245, 245, ck_one 5), (234, 244, 244, ck_one 2), (234, 243, 243, ck_one 0), (234, 242, 242, ck_one 4), (234, 241, 241, ck_one 5), (234, 240, 240, ck_one 5), (234, 239, 239, ck_one 9), (234, 238, 238, ck_one 1), (234, 237, 237, ck_one 4), (234, 236, 236, ck_one 9), (234, 235, 235, ck_one 4), (234, 234, 234, ck_one 8), (234, 233, 233, ck_one 4), (234, 232, 232, ck_one 1), (234, 231, 231, ck_one 6), (234, 230, 230, ck_one 2), (234, 229, 229, ck_one 3), (234, 228, 228, ck_one 1), (234, 227, 227, ck_one 3), (234, 226, 226, ck_one 8), (234, 225, 225, ck_one 1), (234, 224, 224, ck_one 2), (234, 223, 223, ck_one 6), (234, 222, 222, ck_one 6), (234, 221, 221, ck_one 5), (234, 220, 220, ck_one 8), (234, 219, 219, ck_one 6), (234, 218, 218, ck_one 7), (234, 217, 217, ck_one 5), (234, 216, 216, ck_one 4), (234, 215, 215, ck_one 4), (234, 214, 214, ck_one 2), (234, 213, 213, ck_one 2), (234, 212, 212, ck_one 1), (234, 211, 211, ck_one 4), (234, 210, 210, ck_one 2), (234, 209, 209, ck_one 7), (234, 208, 208, ck_one 5), (234, 207, 207, ck_one 8), (234, 206, 206, ck_one 7), (234, 205, 205, ck_one 0), (234, 204, 204, ck_one 9), (234, 203, 203, ck_one 9), (226, 0, 0, ck_one 0), (201, 253, 253, ck_one 9), (201, 252, 252, ck_one 1), (201, 251, 251, ck_one 8), (201, 250, 250, ck_one 5), (201, 249, 249, ck_one 0), (201, 248, 248, ck_one 0), (201, 247, 247, ck_one 2), (201, 246, 246, ck_one 9), (201, 245, 245, ck_one 5), (201, 244, 244, ck_one 2), (201, 243, 243, ck_one 0), (201, 242, 242, ck_one 4), (201, 241, 241, ck_one 5), (201, 240, 240, ck_one 5), (201, 239, 239, ck_one 9), (201, 238, 238, ck_one 1), (201, 237, 237, ck_one 4), (201, 236, 236, ck_one 9), (201, 235, 235, ck_one 4), (201, 234, 234, ck_one 8), (201, 233, 233, ck_one 4), (201, 232, 232, ck_one 1), (201, 231, 231, ck_one 6), (201, 230, 230, ck_one 2), (201, 229, 229, ck_one 3), (201, 228, 228, ck_one 1), (201, 227, 227, ck_one 3), (201, 226, 226, ck_one 8), (201, 225, 225, ck_one 1), (201, 224, 224, ck_one 2), (201, 223, 223, ck_one 6), (201, 222, 222, ck_one 6), (201, 221, 221, ck_one 5), (201, 220, 220, ck_one 8), (201, 219, 219, ck_one 6), (201, 218, 218, ck_one 7), (201, 217, 217, ck_one 5), (201, 216, 216, ck_one 4), (201, 215, 215, ck_one 4), (201, 214, 214, ck_one 2), (201, 213, 213, ck_one 2), (201, 212, 212, ck_one 1), (201, 211, 211, ck_one 4), (201, 210, 210, ck_one 2), (201, 209, 209, ck_one 7), (201, 208, 208, ck_one 5), (201, 207, 207, ck_one 8), (201, 206, 206, ck_one 7), (201, 205, 205, ck_one 0), (201, 204, 204, ck_one 9), (201, 203, 203, ck_one 9)])
def p5y4_E : List (Nat × List ck_Sum) := [(127, [p5y4_1567, p5y4_1574, p5y4_1581, p5y4_1588, p5y4_1595, p5y4_1602, p5y4_1609, p5y4_1616, p5y4_1623, p5y4_1630, p5y4_1637, p5y4_1644, p5y4_1651, p5y4_1658, p5y4_1665, p5y4_1672, p5y4_1679, p5y4_1686, p5y4_1693, p5y4_1700, p5y4_1707, p5y4_1714, p5y4_1721, p5y4_1728, p5y4_1735, p5y4_1742, p5y4_1749, p5y4_1756, p5y4_1763, p5y4_1770, p5y4_1777, p5y4_1784, p5y4_1791, p5y4_1798, p5y4_1805, p5y4_1812, p5y4_1819, p5y4_1826, p5y4_1833, p5y4_1840, p5y4_1847, p5y4_1854, p5y4_1861, p5y4_1868, p5y4_1875, p5y4_1882, p5y4_1889, p5y4_1896, p5y4_1903, p5y4_1910, p5y4_1917]), (285, [p5y4_1570, p5y4_1577, p5y4_1584, p5y4_1591, p5y4_1598, p5y4_1605, p5y4_1612, p5y4_1619, p5y4_1626, p5y4_1633, p5y4_1640, p5y4_1647, p5y4_1654, p5y4_1661, p5y4_1668, p5y4_1675, p5y4_1682, p5y4_1689, p5y4_1696, p5y4_1703, p5y4_1710, p5y4_1717, p5y4_1724, p5y4_1731, p5y4_1738, p5y4_1745, p5y4_1752, p5y4_1759, p5y4_1766, p5y4_1773, p5y4_1780, p5y4_1787, p5y4_1794, p5y4_1801, p5y4_1808, p5y4_1815, p5y4_1822, p5y4_1829, p5y4_1836, p5y4_1843, p5y4_1850, p5y4_1857, p5y4_1864, p5y4_1871, p5y4_1878, p5y4_1885, p5y4_1892, p5y4_1899, p5y4_1906, p5y4_1913, p5y4_1920]), (234, [p5y4_149])]
set_option maxRecDepth 100000 in
theorem p5y4_h {X : Int → Int} {LX : Nat} : ck_OkE p1_O X LX p5y4_E := ck_E1 (ck_S1 p5y4_1567_s (ck_S1 p5y4_1574_s (ck_S1 p5y4_1581_s (ck_S1 p5y4_1588_s (ck_S1 p5y4_1595_s (ck_S1 p5y4_1602_s (ck_S1 p5y4_1609_s (ck_S1 p5y4_1616_s (ck_S1 p5y4_1623_s (ck_S1 p5y4_1630_s (ck_S1 p5y4_1637_s (ck_S1 p5y4_1644_s (ck_S1 p5y4_1651_s (ck_S1 p5y4_1658_s (ck_S1 p5y4_1665_s (ck_S1 p5y4_1672_s (ck_S1 p5y4_1679_s (ck_S1 p5y4_1686_s (ck_S1 p5y4_1693_s (ck_S1 p5y4_1700_s (ck_S1 p5y4_1707_s (ck_S1 p5y4_1714_s (ck_S1 p5y4_1721_s (ck_S1 p5y4_1728_s (ck_S1 p5y4_1735_s (ck_S1 p5y4_1742_s (ck_S1 p5y4_1749_s (ck_S1 p5y4_1756_s (ck_S1 p5y4_1763_s (ck_S1 p5y4_1770_s (ck_S1 p5y4_1777_s (ck_S1 p5y4_1784_s (ck_S1 p5y4_1791_s (ck_S1 p5y4_1798_s (ck_S1 p5y4_1805_s (ck_S1 p5y4_1812_s (ck_S1 p5y4_1819_s (ck_S1 p5y4_1826_s (ck_S1 p5y4_1833_s (ck_S1 p5y4_1840_s (ck_S1 p5y4_1847_s (ck_S1 p5y4_1854_s (ck_S1 p5y4_1861_s (ck_S1 p5y4_1868_s (ck_S1 p5y4_1875_s (ck_S1 p5y4_1882_s (ck_S1 p5y4_1889_s (ck_S1 p5y4_1896_s (ck_S1 p5y4_1903_s (ck_S1 p5y4_1910_s (ck_S1 p5y4_1917_s ck_S0))))))))))))))))))))))))))))))))))))))))))))))))))) (ck_E1 (ck_S1 p5y4_1570_s (ck_S1 p5y4_1577_s (ck_S1 p5y4_1584_s (ck_S1 p5y4_1591_s (ck_S1 p5y4_1598_s (ck_S1 p5y4_1605_s (ck_S1 p5y4_1612_s (ck_S1 p5y4_1619_s (ck_S1 p5y4_1626_s (ck_S1 p5y4_1633_s (ck_S1 p5y4_1640_s (ck_S1 p5y4_1647_s (ck_S1 p5y4_1654_s (ck_S1 p5y4_1661_s (ck_S1 p5y4_1668_s (ck_S1 p5y4_1675_s (ck_S1 p5y4_1682_s (ck_S1 p5y4_1689_s (ck_S1 p5y4_1696_s (ck_S1 p5y4_1703_s (ck_S1 p5y4_1710_s (ck_S1 p5y4_1717_s (ck_S1 p5y4_1724_s (ck_S1 p5y4_1731_s (ck_S1 p5y4_1738_s (ck_S1 p5y4_1745_s (ck_S1 p5y4_1752_s (ck_S1 p5y4_1759_s (ck_S1 p5y4_1766_s (ck_S1 p5y4_1773_s (ck_S1 p5y4_1780_s (ck_S1 p5y4_1787_s (ck_S1 p5y4_1794_s (ck_S1 p5y4_1801_s (ck_S1 p5y4_1808_s (ck_S1 p5y4_1815_s (ck_S1 p5y4_1822_s (ck_S1 p5y4_1829_s (ck_S1 p5y4_1836_s (ck_S1 p5y4_1843_s (ck_S1 p5y4_1850_s (ck_S1 p5y4_1857_s (ck_S1 p5y4_1864_s (ck_S1 p5y4_1871_s (ck_S1 p5y4_1878_s (ck_S1 p5y4_1885_s (ck_S1 p5y4_1892_s (ck_S1 p5y4_1899_s (ck_S1 p5y4_1906_s (ck_S1 p5y4_1913_s (ck_S1 p5y4_1920_s ck_S0))))))))))))))))))))))))))))))))))))))))))))))))))) (ck_E1 (ck_S1 p5y4_149_s ck_S0) ck_E0))
set_option maxRecDepth 100000 in
theorem p5y4_b : (ck_prod ((1, [(203, 203), (204, 204), (205, 205), (206, 206), (207, 207), (208, 208), (209, 209), (210, 210), (211, 211), (212, 212), (213, 213), (214, 214), (215, 215), (216, 216), (217, 217), (218, 218), (219, 219), (220, 220), (221, 221), (222, 222), (223, 223), (224, 224), (225, 225), (226, 226), (227, 227), (228, 228), (229, 229), (230, 230), (231, 231), (232, 232), (233, 233), (234, 234), (235, 235), (236, 236), (237, 237), (238, 238), (239, 239), (240, 240), (241, 241), (242, 242), (243, 243), (244, 244), (245, 245), (246, 246), (247, 247), (248, 248), (249, 249), (250, 250), (251, 251), (252, 252), (253, 253)]) :: [])).all (fun xf => ck_go p1_O (some 6) xf p5y4_E 370 280 245 p1_W p1_outs [] 132 false [] 1000 2000 443 p1_L [] 245 p5y4_F) = true := by decide +kernel
theorem p5y4_s {X : Int → Int} {LX : Nat} (hLX : 6 = LX) (hX : ∀ j, gm_ir (X j)) (h1 : 203 ≤ X 1) (h2 : X 1 ≤ 253) {σ : Nat → Int} {L : gm_L} {K0 K : gm_K} {R0 R : gm_R} {M0 M : gm_M} (hS : ck_St p1_O σ p1_W 245 K0 R0 M0 p1_L [] p5y4_F L [] 245 K R M) : gm_Wp X LX 280 1000 2000 370 443 L [] 245 K R M (ck_Q p1_O σ p1_W 245 K0 R0 M0 p1_outs) := ck_boxesR p5y4_h hLX hX h1 h2 (by decide +kernel) (by decide +kernel) p5y4_b hS
