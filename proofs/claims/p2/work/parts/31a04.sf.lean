/-! EVERY CALL ENDS, whatever was done before (laid by wip/am/p2g.py). -/
set_option maxRecDepth 100000 in
/-- GlacierMail.deep -/
def p2_s568 : ck_Sum := ((8, 2, 12), 245, [.inr (.inr (.inl 1)), .inl (0, 23, []), .inl ((-2147483648), (-1), [])], ([], [], []), ([], []), [(.inl 3, 245, ([], [], [])), (.inl 0, 245, ([], [], []))])
set_option maxRecDepth 100000 in
theorem p2_s568_e : ck_ok p2_O none [] [(143, [p2_s531]), (129, [p2_s276])] 150 [] 82 p2_s568 = true := by decide +kernel
theorem p2_s568_s {X : Int → Int} {LX : Nat} : ck_Ok p2_O X LX 150 p2_s568 := ck_ok_s ⟨p2_nmu, ck_E1 (ck_S1 p2_s531_s ck_S0) (ck_E1 (ck_S1 p2_s276_s ck_S0) ck_E0)⟩ ck_X0 ck_l0 p2_s568_e
set_option maxRecDepth 100000 in
/-- GlacierMail.deep -/
def p2_s569 : ck_Sum := ((8, 2, 12), 245, [.inr (.inr (.inl 1)), .inl (0, 23, []), .inl (300, 2147483647, [])], ([], [], []), ([], []), [(.inl 3, 245, ([], [], [])), (.inl 0, 245, ([], [], []))])
set_option maxRecDepth 100000 in
theorem p2_s569_e : ck_ok p2_O none [] [(143, [p2_s531]), (129, [p2_s278])] 150 [] 82 p2_s569 = true := by decide +kernel
theorem p2_s569_s {X : Int → Int} {LX : Nat} : ck_Ok p2_O X LX 150 p2_s569 := ck_ok_s ⟨p2_nmu, ck_E1 (ck_S1 p2_s531_s ck_S0) (ck_E1 (ck_S1 p2_s278_s ck_S0) ck_E0)⟩ ck_X0 ck_l0 p2_s569_e
set_option maxRecDepth 100000 in
/-- GlacierMail.deep -/
def p2_s570 : ck_Sum := ((8, 1, 6), 245, [.inr (.inr (.inl 1)), .inl (0, 23, []), .inl (0, 299, [])], ([], [(3, 8, 0)], []), ([(206, 2, 8)], []), [(.inl 3, 245, ([], [], [])), (.inr (some (.inl (0, 99, []))), 245, ([], [], [(206, 4, 4, ck_one (-1)), (206, 2, 2, ((-1), 299, []))])), (.inr (some (.inl (ck_one (-1)))), 245, ([], [], []))])
set_option maxRecDepth 100000 in
theorem p2_s570_e : ck_ok p2_O none [] [(143, [p2_s531]), (129, [p2_s280]), (10, [p2_s375]), (27, [p2_s379]), (148, [p2_s559])] 150 [] 122 p2_s570 = true := by decide +kernel
theorem p2_s570_s {X : Int → Int} {LX : Nat} : ck_Ok p2_O X LX 150 p2_s570 := ck_ok_s ⟨p2_nmu, ck_E1 (ck_S1 p2_s531_s ck_S0) (ck_E1 (ck_S1 p2_s280_s ck_S0) (ck_E1 (ck_S1 p2_s375_s ck_S0) (ck_E1 (ck_S1 p2_s379_s ck_S0) (ck_E1 (ck_S1 p2_s559_s ck_S0) ck_E0))))⟩ ck_X0 ck_l0 p2_s570_e
set_option maxRecDepth 100000 in
/-- GlacierMailModel.deep -/
def p2_s571 : ck_Sum := ((2, 0, 0), 245, [.inr (.inr (.inl 226)), .inl ((-2147483648), (-1), []), .inl ((-2147483648), 2147483647, [])], ([], [], [(227, 4, 4, (0, 24, [(22, 0)]))]), ([(226, 0, 0)], []), [(.inr (some (.inl (ck_one 0))), 245, ([], [], [(226, 0, 0, ck_one 1)]))])
set_option maxRecDepth 100000 in
theorem p2_s571_e : ck_ok p2_O none [] [(309, [p2_s538]), (282, [p2_s268])] 314 [] 94 p2_s571 = true := by decide +kernel
theorem p2_s571_s {X : Int → Int} {LX : Nat} : ck_Ok p2_O X LX 314 p2_s571 := ck_ok_s ⟨p2_nmu, ck_E1 (ck_S1 p2_s538_s ck_S0) (ck_E1 (ck_S1 p2_s268_s ck_S0) ck_E0)⟩ ck_X0 ck_l0 p2_s571_e
set_option maxRecDepth 100000 in
/-- GlacierMailModel.deep -/
def p2_s572 : ck_Sum := ((2, 0, 0), 245, [.inr (.inr (.inl 226)), .inl (24, 2147483647, []), .inl ((-2147483648), 2147483647, [])], ([], [], [(227, 4, 4, (0, 24, [(22, 0)]))]), ([(226, 0, 0)], []), [(.inr (some (.inl (ck_one 0))), 245, ([], [], [(226, 0, 0, ck_one 1)]))])
set_option maxRecDepth 100000 in
theorem p2_s572_e : ck_ok p2_O none [] [(309, [p2_s541]), (282, [p2_s268])] 314 [] 94 p2_s572 = true := by decide +kernel
theorem p2_s572_s {X : Int → Int} {LX : Nat} : ck_Ok p2_O X LX 314 p2_s572 := ck_ok_s ⟨p2_nmu, ck_E1 (ck_S1 p2_s541_s ck_S0) (ck_E1 (ck_S1 p2_s268_s ck_S0) ck_E0)⟩ ck_X0 ck_l0 p2_s572_e
set_option maxRecDepth 100000 in
/-- GlacierMailModel.deep -/
def p2_s573 : ck_Sum := ((2, 0, 0), 245, [.inr (.inr (.inl 226)), .inl (0, 23, []), .inl ((-2147483648), (-1), [])], ([], [], [(227, 4, 4, (0, 24, [(22, 0)]))]), ([(226, 0, 0)], []), [(.inr (some (.inl (ck_one 0))), 245, ([], [], [(226, 0, 0, (1, 2, []))]))])
set_option maxRecDepth 100000 in
theorem p2_s573_e : ck_ok p2_O none [] [(309, [p2_s544]), (282, [p2_s268, p2_s269, p2_s272]), (285, [p2_s284])] 314 [] 106 p2_s573 = true := by decide +kernel
theorem p2_s573_s {X : Int → Int} {LX : Nat} : ck_Ok p2_O X LX 314 p2_s573 := ck_ok_s ⟨p2_nmu, ck_E1 (ck_S1 p2_s544_s ck_S0) (ck_E1 (ck_S1 p2_s268_s (ck_S1 p2_s269_s (ck_S1 p2_s272_s ck_S0))) (ck_E1 (ck_S1 p2_s284_s ck_S0) ck_E0))⟩ ck_X0 ck_l0 p2_s573_e
set_option maxRecDepth 100000 in
/-- GlacierMailModel.deep -/
def p2_s574 : ck_Sum := ((2, 0, 0), 245, [.inr (.inr (.inl 226)), .inl (0, 23, []), .inl (300, 2147483647, [])], ([], [], [(227, 4, 4, (0, 24, [(22, 0)]))]), ([(226, 0, 0)], []), [(.inr (some (.inl (ck_one 0))), 245, ([], [], [(226, 0, 0, (1, 2, []))]))])
set_option maxRecDepth 100000 in
theorem p2_s574_e : ck_ok p2_O none [] [(309, [p2_s544]), (282, [p2_s268, p2_s269, p2_s272]), (285, [p2_s287])] 314 [] 106 p2_s574 = true := by decide +kernel
theorem p2_s574_s {X : Int → Int} {LX : Nat} : ck_Ok p2_O X LX 314 p2_s574 := ck_ok_s ⟨p2_nmu, ck_E1 (ck_S1 p2_s544_s ck_S0) (ck_E1 (ck_S1 p2_s268_s (ck_S1 p2_s269_s (ck_S1 p2_s272_s ck_S0))) (ck_E1 (ck_S1 p2_s287_s ck_S0) ck_E0))⟩ ck_X0 ck_l0 p2_s574_e
set_option maxRecDepth 100000 in
/-- GlacierMail.post -/
def p2_s576 : ck_Sum := ((8, 1, 6), 245, [.inr (.inr (.inl 1)), .inl ((-2147483648), (-1), []), .inl ((-2147483648), 2147483647, [])], ([], [], []), ([], []), [(.inl 3, 245, ([], [], []))])
set_option maxRecDepth 100000 in
theorem p2_s576_e : ck_ok p2_O none [] [(139, [p2_s362])] 152 [] 76 p2_s576 = true := by decide +kernel
theorem p2_s576_s {X : Int → Int} {LX : Nat} : ck_Ok p2_O X LX 152 p2_s576 := ck_ok_s ⟨p2_nmu, ck_E1 (ck_S1 p2_s362_s ck_S0) ck_E0⟩ ck_X0 ck_l0 p2_s576_e
set_option maxRecDepth 100000 in
/-- GlacierMail.post -/
def p2_s577 : ck_Sum := ((8, 1, 6), 245, [.inr (.inr (.inl 1)), .inl (8, 2147483647, []), .inl ((-2147483648), 2147483647, [])], ([], [], []), ([], []), [(.inl 3, 245, ([], [], []))])
set_option maxRecDepth 100000 in
theorem p2_s577_e : ck_ok p2_O none [] [(139, [p2_s365])] 152 [] 76 p2_s577 = true := by decide +kernel
theorem p2_s577_s {X : Int → Int} {LX : Nat} : ck_Ok p2_O X LX 152 p2_s577 := ck_ok_s ⟨p2_nmu, ck_E1 (ck_S1 p2_s365_s ck_S0) ck_E0⟩ ck_X0 ck_l0 p2_s577_e
set_option maxRecDepth 100000 in
/-- GlacierMail.post -/
def p2_s578 : ck_Sum := ((8, 2, 12), 245, [.inr (.inr (.inl 1)), .inl (0, 7, []), .inl ((-2147483648), (-1), [])], ([], [], []), ([], []), [(.inl 3, 245, ([], [], []))])
set_option maxRecDepth 100000 in
theorem p2_s578_e : ck_ok p2_O none [] [(139, [p2_s368, p2_s362])] 152 [] 82 p2_s578 = true := by decide +kernel
theorem p2_s578_s {X : Int → Int} {LX : Nat} : ck_Ok p2_O X LX 152 p2_s578 := ck_ok_s ⟨p2_nmu, ck_E1 (ck_S1 p2_s368_s (ck_S1 p2_s362_s ck_S0)) ck_E0⟩ ck_X0 ck_l0 p2_s578_e
set_option maxRecDepth 100000 in
/-- GlacierMail.post -/
def p2_s579 : ck_Sum := ((8, 2, 12), 245, [.inr (.inr (.inl 1)), .inl (0, 7, []), .inl (8, 2147483647, [])], ([], [], []), ([], []), [(.inl 3, 245, ([], [], []))])
set_option maxRecDepth 100000 in
theorem p2_s579_e : ck_ok p2_O none [] [(139, [p2_s368, p2_s365])] 152 [] 82 p2_s579 = true := by decide +kernel
theorem p2_s579_s {X : Int → Int} {LX : Nat} : ck_Ok p2_O X LX 152 p2_s579 := ck_ok_s ⟨p2_nmu, ck_E1 (ck_S1 p2_s368_s (ck_S1 p2_s365_s ck_S0)) ck_E0⟩ ck_X0 ck_l0 p2_s579_e
set_option maxRecDepth 100000 in
/-- GlacierMail.needUnlike -/
def p2_s580 : ck_Sum := ((6, 1, 6), 245, [.inr (.inr (.inl 1)), .inl (0, 7, []), .inl (0, 7, [])], ([], [], []), ([], []), [(.inr none, 245, ([], [], [])), (.inl 0, 245, ([], [], []))])
set_option maxRecDepth 100000 in
theorem p2_s580_e : ck_ok p2_O none [] [] 153 [] 78 p2_s580 = true := by decide +kernel
theorem p2_s580_s {X : Int → Int} {LX : Nat} : ck_Ok p2_O X LX 153 p2_s580 := ck_ok_s ⟨p2_nmu, ck_E0⟩ ck_X0 ck_l0 p2_s580_e
set_option maxRecDepth 100000 in
/-- GlacierMail$Rows.isFull -/
def p2_s581 : ck_Sum := ((0, 0, 0), 245, [.inr (.inr (.inl 10))], ([], [], []), ([], []), [(.inr (some (.inl (ck_one 0))), 245, ([], [], [(10, 3, 3, (0, 23, []))])), (.inr (some (.inl (ck_one 1))), 245, ([], [], [(10, 3, 3, ck_one 24)]))])
set_option maxRecDepth 100000 in
theorem p2_s581_e : ck_ok p2_O none [] [] 108 [] 86 p2_s581 = true := by decide +kernel
theorem p2_s581_s {X : Int → Int} {LX : Nat} : ck_Ok p2_O X LX 108 p2_s581 := ck_ok_s ⟨p2_nmu, ck_E0⟩ ck_X0 ck_l0 p2_s581_e
set_option maxRecDepth 100000 in
/-- GlacierMail$History.at -/
def p2_s582 : ck_Sum := ((0, 0, 0), 245, [.inr (.inr (.inl 42)), .inl (0, 12, [])], ([], [], []), ([], []), [(.inr (some (.inr (.inr (.inl 0)))), 245, ([], [], [])), (.inr (some (.inr (.inr (.inl 44)))), 245, ([], [], [])), (.inr (some (.inr (.inr (.inl 187)))), 245, ([], [], [])), (.inr (some (.inr (.inr (.inl 174)))), 245, ([], [], [])), (.inr (some (.inr (.inr (.inl 161)))), 245, ([], [], [])), (.inr (some (.inr (.inr (.inl 148)))), 245, ([], [], [])), (.inr (some (.inr (.inr (.inl 135)))), 245, ([], [], [])), (.inr (some (.inr (.inr (.inl 122)))), 245, ([], [], [])), (.inr (some (.inr (.inr (.inl 109)))), 245, ([], [], [])), (.inr (some (.inr (.inr (.inl 96)))), 245, ([], [], [])), (.inr (some (.inr (.inr (.inl 83)))), 245, ([], [], [])), (.inr (some (.inr (.inr (.inl 70)))), 245, ([], [], [])), (.inr (some (.inr (.inr (.inl 57)))), 245, ([], [], []))])
set_option maxRecDepth 100000 in
theorem p2_s582_e : ck_ok p2_O none [] [] 56 [] 96 p2_s582 = true := by decide +kernel
theorem p2_s582_s {X : Int → Int} {LX : Nat} : ck_Ok p2_O X LX 56 p2_s582 := ck_ok_s ⟨p2_nmu, ck_E0⟩ ck_X0 ck_l0 p2_s582_e
set_option maxRecDepth 100000 in
/-- GlacierMail$Rows.copyFrom -/
def p2_s583 : ck_Sum := ((1, 0, 0), 245, [.inr (.inr (.inl 58)), .inr (.inr (.inl 4))], ([], [], []), ([(58, 3, 3), (59, 0, 55)], []), [(.inr none, 245, ([], [], []))])
set_option maxRecDepth 100000 in
theorem p2_s583_e : ck_ok p2_O none [] [] 58 [] 114 p2_s583 = true := by decide +kernel
theorem p2_s583_s {X : Int → Int} {LX : Nat} : ck_Ok p2_O X LX 58 p2_s583 := ck_ok_s ⟨p2_nmu, ck_E0⟩ ck_X0 ck_l0 p2_s583_e
set_option maxRecDepth 100000 in
/-- GlacierMail$Rows.copyFrom -/
def p2_s584 : ck_Sum := ((1, 0, 0), 245, [.inr (.inr (.inl 60)), .inr (.inr (.inl 6))], ([], [], []), ([(60, 3, 3), (61, 0, 23)], []), [(.inr none, 245, ([], [], []))])
set_option maxRecDepth 100000 in
theorem p2_s584_e : ck_ok p2_O none [] [] 58 [] 114 p2_s584 = true := by decide +kernel
theorem p2_s584_s {X : Int → Int} {LX : Nat} : ck_Ok p2_O X LX 58 p2_s584 := ck_ok_s ⟨p2_nmu, ck_E0⟩ ck_X0 ck_l0 p2_s584_e
set_option maxRecDepth 100000 in
/-- GlacierMail$Rows.copyFrom -/
def p2_s585 : ck_Sum := ((1, 0, 0), 245, [.inr (.inr (.inl 62)), .inr (.inr (.inl 8))], ([], [], []), ([(62, 3, 3), (63, 0, 23)], []), [(.inr none, 245, ([], [], []))])
set_option maxRecDepth 100000 in
theorem p2_s585_e : ck_ok p2_O none [] [] 58 [] 114 p2_s585 = true := by decide +kernel
theorem p2_s585_s {X : Int → Int} {LX : Nat} : ck_Ok p2_O X LX 58 p2_s585 := ck_ok_s ⟨p2_nmu, ck_E0⟩ ck_X0 ck_l0 p2_s585_e
set_option maxRecDepth 100000 in
/-- GlacierMail$Rows.copyFrom -/
def p2_s586 : ck_Sum := ((1, 0, 0), 245, [.inr (.inr (.inl 64)), .inr (.inr (.inl 10))], ([], [], []), ([(64, 3, 3), (65, 0, 167)], []), [(.inr none, 245, ([], [], []))])
set_option maxRecDepth 100000 in
theorem p2_s586_e : ck_ok p2_O none [] [] 58 [] 114 p2_s586 = true := by decide +kernel
theorem p2_s586_s {X : Int → Int} {LX : Nat} : ck_Ok p2_O X LX 58 p2_s586 := ck_ok_s ⟨p2_nmu, ck_E0⟩ ck_X0 ck_l0 p2_s586_e
set_option maxRecDepth 100000 in
/-- GlacierMail$Rows.copyFrom -/
def p2_s587 : ck_Sum := ((1, 0, 0), 245, [.inr (.inr (.inl 66)), .inr (.inr (.inl 12))], ([], [], []), ([(66, 3, 3), (67, 0, 35)], []), [(.inr none, 245, ([], [], []))])
set_option maxRecDepth 100000 in
theorem p2_s587_e : ck_ok p2_O none [] [] 58 [] 114 p2_s587 = true := by decide +kernel
theorem p2_s587_s {X : Int → Int} {LX : Nat} : ck_Ok p2_O X LX 58 p2_s587 := ck_ok_s ⟨p2_nmu, ck_E0⟩ ck_X0 ck_l0 p2_s587_e
set_option maxRecDepth 100000 in
/-- GlacierMail$Rows.copyFrom -/
def p2_s588 : ck_Sum := ((1, 0, 0), 245, [.inr (.inr (.inl 68)), .inr (.inr (.inl 14))], ([], [], []), ([(68, 3, 3), (69, 0, 71)], []), [(.inr none, 245, ([], [], []))])
set_option maxRecDepth 100000 in
theorem p2_s588_e : ck_ok p2_O none [] [] 58 [] 114 p2_s588 = true := by decide +kernel
theorem p2_s588_s {X : Int → Int} {LX : Nat} : ck_Ok p2_O X LX 58 p2_s588 := ck_ok_s ⟨p2_nmu, ck_E0⟩ ck_X0 ck_l0 p2_s588_e
set_option maxRecDepth 100000 in
/-- GlacierMail$State.copyFrom -/
def p2_s589 : ck_Sum := ((2, 0, 0), 245, [.inr (.inr (.inl 57)), .inr (.inr (.inl 3))], ([], [(3, 8, 0), (57, 8, 100057)], [(3, 6, 6, (0, 299, [(10, 0)]))]), ([(57, 0, 7), (58, 3, 3), (59, 0, 55), (60, 3, 3), (61, 0, 23), (62, 3, 3), (63, 0, 23), (64, 3, 3), (65, 0, 167), (66, 3, 3), (67, 0, 35), (68, 3, 3), (69, 0, 71)], [(57, 8)]), [(.inr none, 245, ([], [(57, 8, 0)], [(57, 6, 6, (0, 299, [(10, 0)]))]))])
set_option maxRecDepth 100000 in
theorem p2_s589_e : ck_ok p2_O none [] [(58, [p2_s583, p2_s584, p2_s585, p2_s586, p2_s587, p2_s588])] 57 [] 204 p2_s589 = true := by decide +kernel
theorem p2_s589_s {X : Int → Int} {LX : Nat} : ck_Ok p2_O X LX 57 p2_s589 := ck_ok_s ⟨p2_nmu, ck_E1 (ck_S1 p2_s583_s (ck_S1 p2_s584_s (ck_S1 p2_s585_s (ck_S1 p2_s586_s (ck_S1 p2_s587_s (ck_S1 p2_s588_s ck_S0)))))) ck_E0⟩ ck_X0 ck_l0 p2_s589_e
set_option maxRecDepth 100000 in
/-- GlacierMail$Rows.copyFrom -/
def p2_s590 : ck_Sum := ((1, 0, 0), 245, [.inr (.inr (.inl 71)), .inr (.inr (.inl 4))], ([], [], []), ([(71, 3, 3), (72, 0, 55)], []), [(.inr none, 245, ([], [], []))])
set_option maxRecDepth 100000 in
theorem p2_s590_e : ck_ok p2_O none [] [] 58 [] 114 p2_s590 = true := by decide +kernel
theorem p2_s590_s {X : Int → Int} {LX : Nat} : ck_Ok p2_O X LX 58 p2_s590 := ck_ok_s ⟨p2_nmu, ck_E0⟩ ck_X0 ck_l0 p2_s590_e
set_option maxRecDepth 100000 in
/-- GlacierMail$Rows.copyFrom -/
def p2_s591 : ck_Sum := ((1, 0, 0), 245, [.inr (.inr (.inl 73)), .inr (.inr (.inl 6))], ([], [], []), ([(73, 3, 3), (74, 0, 23)], []), [(.inr none, 245, ([], [], []))])
set_option maxRecDepth 100000 in
theorem p2_s591_e : ck_ok p2_O none [] [] 58 [] 114 p2_s591 = true := by decide +kernel
theorem p2_s591_s {X : Int → Int} {LX : Nat} : ck_Ok p2_O X LX 58 p2_s591 := ck_ok_s ⟨p2_nmu, ck_E0⟩ ck_X0 ck_l0 p2_s591_e
set_option maxRecDepth 100000 in
/-- GlacierMail$Rows.copyFrom -/
def p2_s592 : ck_Sum := ((1, 0, 0), 245, [.inr (.inr (.inl 75)), .inr (.inr (.inl 8))], ([], [], []), ([(75, 3, 3), (76, 0, 23)], []), [(.inr none, 245, ([], [], []))])
set_option maxRecDepth 100000 in
theorem p2_s592_e : ck_ok p2_O none [] [] 58 [] 114 p2_s592 = true := by decide +kernel
theorem p2_s592_s {X : Int → Int} {LX : Nat} : ck_Ok p2_O X LX 58 p2_s592 := ck_ok_s ⟨p2_nmu, ck_E0⟩ ck_X0 ck_l0 p2_s592_e
set_option maxRecDepth 100000 in
/-- GlacierMail$Rows.copyFrom -/
def p2_s593 : ck_Sum := ((1, 0, 0), 245, [.inr (.inr (.inl 77)), .inr (.inr (.inl 10))], ([], [], []), ([(77, 3, 3), (78, 0, 167)], []), [(.inr none, 245, ([], [], []))])
set_option maxRecDepth 100000 in
theorem p2_s593_e : ck_ok p2_O none [] [] 58 [] 114 p2_s593 = true := by decide +kernel
theorem p2_s593_s {X : Int → Int} {LX : Nat} : ck_Ok p2_O X LX 58 p2_s593 := ck_ok_s ⟨p2_nmu, ck_E0⟩ ck_X0 ck_l0 p2_s593_e
set_option maxRecDepth 100000 in
/-- GlacierMail$Rows.copyFrom -/
def p2_s594 : ck_Sum := ((1, 0, 0), 245, [.inr (.inr (.inl 79)), .inr (.inr (.inl 12))], ([], [], []), ([(79, 3, 3), (80, 0, 35)], []), [(.inr none, 245, ([], [], []))])
set_option maxRecDepth 100000 in
theorem p2_s594_e : ck_ok p2_O none [] [] 58 [] 114 p2_s594 = true := by decide +kernel
theorem p2_s594_s {X : Int → Int} {LX : Nat} : ck_Ok p2_O X LX 58 p2_s594 := ck_ok_s ⟨p2_nmu, ck_E0⟩ ck_X0 ck_l0 p2_s594_e
set_option maxRecDepth 100000 in
/-- GlacierMail$Rows.copyFrom -/
def p2_s595 : ck_Sum := ((1, 0, 0), 245, [.inr (.inr (.inl 81)), .inr (.inr (.inl 14))], ([], [], []), ([(81, 3, 3), (82, 0, 71)], []), [(.inr none, 245, ([], [], []))])
set_option maxRecDepth 100000 in
theorem p2_s595_e : ck_ok p2_O none [] [] 58 [] 114 p2_s595 = true := by decide +kernel
theorem p2_s595_s {X : Int → Int} {LX : Nat} : ck_Ok p2_O X LX 58 p2_s595 := ck_ok_s ⟨p2_nmu, ck_E0⟩ ck_X0 ck_l0 p2_s595_e
set_option maxRecDepth 100000 in
/-- GlacierMail$State.copyFrom -/
def p2_s596 : ck_Sum := ((2, 0, 0), 245, [.inr (.inr (.inl 70)), .inr (.inr (.inl 3))], ([], [(3, 8, 0), (70, 8, 100070)], [(3, 6, 6, (0, 299, [(10, 0)]))]), ([(70, 0, 7), (71, 3, 3), (72, 0, 55), (73, 3, 3), (74, 0, 23), (75, 3, 3), (76, 0, 23), (77, 3, 3), (78, 0, 167), (79, 3, 3), (80, 0, 35), (81, 3, 3), (82, 0, 71)], [(70, 8)]), [(.inr none, 245, ([], [(70, 8, 0)], [(70, 6, 6, (0, 299, [(10, 0)]))]))])
set_option maxRecDepth 100000 in
theorem p2_s596_e : ck_ok p2_O none [] [(58, [p2_s590, p2_s591, p2_s592, p2_s593, p2_s594, p2_s595])] 57 [] 204 p2_s596 = true := by decide +kernel
theorem p2_s596_s {X : Int → Int} {LX : Nat} : ck_Ok p2_O X LX 57 p2_s596 := ck_ok_s ⟨p2_nmu, ck_E1 (ck_S1 p2_s590_s (ck_S1 p2_s591_s (ck_S1 p2_s592_s (ck_S1 p2_s593_s (ck_S1 p2_s594_s (ck_S1 p2_s595_s ck_S0)))))) ck_E0⟩ ck_X0 ck_l0 p2_s596_e
set_option maxRecDepth 100000 in
/-- GlacierMail$Rows.copyFrom -/
def p2_s597 : ck_Sum := ((1, 0, 0), 245, [.inr (.inr (.inl 84)), .inr (.inr (.inl 4))], ([], [], []), ([(84, 3, 3), (85, 0, 55)], []), [(.inr none, 245, ([], [], []))])
set_option maxRecDepth 100000 in
theorem p2_s597_e : ck_ok p2_O none [] [] 58 [] 114 p2_s597 = true := by decide +kernel
theorem p2_s597_s {X : Int → Int} {LX : Nat} : ck_Ok p2_O X LX 58 p2_s597 := ck_ok_s ⟨p2_nmu, ck_E0⟩ ck_X0 ck_l0 p2_s597_e
set_option maxRecDepth 100000 in
/-- GlacierMail$Rows.copyFrom -/
def p2_s598 : ck_Sum := ((1, 0, 0), 245, [.inr (.inr (.inl 86)), .inr (.inr (.inl 6))], ([], [], []), ([(86, 3, 3), (87, 0, 23)], []), [(.inr none, 245, ([], [], []))])
set_option maxRecDepth 100000 in
theorem p2_s598_e : ck_ok p2_O none [] [] 58 [] 114 p2_s598 = true := by decide +kernel
theorem p2_s598_s {X : Int → Int} {LX : Nat} : ck_Ok p2_O X LX 58 p2_s598 := ck_ok_s ⟨p2_nmu, ck_E0⟩ ck_X0 ck_l0 p2_s598_e
set_option maxRecDepth 100000 in
/-- GlacierMail$Rows.copyFrom -/
def p2_s599 : ck_Sum := ((1, 0, 0), 245, [.inr (.inr (.inl 88)), .inr (.inr (.inl 8))], ([], [], []), ([(88, 3, 3), (89, 0, 23)], []), [(.inr none, 245, ([], [], []))])
set_option maxRecDepth 100000 in
theorem p2_s599_e : ck_ok p2_O none [] [] 58 [] 114 p2_s599 = true := by decide +kernel
theorem p2_s599_s {X : Int → Int} {LX : Nat} : ck_Ok p2_O X LX 58 p2_s599 := ck_ok_s ⟨p2_nmu, ck_E0⟩ ck_X0 ck_l0 p2_s599_e
set_option maxRecDepth 100000 in
/-- GlacierMail$Rows.copyFrom -/
def p2_s600 : ck_Sum := ((1, 0, 0), 245, [.inr (.inr (.inl 90)), .inr (.inr (.inl 10))], ([], [], []), ([(90, 3, 3), (91, 0, 167)], []), [(.inr none, 245, ([], [], []))])
set_option maxRecDepth 100000 in
theorem p2_s600_e : ck_ok p2_O none [] [] 58 [] 114 p2_s600 = true := by decide +kernel
theorem p2_s600_s {X : Int → Int} {LX : Nat} : ck_Ok p2_O X LX 58 p2_s600 := ck_ok_s ⟨p2_nmu, ck_E0⟩ ck_X0 ck_l0 p2_s600_e
set_option maxRecDepth 100000 in
/-- GlacierMail$Rows.copyFrom -/
def p2_s601 : ck_Sum := ((1, 0, 0), 245, [.inr (.inr (.inl 92)), .inr (.inr (.inl 12))], ([], [], []), ([(92, 3, 3), (93, 0, 35)], []), [(.inr none, 245, ([], [], []))])
set_option maxRecDepth 100000 in
theorem p2_s601_e : ck_ok p2_O none [] [] 58 [] 114 p2_s601 = true := by decide +kernel
theorem p2_s601_s {X : Int → Int} {LX : Nat} : ck_Ok p2_O X LX 58 p2_s601 := ck_ok_s ⟨p2_nmu, ck_E0⟩ ck_X0 ck_l0 p2_s601_e
set_option maxRecDepth 100000 in
/-- GlacierMail$Rows.copyFrom -/
def p2_s602 : ck_Sum := ((1, 0, 0), 245, [.inr (.inr (.inl 94)), .inr (.inr (.inl 14))], ([], [], []), ([(94, 3, 3), (95, 0, 71)], []), [(.inr none, 245, ([], [], []))])
set_option maxRecDepth 100000 in
theorem p2_s602_e : ck_ok p2_O none [] [] 58 [] 114 p2_s602 = true := by decide +kernel
theorem p2_s602_s {X : Int → Int} {LX : Nat} : ck_Ok p2_O X LX 58 p2_s602 := ck_ok_s ⟨p2_nmu, ck_E0⟩ ck_X0 ck_l0 p2_s602_e
set_option maxRecDepth 100000 in
/-- GlacierMail$State.copyFrom -/
def p2_s603 : ck_Sum := ((2, 0, 0), 245, [.inr (.inr (.inl 83)), .inr (.inr (.inl 3))], ([], [(3, 8, 0), (83, 8, 100083)], [(3, 6, 6, (0, 299, [(10, 0)]))]), ([(83, 0, 7), (84, 3, 3), (85, 0, 55), (86, 3, 3), (87, 0, 23), (88, 3, 3), (89, 0, 23), (90, 3, 3), (91, 0, 167), (92, 3, 3), (93, 0, 35), (94, 3, 3), (95, 0, 71)], [(83, 8)]), [(.inr none, 245, ([], [(83, 8, 0)], [(83, 6, 6, (0, 299, [(10, 0)]))]))])
set_option maxRecDepth 100000 in
theorem p2_s603_e : ck_ok p2_O none [] [(58, [p2_s597, p2_s598, p2_s599, p2_s600, p2_s601, p2_s602])] 57 [] 204 p2_s603 = true := by decide +kernel
theorem p2_s603_s {X : Int → Int} {LX : Nat} : ck_Ok p2_O X LX 57 p2_s603 := ck_ok_s ⟨p2_nmu, ck_E1 (ck_S1 p2_s597_s (ck_S1 p2_s598_s (ck_S1 p2_s599_s (ck_S1 p2_s600_s (ck_S1 p2_s601_s (ck_S1 p2_s602_s ck_S0)))))) ck_E0⟩ ck_X0 ck_l0 p2_s603_e
set_option maxRecDepth 100000 in
/-- GlacierMail$Rows.copyFrom -/
def p2_s604 : ck_Sum := ((1, 0, 0), 245, [.inr (.inr (.inl 97)), .inr (.inr (.inl 4))], ([], [], []), ([(97, 3, 3), (98, 0, 55)], []), [(.inr none, 245, ([], [], []))])
set_option maxRecDepth 100000 in
theorem p2_s604_e : ck_ok p2_O none [] [] 58 [] 114 p2_s604 = true := by decide +kernel
theorem p2_s604_s {X : Int → Int} {LX : Nat} : ck_Ok p2_O X LX 58 p2_s604 := ck_ok_s ⟨p2_nmu, ck_E0⟩ ck_X0 ck_l0 p2_s604_e
set_option maxRecDepth 100000 in
/-- GlacierMail$Rows.copyFrom -/
def p2_s605 : ck_Sum := ((1, 0, 0), 245, [.inr (.inr (.inl 99)), .inr (.inr (.inl 6))], ([], [], []), ([(99, 3, 3), (100, 0, 23)], []), [(.inr none, 245, ([], [], []))])
set_option maxRecDepth 100000 in
theorem p2_s605_e : ck_ok p2_O none [] [] 58 [] 114 p2_s605 = true := by decide +kernel
theorem p2_s605_s {X : Int → Int} {LX : Nat} : ck_Ok p2_O X LX 58 p2_s605 := ck_ok_s ⟨p2_nmu, ck_E0⟩ ck_X0 ck_l0 p2_s605_e
set_option maxRecDepth 100000 in
/-- GlacierMail$Rows.copyFrom -/
def p2_s606 : ck_Sum := ((1, 0, 0), 245, [.inr (.inr (.inl 101)), .inr (.inr (.inl 8))], ([], [], []), ([(101, 3, 3), (102, 0, 23)], []), [(.inr none, 245, ([], [], []))])
set_option maxRecDepth 100000 in
theorem p2_s606_e : ck_ok p2_O none [] [] 58 [] 114 p2_s606 = true := by decide +kernel
theorem p2_s606_s {X : Int → Int} {LX : Nat} : ck_Ok p2_O X LX 58 p2_s606 := ck_ok_s ⟨p2_nmu, ck_E0⟩ ck_X0 ck_l0 p2_s606_e
set_option maxRecDepth 100000 in
/-- GlacierMail$Rows.copyFrom -/
def p2_s607 : ck_Sum := ((1, 0, 0), 245, [.inr (.inr (.inl 103)), .inr (.inr (.inl 10))], ([], [], []), ([(103, 3, 3), (104, 0, 167)], []), [(.inr none, 245, ([], [], []))])
set_option maxRecDepth 100000 in
theorem p2_s607_e : ck_ok p2_O none [] [] 58 [] 114 p2_s607 = true := by decide +kernel
theorem p2_s607_s {X : Int → Int} {LX : Nat} : ck_Ok p2_O X LX 58 p2_s607 := ck_ok_s ⟨p2_nmu, ck_E0⟩ ck_X0 ck_l0 p2_s607_e
set_option maxRecDepth 100000 in
/-- GlacierMail$Rows.copyFrom -/
def p2_s608 : ck_Sum := ((1, 0, 0), 245, [.inr (.inr (.inl 105)), .inr (.inr (.inl 12))], ([], [], []), ([(105, 3, 3), (106, 0, 35)], []), [(.inr none, 245, ([], [], []))])
set_option maxRecDepth 100000 in
theorem p2_s608_e : ck_ok p2_O none [] [] 58 [] 114 p2_s608 = true := by decide +kernel
theorem p2_s608_s {X : Int → Int} {LX : Nat} : ck_Ok p2_O X LX 58 p2_s608 := ck_ok_s ⟨p2_nmu, ck_E0⟩ ck_X0 ck_l0 p2_s608_e
set_option maxRecDepth 100000 in
/-- GlacierMail$Rows.copyFrom -/
def p2_s609 : ck_Sum := ((1, 0, 0), 245, [.inr (.inr (.inl 107)), .inr (.inr (.inl 14))], ([], [], []), ([(107, 3, 3), (108, 0, 71)], []), [(.inr none, 245, ([], [], []))])
set_option maxRecDepth 100000 in
theorem p2_s609_e : ck_ok p2_O none [] [] 58 [] 114 p2_s609 = true := by decide +kernel
theorem p2_s609_s {X : Int → Int} {LX : Nat} : ck_Ok p2_O X LX 58 p2_s609 := ck_ok_s ⟨p2_nmu, ck_E0⟩ ck_X0 ck_l0 p2_s609_e
set_option maxRecDepth 100000 in
/-- GlacierMail$State.copyFrom -/
def p2_s610 : ck_Sum := ((2, 0, 0), 245, [.inr (.inr (.inl 96)), .inr (.inr (.inl 3))], ([], [(3, 8, 0), (96, 8, 100096)], [(3, 6, 6, (0, 299, [(10, 0)]))]), ([(96, 0, 7), (97, 3, 3), (98, 0, 55), (99, 3, 3), (100, 0, 23), (101, 3, 3), (102, 0, 23), (103, 3, 3), (104, 0, 167), (105, 3, 3), (106, 0, 35), (107, 3, 3), (108, 0, 71)], [(96, 8)]), [(.inr none, 245, ([], [(96, 8, 0)], [(96, 6, 6, (0, 299, [(10, 0)]))]))])
set_option maxRecDepth 100000 in
theorem p2_s610_e : ck_ok p2_O none [] [(58, [p2_s604, p2_s605, p2_s606, p2_s607, p2_s608, p2_s609])] 57 [] 204 p2_s610 = true := by decide +kernel
theorem p2_s610_s {X : Int → Int} {LX : Nat} : ck_Ok p2_O X LX 57 p2_s610 := ck_ok_s ⟨p2_nmu, ck_E1 (ck_S1 p2_s604_s (ck_S1 p2_s605_s (ck_S1 p2_s606_s (ck_S1 p2_s607_s (ck_S1 p2_s608_s (ck_S1 p2_s609_s ck_S0)))))) ck_E0⟩ ck_X0 ck_l0 p2_s610_e
set_option maxRecDepth 100000 in
/-- GlacierMail$Rows.copyFrom -/
def p2_s611 : ck_Sum := ((1, 0, 0), 245, [.inr (.inr (.inl 110)), .inr (.inr (.inl 4))], ([], [], []), ([(110, 3, 3), (111, 0, 55)], []), [(.inr none, 245, ([], [], []))])
set_option maxRecDepth 100000 in
theorem p2_s611_e : ck_ok p2_O none [] [] 58 [] 114 p2_s611 = true := by decide +kernel
theorem p2_s611_s {X : Int → Int} {LX : Nat} : ck_Ok p2_O X LX 58 p2_s611 := ck_ok_s ⟨p2_nmu, ck_E0⟩ ck_X0 ck_l0 p2_s611_e
set_option maxRecDepth 100000 in
/-- GlacierMail$Rows.copyFrom -/
def p2_s612 : ck_Sum := ((1, 0, 0), 245, [.inr (.inr (.inl 112)), .inr (.inr (.inl 6))], ([], [], []), ([(112, 3, 3), (113, 0, 23)], []), [(.inr none, 245, ([], [], []))])
set_option maxRecDepth 100000 in
theorem p2_s612_e : ck_ok p2_O none [] [] 58 [] 114 p2_s612 = true := by decide +kernel
theorem p2_s612_s {X : Int → Int} {LX : Nat} : ck_Ok p2_O X LX 58 p2_s612 := ck_ok_s ⟨p2_nmu, ck_E0⟩ ck_X0 ck_l0 p2_s612_e
set_option maxRecDepth 100000 in
/-- GlacierMail$Rows.copyFrom -/
def p2_s613 : ck_Sum := ((1, 0, 0), 245, [.inr (.inr (.inl 114)), .inr (.inr (.inl 8))], ([], [], []), ([(114, 3, 3), (115, 0, 23)], []), [(.inr none, 245, ([], [], []))])
set_option maxRecDepth 100000 in
theorem p2_s613_e : ck_ok p2_O none [] [] 58 [] 114 p2_s613 = true := by decide +kernel
theorem p2_s613_s {X : Int → Int} {LX : Nat} : ck_Ok p2_O X LX 58 p2_s613 := ck_ok_s ⟨p2_nmu, ck_E0⟩ ck_X0 ck_l0 p2_s613_e
set_option maxRecDepth 100000 in
/-- GlacierMail$Rows.copyFrom -/
def p2_s614 : ck_Sum := ((1, 0, 0), 245, [.inr (.inr (.inl 116)), .inr (.inr (.inl 10))], ([], [], []), ([(116, 3, 3), (117, 0, 167)], []), [(.inr none, 245, ([], [], []))])
set_option maxRecDepth 100000 in
theorem p2_s614_e : ck_ok p2_O none [] [] 58 [] 114 p2_s614 = true := by decide +kernel
theorem p2_s614_s {X : Int → Int} {LX : Nat} : ck_Ok p2_O X LX 58 p2_s614 := ck_ok_s ⟨p2_nmu, ck_E0⟩ ck_X0 ck_l0 p2_s614_e
set_option maxRecDepth 100000 in
/-- GlacierMail$Rows.copyFrom -/
def p2_s615 : ck_Sum := ((1, 0, 0), 245, [.inr (.inr (.inl 118)), .inr (.inr (.inl 12))], ([], [], []), ([(118, 3, 3), (119, 0, 35)], []), [(.inr none, 245, ([], [], []))])
set_option maxRecDepth 100000 in
theorem p2_s615_e : ck_ok p2_O none [] [] 58 [] 114 p2_s615 = true := by decide +kernel
theorem p2_s615_s {X : Int → Int} {LX : Nat} : ck_Ok p2_O X LX 58 p2_s615 := ck_ok_s ⟨p2_nmu, ck_E0⟩ ck_X0 ck_l0 p2_s615_e
set_option maxRecDepth 100000 in
/-- GlacierMail$Rows.copyFrom -/
def p2_s616 : ck_Sum := ((1, 0, 0), 245, [.inr (.inr (.inl 120)), .inr (.inr (.inl 14))], ([], [], []), ([(120, 3, 3), (121, 0, 71)], []), [(.inr none, 245, ([], [], []))])
set_option maxRecDepth 100000 in
theorem p2_s616_e : ck_ok p2_O none [] [] 58 [] 114 p2_s616 = true := by decide +kernel
theorem p2_s616_s {X : Int → Int} {LX : Nat} : ck_Ok p2_O X LX 58 p2_s616 := ck_ok_s ⟨p2_nmu, ck_E0⟩ ck_X0 ck_l0 p2_s616_e
set_option maxRecDepth 100000 in
/-- GlacierMail$State.copyFrom -/
def p2_s617 : ck_Sum := ((2, 0, 0), 245, [.inr (.inr (.inl 109)), .inr (.inr (.inl 3))], ([], [(3, 8, 0), (109, 8, 100109)], [(3, 6, 6, (0, 299, [(10, 0)]))]), ([(109, 0, 7), (110, 3, 3), (111, 0, 55), (112, 3, 3), (113, 0, 23), (114, 3, 3), (115, 0, 23), (116, 3, 3), (117, 0, 167), (118, 3, 3), (119, 0, 35), (120, 3, 3), (121, 0, 71)], [(109, 8)]), [(.inr none, 245, ([], [(109, 8, 0)], [(109, 6, 6, (0, 299, [(10, 0)]))]))])
set_option maxRecDepth 100000 in
theorem p2_s617_e : ck_ok p2_O none [] [(58, [p2_s611, p2_s612, p2_s613, p2_s614, p2_s615, p2_s616])] 57 [] 204 p2_s617 = true := by decide +kernel
theorem p2_s617_s {X : Int → Int} {LX : Nat} : ck_Ok p2_O X LX 57 p2_s617 := ck_ok_s ⟨p2_nmu, ck_E1 (ck_S1 p2_s611_s (ck_S1 p2_s612_s (ck_S1 p2_s613_s (ck_S1 p2_s614_s (ck_S1 p2_s615_s (ck_S1 p2_s616_s ck_S0)))))) ck_E0⟩ ck_X0 ck_l0 p2_s617_e
set_option maxRecDepth 100000 in
/-- GlacierMail$Rows.copyFrom -/
def p2_s618 : ck_Sum := ((1, 0, 0), 245, [.inr (.inr (.inl 123)), .inr (.inr (.inl 4))], ([], [], []), ([(123, 3, 3), (124, 0, 55)], []), [(.inr none, 245, ([], [], []))])
set_option maxRecDepth 100000 in
theorem p2_s618_e : ck_ok p2_O none [] [] 58 [] 114 p2_s618 = true := by decide +kernel
theorem p2_s618_s {X : Int → Int} {LX : Nat} : ck_Ok p2_O X LX 58 p2_s618 := ck_ok_s ⟨p2_nmu, ck_E0⟩ ck_X0 ck_l0 p2_s618_e
set_option maxRecDepth 100000 in
/-- GlacierMail$Rows.copyFrom -/
def p2_s619 : ck_Sum := ((1, 0, 0), 245, [.inr (.inr (.inl 125)), .inr (.inr (.inl 6))], ([], [], []), ([(125, 3, 3), (126, 0, 23)], []), [(.inr none, 245, ([], [], []))])
set_option maxRecDepth 100000 in
theorem p2_s619_e : ck_ok p2_O none [] [] 58 [] 114 p2_s619 = true := by decide +kernel
theorem p2_s619_s {X : Int → Int} {LX : Nat} : ck_Ok p2_O X LX 58 p2_s619 := ck_ok_s ⟨p2_nmu, ck_E0⟩ ck_X0 ck_l0 p2_s619_e
set_option maxRecDepth 100000 in
/-- GlacierMail$Rows.copyFrom -/
def p2_s620 : ck_Sum := ((1, 0, 0), 245, [.inr (.inr (.inl 127)), .inr (.inr (.inl 8))], ([], [], []), ([(127, 3, 3), (128, 0, 23)], []), [(.inr none, 245, ([], [], []))])
set_option maxRecDepth 100000 in
theorem p2_s620_e : ck_ok p2_O none [] [] 58 [] 114 p2_s620 = true := by decide +kernel
theorem p2_s620_s {X : Int → Int} {LX : Nat} : ck_Ok p2_O X LX 58 p2_s620 := ck_ok_s ⟨p2_nmu, ck_E0⟩ ck_X0 ck_l0 p2_s620_e
set_option maxRecDepth 100000 in
/-- GlacierMail$Rows.copyFrom -/
def p2_s621 : ck_Sum := ((1, 0, 0), 245, [.inr (.inr (.inl 129)), .inr (.inr (.inl 10))], ([], [], []), ([(129, 3, 3), (130, 0, 167)], []), [(.inr none, 245, ([], [], []))])
set_option maxRecDepth 100000 in
theorem p2_s621_e : ck_ok p2_O none [] [] 58 [] 114 p2_s621 = true := by decide +kernel
theorem p2_s621_s {X : Int → Int} {LX : Nat} : ck_Ok p2_O X LX 58 p2_s621 := ck_ok_s ⟨p2_nmu, ck_E0⟩ ck_X0 ck_l0 p2_s621_e
set_option maxRecDepth 100000 in
/-- GlacierMail$Rows.copyFrom -/
def p2_s622 : ck_Sum := ((1, 0, 0), 245, [.inr (.inr (.inl 131)), .inr (.inr (.inl 12))], ([], [], []), ([(131, 3, 3), (132, 0, 35)], []), [(.inr none, 245, ([], [], []))])
set_option maxRecDepth 100000 in
theorem p2_s622_e : ck_ok p2_O none [] [] 58 [] 114 p2_s622 = true := by decide +kernel
theorem p2_s622_s {X : Int → Int} {LX : Nat} : ck_Ok p2_O X LX 58 p2_s622 := ck_ok_s ⟨p2_nmu, ck_E0⟩ ck_X0 ck_l0 p2_s622_e
set_option maxRecDepth 100000 in
/-- GlacierMail$Rows.copyFrom -/
def p2_s623 : ck_Sum := ((1, 0, 0), 245, [.inr (.inr (.inl 133)), .inr (.inr (.inl 14))], ([], [], []), ([(133, 3, 3), (134, 0, 71)], []), [(.inr none, 245, ([], [], []))])
set_option maxRecDepth 100000 in
theorem p2_s623_e : ck_ok p2_O none [] [] 58 [] 114 p2_s623 = true := by decide +kernel
theorem p2_s623_s {X : Int → Int} {LX : Nat} : ck_Ok p2_O X LX 58 p2_s623 := ck_ok_s ⟨p2_nmu, ck_E0⟩ ck_X0 ck_l0 p2_s623_e
set_option maxRecDepth 100000 in
/-- GlacierMail$State.copyFrom -/
def p2_s624 : ck_Sum := ((2, 0, 0), 245, [.inr (.inr (.inl 122)), .inr (.inr (.inl 3))], ([], [(3, 8, 0), (122, 8, 100122)], [(3, 6, 6, (0, 299, [(10, 0)]))]), ([(122, 0, 7), (123, 3, 3), (124, 0, 55), (125, 3, 3), (126, 0, 23), (127, 3, 3), (128, 0, 23), (129, 3, 3), (130, 0, 167), (131, 3, 3), (132, 0, 35), (133, 3, 3), (134, 0, 71)], [(122, 8)]), [(.inr none, 245, ([], [(122, 8, 0)], [(122, 6, 6, (0, 299, [(10, 0)]))]))])
set_option maxRecDepth 100000 in
theorem p2_s624_e : ck_ok p2_O none [] [(58, [p2_s618, p2_s619, p2_s620, p2_s621, p2_s622, p2_s623])] 57 [] 204 p2_s624 = true := by decide +kernel
theorem p2_s624_s {X : Int → Int} {LX : Nat} : ck_Ok p2_O X LX 57 p2_s624 := ck_ok_s ⟨p2_nmu, ck_E1 (ck_S1 p2_s618_s (ck_S1 p2_s619_s (ck_S1 p2_s620_s (ck_S1 p2_s621_s (ck_S1 p2_s622_s (ck_S1 p2_s623_s ck_S0)))))) ck_E0⟩ ck_X0 ck_l0 p2_s624_e
set_option maxRecDepth 100000 in
/-- GlacierMail$Rows.copyFrom -/
def p2_s625 : ck_Sum := ((1, 0, 0), 245, [.inr (.inr (.inl 136)), .inr (.inr (.inl 4))], ([], [], []), ([(136, 3, 3), (137, 0, 55)], []), [(.inr none, 245, ([], [], []))])
set_option maxRecDepth 100000 in
theorem p2_s625_e : ck_ok p2_O none [] [] 58 [] 114 p2_s625 = true := by decide +kernel
theorem p2_s625_s {X : Int → Int} {LX : Nat} : ck_Ok p2_O X LX 58 p2_s625 := ck_ok_s ⟨p2_nmu, ck_E0⟩ ck_X0 ck_l0 p2_s625_e
set_option maxRecDepth 100000 in
/-- GlacierMail$Rows.copyFrom -/
def p2_s626 : ck_Sum := ((1, 0, 0), 245, [.inr (.inr (.inl 138)), .inr (.inr (.inl 6))], ([], [], []), ([(138, 3, 3), (139, 0, 23)], []), [(.inr none, 245, ([], [], []))])
set_option maxRecDepth 100000 in
theorem p2_s626_e : ck_ok p2_O none [] [] 58 [] 114 p2_s626 = true := by decide +kernel
theorem p2_s626_s {X : Int → Int} {LX : Nat} : ck_Ok p2_O X LX 58 p2_s626 := ck_ok_s ⟨p2_nmu, ck_E0⟩ ck_X0 ck_l0 p2_s626_e
set_option maxRecDepth 100000 in
/-- GlacierMail$Rows.copyFrom -/
def p2_s627 : ck_Sum := ((1, 0, 0), 245, [.inr (.inr (.inl 140)), .inr (.inr (.inl 8))], ([], [], []), ([(140, 3, 3), (141, 0, 23)], []), [(.inr none, 245, ([], [], []))])
set_option maxRecDepth 100000 in
theorem p2_s627_e : ck_ok p2_O none [] [] 58 [] 114 p2_s627 = true := by decide +kernel
theorem p2_s627_s {X : Int → Int} {LX : Nat} : ck_Ok p2_O X LX 58 p2_s627 := ck_ok_s ⟨p2_nmu, ck_E0⟩ ck_X0 ck_l0 p2_s627_e
set_option maxRecDepth 100000 in
/-- GlacierMail$Rows.copyFrom -/
def p2_s628 : ck_Sum := ((1, 0, 0), 245, [.inr (.inr (.inl 142)), .inr (.inr (.inl 10))], ([], [], []), ([(142, 3, 3), (143, 0, 167)], []), [(.inr none, 245, ([], [], []))])
set_option maxRecDepth 100000 in
theorem p2_s628_e : ck_ok p2_O none [] [] 58 [] 114 p2_s628 = true := by decide +kernel
theorem p2_s628_s {X : Int → Int} {LX : Nat} : ck_Ok p2_O X LX 58 p2_s628 := ck_ok_s ⟨p2_nmu, ck_E0⟩ ck_X0 ck_l0 p2_s628_e
set_option maxRecDepth 100000 in
/-- GlacierMail$Rows.copyFrom -/
def p2_s629 : ck_Sum := ((1, 0, 0), 245, [.inr (.inr (.inl 144)), .inr (.inr (.inl 12))], ([], [], []), ([(144, 3, 3), (145, 0, 35)], []), [(.inr none, 245, ([], [], []))])
set_option maxRecDepth 100000 in
theorem p2_s629_e : ck_ok p2_O none [] [] 58 [] 114 p2_s629 = true := by decide +kernel
theorem p2_s629_s {X : Int → Int} {LX : Nat} : ck_Ok p2_O X LX 58 p2_s629 := ck_ok_s ⟨p2_nmu, ck_E0⟩ ck_X0 ck_l0 p2_s629_e
set_option maxRecDepth 100000 in
/-- GlacierMail$Rows.copyFrom -/
def p2_s630 : ck_Sum := ((1, 0, 0), 245, [.inr (.inr (.inl 146)), .inr (.inr (.inl 14))], ([], [], []), ([(146, 3, 3), (147, 0, 71)], []), [(.inr none, 245, ([], [], []))])
set_option maxRecDepth 100000 in
theorem p2_s630_e : ck_ok p2_O none [] [] 58 [] 114 p2_s630 = true := by decide +kernel
theorem p2_s630_s {X : Int → Int} {LX : Nat} : ck_Ok p2_O X LX 58 p2_s630 := ck_ok_s ⟨p2_nmu, ck_E0⟩ ck_X0 ck_l0 p2_s630_e
set_option maxRecDepth 100000 in
/-- GlacierMail$State.copyFrom -/
def p2_s631 : ck_Sum := ((2, 0, 0), 245, [.inr (.inr (.inl 135)), .inr (.inr (.inl 3))], ([], [(3, 8, 0), (135, 8, 100135)], [(3, 6, 6, (0, 299, [(10, 0)]))]), ([(135, 0, 7), (136, 3, 3), (137, 0, 55), (138, 3, 3), (139, 0, 23), (140, 3, 3), (141, 0, 23), (142, 3, 3), (143, 0, 167), (144, 3, 3), (145, 0, 35), (146, 3, 3), (147, 0, 71)], [(135, 8)]), [(.inr none, 245, ([], [(135, 8, 0)], [(135, 6, 6, (0, 299, [(10, 0)]))]))])
set_option maxRecDepth 100000 in
theorem p2_s631_e : ck_ok p2_O none [] [(58, [p2_s625, p2_s626, p2_s627, p2_s628, p2_s629, p2_s630])] 57 [] 204 p2_s631 = true := by decide +kernel
theorem p2_s631_s {X : Int → Int} {LX : Nat} : ck_Ok p2_O X LX 57 p2_s631 := ck_ok_s ⟨p2_nmu, ck_E1 (ck_S1 p2_s625_s (ck_S1 p2_s626_s (ck_S1 p2_s627_s (ck_S1 p2_s628_s (ck_S1 p2_s629_s (ck_S1 p2_s630_s ck_S0)))))) ck_E0⟩ ck_X0 ck_l0 p2_s631_e
set_option maxRecDepth 100000 in
/-- GlacierMail$Rows.copyFrom -/
def p2_s632 : ck_Sum := ((1, 0, 0), 245, [.inr (.inr (.inl 149)), .inr (.inr (.inl 4))], ([], [], []), ([(149, 3, 3), (150, 0, 55)], []), [(.inr none, 245, ([], [], []))])
set_option maxRecDepth 100000 in
theorem p2_s632_e : ck_ok p2_O none [] [] 58 [] 114 p2_s632 = true := by decide +kernel
theorem p2_s632_s {X : Int → Int} {LX : Nat} : ck_Ok p2_O X LX 58 p2_s632 := ck_ok_s ⟨p2_nmu, ck_E0⟩ ck_X0 ck_l0 p2_s632_e
set_option maxRecDepth 100000 in
/-- GlacierMail$Rows.copyFrom -/
def p2_s633 : ck_Sum := ((1, 0, 0), 245, [.inr (.inr (.inl 151)), .inr (.inr (.inl 6))], ([], [], []), ([(151, 3, 3), (152, 0, 23)], []), [(.inr none, 245, ([], [], []))])
set_option maxRecDepth 100000 in
theorem p2_s633_e : ck_ok p2_O none [] [] 58 [] 114 p2_s633 = true := by decide +kernel
theorem p2_s633_s {X : Int → Int} {LX : Nat} : ck_Ok p2_O X LX 58 p2_s633 := ck_ok_s ⟨p2_nmu, ck_E0⟩ ck_X0 ck_l0 p2_s633_e
set_option maxRecDepth 100000 in
/-- GlacierMail$Rows.copyFrom -/
def p2_s634 : ck_Sum := ((1, 0, 0), 245, [.inr (.inr (.inl 153)), .inr (.inr (.inl 8))], ([], [], []), ([(153, 3, 3), (154, 0, 23)], []), [(.inr none, 245, ([], [], []))])
set_option maxRecDepth 100000 in
theorem p2_s634_e : ck_ok p2_O none [] [] 58 [] 114 p2_s634 = true := by decide +kernel
theorem p2_s634_s {X : Int → Int} {LX : Nat} : ck_Ok p2_O X LX 58 p2_s634 := ck_ok_s ⟨p2_nmu, ck_E0⟩ ck_X0 ck_l0 p2_s634_e
set_option maxRecDepth 100000 in
/-- GlacierMail$Rows.copyFrom -/
def p2_s635 : ck_Sum := ((1, 0, 0), 245, [.inr (.inr (.inl 155)), .inr (.inr (.inl 10))], ([], [], []), ([(155, 3, 3), (156, 0, 167)], []), [(.inr none, 245, ([], [], []))])
set_option maxRecDepth 100000 in
theorem p2_s635_e : ck_ok p2_O none [] [] 58 [] 114 p2_s635 = true := by decide +kernel
theorem p2_s635_s {X : Int → Int} {LX : Nat} : ck_Ok p2_O X LX 58 p2_s635 := ck_ok_s ⟨p2_nmu, ck_E0⟩ ck_X0 ck_l0 p2_s635_e
set_option maxRecDepth 100000 in
/-- GlacierMail$Rows.copyFrom -/
def p2_s636 : ck_Sum := ((1, 0, 0), 245, [.inr (.inr (.inl 157)), .inr (.inr (.inl 12))], ([], [], []), ([(157, 3, 3), (158, 0, 35)], []), [(.inr none, 245, ([], [], []))])
set_option maxRecDepth 100000 in
theorem p2_s636_e : ck_ok p2_O none [] [] 58 [] 114 p2_s636 = true := by decide +kernel
theorem p2_s636_s {X : Int → Int} {LX : Nat} : ck_Ok p2_O X LX 58 p2_s636 := ck_ok_s ⟨p2_nmu, ck_E0⟩ ck_X0 ck_l0 p2_s636_e
set_option maxRecDepth 100000 in
/-- GlacierMail$Rows.copyFrom -/
def p2_s637 : ck_Sum := ((1, 0, 0), 245, [.inr (.inr (.inl 159)), .inr (.inr (.inl 14))], ([], [], []), ([(159, 3, 3), (160, 0, 71)], []), [(.inr none, 245, ([], [], []))])
set_option maxRecDepth 100000 in
theorem p2_s637_e : ck_ok p2_O none [] [] 58 [] 114 p2_s637 = true := by decide +kernel
theorem p2_s637_s {X : Int → Int} {LX : Nat} : ck_Ok p2_O X LX 58 p2_s637 := ck_ok_s ⟨p2_nmu, ck_E0⟩ ck_X0 ck_l0 p2_s637_e
set_option maxRecDepth 100000 in
/-- GlacierMail$State.copyFrom -/
def p2_s638 : ck_Sum := ((2, 0, 0), 245, [.inr (.inr (.inl 148)), .inr (.inr (.inl 3))], ([], [(3, 8, 0), (148, 8, 100148)], [(3, 6, 6, (0, 299, [(10, 0)]))]), ([(148, 0, 7), (149, 3, 3), (150, 0, 55), (151, 3, 3), (152, 0, 23), (153, 3, 3), (154, 0, 23), (155, 3, 3), (156, 0, 167), (157, 3, 3), (158, 0, 35), (159, 3, 3), (160, 0, 71)], [(148, 8)]), [(.inr none, 245, ([], [(148, 8, 0)], [(148, 6, 6, (0, 299, [(10, 0)]))]))])
set_option maxRecDepth 100000 in
theorem p2_s638_e : ck_ok p2_O none [] [(58, [p2_s632, p2_s633, p2_s634, p2_s635, p2_s636, p2_s637])] 57 [] 204 p2_s638 = true := by decide +kernel
theorem p2_s638_s {X : Int → Int} {LX : Nat} : ck_Ok p2_O X LX 57 p2_s638 := ck_ok_s ⟨p2_nmu, ck_E1 (ck_S1 p2_s632_s (ck_S1 p2_s633_s (ck_S1 p2_s634_s (ck_S1 p2_s635_s (ck_S1 p2_s636_s (ck_S1 p2_s637_s ck_S0)))))) ck_E0⟩ ck_X0 ck_l0 p2_s638_e
set_option maxRecDepth 100000 in
/-- GlacierMail$Rows.copyFrom -/
def p2_s639 : ck_Sum := ((1, 0, 0), 245, [.inr (.inr (.inl 162)), .inr (.inr (.inl 4))], ([], [], []), ([(162, 3, 3), (163, 0, 55)], []), [(.inr none, 245, ([], [], []))])
set_option maxRecDepth 100000 in
theorem p2_s639_e : ck_ok p2_O none [] [] 58 [] 114 p2_s639 = true := by decide +kernel
theorem p2_s639_s {X : Int → Int} {LX : Nat} : ck_Ok p2_O X LX 58 p2_s639 := ck_ok_s ⟨p2_nmu, ck_E0⟩ ck_X0 ck_l0 p2_s639_e
set_option maxRecDepth 100000 in
/-- GlacierMail$Rows.copyFrom -/
def p2_s640 : ck_Sum := ((1, 0, 0), 245, [.inr (.inr (.inl 164)), .inr (.inr (.inl 6))], ([], [], []), ([(164, 3, 3), (165, 0, 23)], []), [(.inr none, 245, ([], [], []))])
set_option maxRecDepth 100000 in
theorem p2_s640_e : ck_ok p2_O none [] [] 58 [] 114 p2_s640 = true := by decide +kernel
theorem p2_s640_s {X : Int → Int} {LX : Nat} : ck_Ok p2_O X LX 58 p2_s640 := ck_ok_s ⟨p2_nmu, ck_E0⟩ ck_X0 ck_l0 p2_s640_e
set_option maxRecDepth 100000 in
/-- GlacierMail$Rows.copyFrom -/
def p2_s641 : ck_Sum := ((1, 0, 0), 245, [.inr (.inr (.inl 166)), .inr (.inr (.inl 8))], ([], [], []), ([(166, 3, 3), (167, 0, 23)], []), [(.inr none, 245, ([], [], []))])
set_option maxRecDepth 100000 in
theorem p2_s641_e : ck_ok p2_O none [] [] 58 [] 114 p2_s641 = true := by decide +kernel
theorem p2_s641_s {X : Int → Int} {LX : Nat} : ck_Ok p2_O X LX 58 p2_s641 := ck_ok_s ⟨p2_nmu, ck_E0⟩ ck_X0 ck_l0 p2_s641_e
set_option maxRecDepth 100000 in
/-- GlacierMail$Rows.copyFrom -/
def p2_s642 : ck_Sum := ((1, 0, 0), 245, [.inr (.inr (.inl 168)), .inr (.inr (.inl 10))], ([], [], []), ([(168, 3, 3), (169, 0, 167)], []), [(.inr none, 245, ([], [], []))])
set_option maxRecDepth 100000 in
theorem p2_s642_e : ck_ok p2_O none [] [] 58 [] 114 p2_s642 = true := by decide +kernel
theorem p2_s642_s {X : Int → Int} {LX : Nat} : ck_Ok p2_O X LX 58 p2_s642 := ck_ok_s ⟨p2_nmu, ck_E0⟩ ck_X0 ck_l0 p2_s642_e
set_option maxRecDepth 100000 in
/-- GlacierMail$Rows.copyFrom -/
def p2_s643 : ck_Sum := ((1, 0, 0), 245, [.inr (.inr (.inl 170)), .inr (.inr (.inl 12))], ([], [], []), ([(170, 3, 3), (171, 0, 35)], []), [(.inr none, 245, ([], [], []))])
set_option maxRecDepth 100000 in
theorem p2_s643_e : ck_ok p2_O none [] [] 58 [] 114 p2_s643 = true := by decide +kernel
theorem p2_s643_s {X : Int → Int} {LX : Nat} : ck_Ok p2_O X LX 58 p2_s643 := ck_ok_s ⟨p2_nmu, ck_E0⟩ ck_X0 ck_l0 p2_s643_e
set_option maxRecDepth 100000 in
/-- GlacierMail$Rows.copyFrom -/
def p2_s644 : ck_Sum := ((1, 0, 0), 245, [.inr (.inr (.inl 172)), .inr (.inr (.inl 14))], ([], [], []), ([(172, 3, 3), (173, 0, 71)], []), [(.inr none, 245, ([], [], []))])
set_option maxRecDepth 100000 in
theorem p2_s644_e : ck_ok p2_O none [] [] 58 [] 114 p2_s644 = true := by decide +kernel
theorem p2_s644_s {X : Int → Int} {LX : Nat} : ck_Ok p2_O X LX 58 p2_s644 := ck_ok_s ⟨p2_nmu, ck_E0⟩ ck_X0 ck_l0 p2_s644_e
set_option maxRecDepth 100000 in
/-- GlacierMail$State.copyFrom -/
def p2_s645 : ck_Sum := ((2, 0, 0), 245, [.inr (.inr (.inl 161)), .inr (.inr (.inl 3))], ([], [(3, 8, 0), (161, 8, 100161)], [(3, 6, 6, (0, 299, [(10, 0)]))]), ([(161, 0, 7), (162, 3, 3), (163, 0, 55), (164, 3, 3), (165, 0, 23), (166, 3, 3), (167, 0, 23), (168, 3, 3), (169, 0, 167), (170, 3, 3), (171, 0, 35), (172, 3, 3), (173, 0, 71)], [(161, 8)]), [(.inr none, 245, ([], [(161, 8, 0)], [(161, 6, 6, (0, 299, [(10, 0)]))]))])
set_option maxRecDepth 100000 in
theorem p2_s645_e : ck_ok p2_O none [] [(58, [p2_s639, p2_s640, p2_s641, p2_s642, p2_s643, p2_s644])] 57 [] 204 p2_s645 = true := by decide +kernel
theorem p2_s645_s {X : Int → Int} {LX : Nat} : ck_Ok p2_O X LX 57 p2_s645 := ck_ok_s ⟨p2_nmu, ck_E1 (ck_S1 p2_s639_s (ck_S1 p2_s640_s (ck_S1 p2_s641_s (ck_S1 p2_s642_s (ck_S1 p2_s643_s (ck_S1 p2_s644_s ck_S0)))))) ck_E0⟩ ck_X0 ck_l0 p2_s645_e
set_option maxRecDepth 100000 in
/-- GlacierMail$Rows.copyFrom -/
def p2_s646 : ck_Sum := ((1, 0, 0), 245, [.inr (.inr (.inl 175)), .inr (.inr (.inl 4))], ([], [], []), ([(175, 3, 3), (176, 0, 55)], []), [(.inr none, 245, ([], [], []))])
set_option maxRecDepth 100000 in
theorem p2_s646_e : ck_ok p2_O none [] [] 58 [] 114 p2_s646 = true := by decide +kernel
theorem p2_s646_s {X : Int → Int} {LX : Nat} : ck_Ok p2_O X LX 58 p2_s646 := ck_ok_s ⟨p2_nmu, ck_E0⟩ ck_X0 ck_l0 p2_s646_e
set_option maxRecDepth 100000 in
/-- GlacierMail$Rows.copyFrom -/
def p2_s647 : ck_Sum := ((1, 0, 0), 245, [.inr (.inr (.inl 177)), .inr (.inr (.inl 6))], ([], [], []), ([(177, 3, 3), (178, 0, 23)], []), [(.inr none, 245, ([], [], []))])
set_option maxRecDepth 100000 in
theorem p2_s647_e : ck_ok p2_O none [] [] 58 [] 114 p2_s647 = true := by decide +kernel
theorem p2_s647_s {X : Int → Int} {LX : Nat} : ck_Ok p2_O X LX 58 p2_s647 := ck_ok_s ⟨p2_nmu, ck_E0⟩ ck_X0 ck_l0 p2_s647_e
set_option maxRecDepth 100000 in
/-- GlacierMail$Rows.copyFrom -/
def p2_s648 : ck_Sum := ((1, 0, 0), 245, [.inr (.inr (.inl 179)), .inr (.inr (.inl 8))], ([], [], []), ([(179, 3, 3), (180, 0, 23)], []), [(.inr none, 245, ([], [], []))])
set_option maxRecDepth 100000 in
theorem p2_s648_e : ck_ok p2_O none [] [] 58 [] 114 p2_s648 = true := by decide +kernel
theorem p2_s648_s {X : Int → Int} {LX : Nat} : ck_Ok p2_O X LX 58 p2_s648 := ck_ok_s ⟨p2_nmu, ck_E0⟩ ck_X0 ck_l0 p2_s648_e
set_option maxRecDepth 100000 in
/-- GlacierMail$Rows.copyFrom -/
def p2_s649 : ck_Sum := ((1, 0, 0), 245, [.inr (.inr (.inl 181)), .inr (.inr (.inl 10))], ([], [], []), ([(181, 3, 3), (182, 0, 167)], []), [(.inr none, 245, ([], [], []))])
set_option maxRecDepth 100000 in
theorem p2_s649_e : ck_ok p2_O none [] [] 58 [] 114 p2_s649 = true := by decide +kernel
theorem p2_s649_s {X : Int → Int} {LX : Nat} : ck_Ok p2_O X LX 58 p2_s649 := ck_ok_s ⟨p2_nmu, ck_E0⟩ ck_X0 ck_l0 p2_s649_e
set_option maxRecDepth 100000 in
/-- GlacierMail$Rows.copyFrom -/
def p2_s650 : ck_Sum := ((1, 0, 0), 245, [.inr (.inr (.inl 183)), .inr (.inr (.inl 12))], ([], [], []), ([(183, 3, 3), (184, 0, 35)], []), [(.inr none, 245, ([], [], []))])
set_option maxRecDepth 100000 in
theorem p2_s650_e : ck_ok p2_O none [] [] 58 [] 114 p2_s650 = true := by decide +kernel
theorem p2_s650_s {X : Int → Int} {LX : Nat} : ck_Ok p2_O X LX 58 p2_s650 := ck_ok_s ⟨p2_nmu, ck_E0⟩ ck_X0 ck_l0 p2_s650_e
set_option maxRecDepth 100000 in
/-- GlacierMail$Rows.copyFrom -/
def p2_s651 : ck_Sum := ((1, 0, 0), 245, [.inr (.inr (.inl 185)), .inr (.inr (.inl 14))], ([], [], []), ([(185, 3, 3), (186, 0, 71)], []), [(.inr none, 245, ([], [], []))])
set_option maxRecDepth 100000 in
theorem p2_s651_e : ck_ok p2_O none [] [] 58 [] 114 p2_s651 = true := by decide +kernel
theorem p2_s651_s {X : Int → Int} {LX : Nat} : ck_Ok p2_O X LX 58 p2_s651 := ck_ok_s ⟨p2_nmu, ck_E0⟩ ck_X0 ck_l0 p2_s651_e
set_option maxRecDepth 100000 in
/-- GlacierMail$State.copyFrom -/
def p2_s652 : ck_Sum := ((2, 0, 0), 245, [.inr (.inr (.inl 174)), .inr (.inr (.inl 3))], ([], [(3, 8, 0), (174, 8, 100174)], [(3, 6, 6, (0, 299, [(10, 0)]))]), ([(174, 0, 7), (175, 3, 3), (176, 0, 55), (177, 3, 3), (178, 0, 23), (179, 3, 3), (180, 0, 23), (181, 3, 3), (182, 0, 167), (183, 3, 3), (184, 0, 35), (185, 3, 3), (186, 0, 71)], [(174, 8)]), [(.inr none, 245, ([], [(174, 8, 0)], [(174, 6, 6, (0, 299, [(10, 0)]))]))])
set_option maxRecDepth 100000 in
theorem p2_s652_e : ck_ok p2_O none [] [(58, [p2_s646, p2_s647, p2_s648, p2_s649, p2_s650, p2_s651])] 57 [] 204 p2_s652 = true := by decide +kernel
theorem p2_s652_s {X : Int → Int} {LX : Nat} : ck_Ok p2_O X LX 57 p2_s652 := ck_ok_s ⟨p2_nmu, ck_E1 (ck_S1 p2_s646_s (ck_S1 p2_s647_s (ck_S1 p2_s648_s (ck_S1 p2_s649_s (ck_S1 p2_s650_s (ck_S1 p2_s651_s ck_S0)))))) ck_E0⟩ ck_X0 ck_l0 p2_s652_e
set_option maxRecDepth 100000 in
/-- GlacierMail$Rows.copyFrom -/
def p2_s653 : ck_Sum := ((1, 0, 0), 245, [.inr (.inr (.inl 188)), .inr (.inr (.inl 4))], ([], [], []), ([(188, 3, 3), (189, 0, 55)], []), [(.inr none, 245, ([], [], []))])
set_option maxRecDepth 100000 in
theorem p2_s653_e : ck_ok p2_O none [] [] 58 [] 114 p2_s653 = true := by decide +kernel
theorem p2_s653_s {X : Int → Int} {LX : Nat} : ck_Ok p2_O X LX 58 p2_s653 := ck_ok_s ⟨p2_nmu, ck_E0⟩ ck_X0 ck_l0 p2_s653_e
set_option maxRecDepth 100000 in
/-- GlacierMail$Rows.copyFrom -/
def p2_s654 : ck_Sum := ((1, 0, 0), 245, [.inr (.inr (.inl 190)), .inr (.inr (.inl 6))], ([], [], []), ([(190, 3, 3), (191, 0, 23)], []), [(.inr none, 245, ([], [], []))])
set_option maxRecDepth 100000 in
theorem p2_s654_e : ck_ok p2_O none [] [] 58 [] 114 p2_s654 = true := by decide +kernel
theorem p2_s654_s {X : Int → Int} {LX : Nat} : ck_Ok p2_O X LX 58 p2_s654 := ck_ok_s ⟨p2_nmu, ck_E0⟩ ck_X0 ck_l0 p2_s654_e
set_option maxRecDepth 100000 in
/-- GlacierMail$Rows.copyFrom -/
def p2_s655 : ck_Sum := ((1, 0, 0), 245, [.inr (.inr (.inl 192)), .inr (.inr (.inl 8))], ([], [], []), ([(192, 3, 3), (193, 0, 23)], []), [(.inr none, 245, ([], [], []))])
set_option maxRecDepth 100000 in
theorem p2_s655_e : ck_ok p2_O none [] [] 58 [] 114 p2_s655 = true := by decide +kernel
theorem p2_s655_s {X : Int → Int} {LX : Nat} : ck_Ok p2_O X LX 58 p2_s655 := ck_ok_s ⟨p2_nmu, ck_E0⟩ ck_X0 ck_l0 p2_s655_e
set_option maxRecDepth 100000 in
/-- GlacierMail$Rows.copyFrom -/
def p2_s656 : ck_Sum := ((1, 0, 0), 245, [.inr (.inr (.inl 194)), .inr (.inr (.inl 10))], ([], [], []), ([(194, 3, 3), (195, 0, 167)], []), [(.inr none, 245, ([], [], []))])
set_option maxRecDepth 100000 in
theorem p2_s656_e : ck_ok p2_O none [] [] 58 [] 114 p2_s656 = true := by decide +kernel
theorem p2_s656_s {X : Int → Int} {LX : Nat} : ck_Ok p2_O X LX 58 p2_s656 := ck_ok_s ⟨p2_nmu, ck_E0⟩ ck_X0 ck_l0 p2_s656_e
set_option maxRecDepth 100000 in
/-- GlacierMail$Rows.copyFrom -/
def p2_s657 : ck_Sum := ((1, 0, 0), 245, [.inr (.inr (.inl 196)), .inr (.inr (.inl 12))], ([], [], []), ([(196, 3, 3), (197, 0, 35)], []), [(.inr none, 245, ([], [], []))])
set_option maxRecDepth 100000 in
theorem p2_s657_e : ck_ok p2_O none [] [] 58 [] 114 p2_s657 = true := by decide +kernel
theorem p2_s657_s {X : Int → Int} {LX : Nat} : ck_Ok p2_O X LX 58 p2_s657 := ck_ok_s ⟨p2_nmu, ck_E0⟩ ck_X0 ck_l0 p2_s657_e
set_option maxRecDepth 100000 in
/-- GlacierMail$Rows.copyFrom -/
def p2_s658 : ck_Sum := ((1, 0, 0), 245, [.inr (.inr (.inl 198)), .inr (.inr (.inl 14))], ([], [], []), ([(198, 3, 3), (199, 0, 71)], []), [(.inr none, 245, ([], [], []))])
set_option maxRecDepth 100000 in
theorem p2_s658_e : ck_ok p2_O none [] [] 58 [] 114 p2_s658 = true := by decide +kernel
theorem p2_s658_s {X : Int → Int} {LX : Nat} : ck_Ok p2_O X LX 58 p2_s658 := ck_ok_s ⟨p2_nmu, ck_E0⟩ ck_X0 ck_l0 p2_s658_e
set_option maxRecDepth 100000 in
/-- GlacierMail$State.copyFrom -/
def p2_s659 : ck_Sum := ((2, 0, 0), 245, [.inr (.inr (.inl 187)), .inr (.inr (.inl 3))], ([], [(3, 8, 0), (187, 8, 100187)], [(3, 6, 6, (0, 299, [(10, 0)]))]), ([(187, 0, 7), (188, 3, 3), (189, 0, 55), (190, 3, 3), (191, 0, 23), (192, 3, 3), (193, 0, 23), (194, 3, 3), (195, 0, 167), (196, 3, 3), (197, 0, 35), (198, 3, 3), (199, 0, 71)], [(187, 8)]), [(.inr none, 245, ([], [(187, 8, 0)], [(187, 6, 6, (0, 299, [(10, 0)]))]))])
set_option maxRecDepth 100000 in
theorem p2_s659_e : ck_ok p2_O none [] [(58, [p2_s653, p2_s654, p2_s655, p2_s656, p2_s657, p2_s658])] 57 [] 204 p2_s659 = true := by decide +kernel
theorem p2_s659_s {X : Int → Int} {LX : Nat} : ck_Ok p2_O X LX 57 p2_s659 := ck_ok_s ⟨p2_nmu, ck_E1 (ck_S1 p2_s653_s (ck_S1 p2_s654_s (ck_S1 p2_s655_s (ck_S1 p2_s656_s (ck_S1 p2_s657_s (ck_S1 p2_s658_s ck_S0)))))) ck_E0⟩ ck_X0 ck_l0 p2_s659_e
set_option maxRecDepth 100000 in
/-- GlacierMail$Rows.copyFrom -/
def p2_s660 : ck_Sum := ((1, 0, 0), 245, [.inr (.inr (.inl 45)), .inr (.inr (.inl 4))], ([], [], []), ([(45, 3, 3), (46, 0, 55)], []), [(.inr none, 245, ([], [], []))])
set_option maxRecDepth 100000 in
theorem p2_s660_e : ck_ok p2_O none [] [] 58 [] 114 p2_s660 = true := by decide +kernel
theorem p2_s660_s {X : Int → Int} {LX : Nat} : ck_Ok p2_O X LX 58 p2_s660 := ck_ok_s ⟨p2_nmu, ck_E0⟩ ck_X0 ck_l0 p2_s660_e
set_option maxRecDepth 100000 in
/-- GlacierMail$Rows.copyFrom -/
def p2_s661 : ck_Sum := ((1, 0, 0), 245, [.inr (.inr (.inl 47)), .inr (.inr (.inl 6))], ([], [], []), ([(47, 3, 3), (48, 0, 23)], []), [(.inr none, 245, ([], [], []))])
set_option maxRecDepth 100000 in
theorem p2_s661_e : ck_ok p2_O none [] [] 58 [] 114 p2_s661 = true := by decide +kernel
theorem p2_s661_s {X : Int → Int} {LX : Nat} : ck_Ok p2_O X LX 58 p2_s661 := ck_ok_s ⟨p2_nmu, ck_E0⟩ ck_X0 ck_l0 p2_s661_e
set_option maxRecDepth 100000 in
/-- GlacierMail$Rows.copyFrom -/
def p2_s662 : ck_Sum := ((1, 0, 0), 245, [.inr (.inr (.inl 49)), .inr (.inr (.inl 8))], ([], [], []), ([(49, 3, 3), (50, 0, 23)], []), [(.inr none, 245, ([], [], []))])
set_option maxRecDepth 100000 in
theorem p2_s662_e : ck_ok p2_O none [] [] 58 [] 114 p2_s662 = true := by decide +kernel
theorem p2_s662_s {X : Int → Int} {LX : Nat} : ck_Ok p2_O X LX 58 p2_s662 := ck_ok_s ⟨p2_nmu, ck_E0⟩ ck_X0 ck_l0 p2_s662_e
set_option maxRecDepth 100000 in
/-- GlacierMail$Rows.copyFrom -/
def p2_s663 : ck_Sum := ((1, 0, 0), 245, [.inr (.inr (.inl 51)), .inr (.inr (.inl 10))], ([], [], []), ([(51, 3, 3), (52, 0, 167)], []), [(.inr none, 245, ([], [], []))])
set_option maxRecDepth 100000 in
theorem p2_s663_e : ck_ok p2_O none [] [] 58 [] 114 p2_s663 = true := by decide +kernel
theorem p2_s663_s {X : Int → Int} {LX : Nat} : ck_Ok p2_O X LX 58 p2_s663 := ck_ok_s ⟨p2_nmu, ck_E0⟩ ck_X0 ck_l0 p2_s663_e
set_option maxRecDepth 100000 in
/-- GlacierMail$Rows.copyFrom -/
def p2_s664 : ck_Sum := ((1, 0, 0), 245, [.inr (.inr (.inl 53)), .inr (.inr (.inl 12))], ([], [], []), ([(53, 3, 3), (54, 0, 35)], []), [(.inr none, 245, ([], [], []))])
set_option maxRecDepth 100000 in
theorem p2_s664_e : ck_ok p2_O none [] [] 58 [] 114 p2_s664 = true := by decide +kernel
theorem p2_s664_s {X : Int → Int} {LX : Nat} : ck_Ok p2_O X LX 58 p2_s664 := ck_ok_s ⟨p2_nmu, ck_E0⟩ ck_X0 ck_l0 p2_s664_e
set_option maxRecDepth 100000 in
/-- GlacierMail$Rows.copyFrom -/
def p2_s665 : ck_Sum := ((1, 0, 0), 245, [.inr (.inr (.inl 55)), .inr (.inr (.inl 14))], ([], [], []), ([(55, 3, 3), (56, 0, 71)], []), [(.inr none, 245, ([], [], []))])
set_option maxRecDepth 100000 in
theorem p2_s665_e : ck_ok p2_O none [] [] 58 [] 114 p2_s665 = true := by decide +kernel
theorem p2_s665_s {X : Int → Int} {LX : Nat} : ck_Ok p2_O X LX 58 p2_s665 := ck_ok_s ⟨p2_nmu, ck_E0⟩ ck_X0 ck_l0 p2_s665_e
set_option maxRecDepth 100000 in
/-- GlacierMail$State.copyFrom -/
def p2_s666 : ck_Sum := ((2, 0, 0), 245, [.inr (.inr (.inl 44)), .inr (.inr (.inl 3))], ([], [(3, 8, 0), (44, 8, 100044)], [(3, 6, 6, (0, 299, [(10, 0)]))]), ([(44, 0, 7), (45, 3, 3), (46, 0, 55), (47, 3, 3), (48, 0, 23), (49, 3, 3), (50, 0, 23), (51, 3, 3), (52, 0, 167), (53, 3, 3), (54, 0, 35), (55, 3, 3), (56, 0, 71)], [(44, 8)]), [(.inr none, 245, ([], [(44, 8, 0)], [(44, 6, 6, (0, 299, [(10, 0)]))]))])
set_option maxRecDepth 100000 in
theorem p2_s666_e : ck_ok p2_O none [] [(58, [p2_s660, p2_s661, p2_s662, p2_s663, p2_s664, p2_s665])] 57 [] 204 p2_s666 = true := by decide +kernel
theorem p2_s666_s {X : Int → Int} {LX : Nat} : ck_Ok p2_O X LX 57 p2_s666 := ck_ok_s ⟨p2_nmu, ck_E1 (ck_S1 p2_s660_s (ck_S1 p2_s661_s (ck_S1 p2_s662_s (ck_S1 p2_s663_s (ck_S1 p2_s664_s (ck_S1 p2_s665_s ck_S0)))))) ck_E0⟩ ck_X0 ck_l0 p2_s666_e
set_option maxRecDepth 100000 in
/-- GlacierMail$History.remember -/
def p2_s667 : ck_Sum := ((3, 0, 0), 245, [.inr (.inr (.inl 42)), .inr (.inr (.inl 3))], ([], [(3, 8, 0), (44, 8, 100044), (57, 8, 100057), (70, 8, 100070), (83, 8, 100083), (96, 8, 100096), (109, 8, 100109), (122, 8, 100122), (135, 8, 100135), (148, 8, 100148), (161, 8, 100161), (174, 8, 100174), (187, 8, 100187)], [(3, 6, 6, (0, 299, [(10, 0)]))]), ([(42, 1, 2), (44, 0, 7), (45, 3, 3), (46, 0, 55), (47, 3, 3), (48, 0, 23), (49, 3, 3), (50, 0, 23), (51, 3, 3), (52, 0, 167), (53, 3, 3), (54, 0, 35), (55, 3, 3), (56, 0, 71), (57, 0, 7), (58, 3, 3), (59, 0, 55), (60, 3, 3), (61, 0, 23), (62, 3, 3), (63, 0, 23), (64, 3, 3), (65, 0, 167), (66, 3, 3), (67, 0, 35), (68, 3, 3), (69, 0, 71), (70, 0, 7), (71, 3, 3), (72, 0, 55), (73, 3, 3), (74, 0, 23), (75, 3, 3), (76, 0, 23), (77, 3, 3), (78, 0, 167), (79, 3, 3), (80, 0, 35), (81, 3, 3), (82, 0, 71), (83, 0, 7), (84, 3, 3), (85, 0, 55), (86, 3, 3), (87, 0, 23), (88, 3, 3), (89, 0, 23), (90, 3, 3), (91, 0, 167), (92, 3, 3), (93, 0, 35), (94, 3, 3), (95, 0, 71), (96, 0, 7), (97, 3, 3), (98, 0, 55), (99, 3, 3), (100, 0, 23), (101, 3, 3), (102, 0, 23), (103, 3, 3), (104, 0, 167), (105, 3, 3), (106, 0, 35), (107, 3, 3), (108, 0, 71), (109, 0, 7), (110, 3, 3), (111, 0, 55), (112, 3, 3), (113, 0, 23), (114, 3, 3), (115, 0, 23), (116, 3, 3), (117, 0, 167), (118, 3, 3), (119, 0, 35), (120, 3, 3), (121, 0, 71), (122, 0, 7), (123, 3, 3), (124, 0, 55), (125, 3, 3), (126, 0, 23), (127, 3, 3), (128, 0, 23), (129, 3, 3), (130, 0, 167), (131, 3, 3), (132, 0, 35), (133, 3, 3), (134, 0, 71), (135, 0, 7), (136, 3, 3), (137, 0, 55), (138, 3, 3), (139, 0, 23), (140, 3, 3), (141, 0, 23), (142, 3, 3), (143, 0, 167), (144, 3, 3), (145, 0, 35), (146, 3, 3), (147, 0, 71), (148, 0, 7), (149, 3, 3), (150, 0, 55), (151, 3, 3), (152, 0, 23), (153, 3, 3), (154, 0, 23), (155, 3, 3), (156, 0, 167), (157, 3, 3), (158, 0, 35), (159, 3, 3), (160, 0, 71), (161, 0, 7), (162, 3, 3), (163, 0, 55), (164, 3, 3), (165, 0, 23), (166, 3, 3), (167, 0, 23), (168, 3, 3), (169, 0, 167), (170, 3, 3), (171, 0, 35), (172, 3, 3), (173, 0, 71), (174, 0, 7), (175, 3, 3), (176, 0, 55), (177, 3, 3), (178, 0, 23), (179, 3, 3), (180, 0, 23), (181, 3, 3), (182, 0, 167), (183, 3, 3), (184, 0, 35), (185, 3, 3), (186, 0, 71), (187, 0, 7), (188, 3, 3), (189, 0, 55), (190, 3, 3), (191, 0, 23), (192, 3, 3), (193, 0, 23), (194, 3, 3), (195, 0, 167), (196, 3, 3), (197, 0, 35), (198, 3, 3), (199, 0, 71)], [(44, 8), (57, 8), (70, 8), (83, 8), (96, 8), (109, 8), (122, 8), (135, 8), (148, 8), (161, 8), (174, 8), (187, 8)]), [(.inr none, 245, ([], [(44, 8, 100044), (57, 8, 100057), (70, 8, 100070), (83, 8, 100083), (96, 8, 100096), (109, 8, 100109), (122, 8, 100122), (135, 8, 100135), (148, 8, 100148), (161, 8, 100161), (174, 8, 100174), (187, 8, 100187)], [(42, 2, 2, (1, 12, [])), (42, 1, 1, (0, 11, []))])), (.inr none, 245, ([], [(44, 8, 100044), (57, 8, 0), (70, 8, 100070), (83, 8, 100083), (96, 8, 100096), (109, 8, 100109), (122, 8, 100122), (135, 8, 100135), (148, 8, 100148), (161, 8, 100161), (174, 8, 100174), (187, 8, 100187)], [(42, 2, 2, (1, 12, [])), (42, 1, 1, (0, 11, [])), (57, 6, 6, (0, 299, [(10, 0)]))])), (.inr none, 245, ([], [(44, 8, 100044), (57, 8, 100057), (70, 8, 0), (83, 8, 100083), (96, 8, 100096), (109, 8, 100109), (122, 8, 100122), (135, 8, 100135), (148, 8, 100148), (161, 8, 100161), (174, 8, 100174), (187, 8, 100187)], [(42, 2, 2, (1, 12, [])), (42, 1, 1, (0, 11, [])), (70, 6, 6, (0, 299, [(10, 0)]))])), (.inr none, 245, ([], [(44, 8, 100044), (57, 8, 100057), (70, 8, 100070), (83, 8, 0), (96, 8, 100096), (109, 8, 100109), (122, 8, 100122), (135, 8, 100135), (148, 8, 100148), (161, 8, 100161), (174, 8, 100174), (187, 8, 100187)], [(42, 2, 2, (1, 12, [])), (42, 1, 1, (0, 11, [])), (83, 6, 6, (0, 299, [(10, 0)]))])), (.inr none, 245, ([], [(44, 8, 100044), (57, 8, 100057), (70, 8, 100070), (83, 8, 100083), (96, 8, 0), (109, 8, 100109), (122, 8, 100122), (135, 8, 100135), (148, 8, 100148), (161, 8, 100161), (174, 8, 100174), (187, 8, 100187)], [(42, 2, 2, (1, 12, [])), (42, 1, 1, (0, 11, [])), (96, 6, 6, (0, 299, [(10, 0)]))])), (.inr none, 245, ([], [(44, 8, 100044), (57, 8, 100057), (70, 8, 100070), (83, 8, 100083), (96, 8, 100096), (109, 8, 0), (122, 8, 100122), (135, 8, 100135), (148, 8, 100148), (161, 8, 100161), (174, 8, 100174), (187, 8, 100187)], [(42, 2, 2, (1, 12, [])), (42, 1, 1, (0, 11, [])), (109, 6, 6, (0, 299, [(10, 0)]))])), (.inr none, 245, ([], [(44, 8, 100044), (57, 8, 100057), (70, 8, 100070), (83, 8, 100083), (96, 8, 100096), (109, 8, 100109), (122, 8, 0), (135, 8, 100135), (148, 8, 100148), (161, 8, 100161), (174, 8, 100174), (187, 8, 100187)], [(42, 2, 2, (1, 12, [])), (42, 1, 1, (0, 11, [])), (122, 6, 6, (0, 299, [(10, 0)]))])), (.inr none, 245, ([], [(44, 8, 100044), (57, 8, 100057), (70, 8, 100070), (83, 8, 100083), (96, 8, 100096), (109, 8, 100109), (122, 8, 100122), (135, 8, 0), (148, 8, 100148), (161, 8, 100161), (174, 8, 100174), (187, 8, 100187)], [(42, 2, 2, (1, 12, [])), (42, 1, 1, (0, 11, [])), (135, 6, 6, (0, 299, [(10, 0)]))])), (.inr none, 245, ([], [(44, 8, 100044), (57, 8, 100057), (70, 8, 100070), (83, 8, 100083), (96, 8, 100096), (109, 8, 100109), (122, 8, 100122), (135, 8, 100135), (148, 8, 0), (161, 8, 100161), (174, 8, 100174), (187, 8, 100187)], [(42, 2, 2, (1, 12, [])), (42, 1, 1, (0, 11, [])), (148, 6, 6, (0, 299, [(10, 0)]))])), (.inr none, 245, ([], [(44, 8, 100044), (57, 8, 100057), (70, 8, 100070), (83, 8, 100083), (96, 8, 100096), (109, 8, 100109), (122, 8, 100122), (135, 8, 100135), (148, 8, 100148), (161, 8, 0), (174, 8, 100174), (187, 8, 100187)], [(42, 2, 2, (1, 12, [])), (42, 1, 1, (0, 11, [])), (161, 6, 6, (0, 299, [(10, 0)]))])), (.inr none, 245, ([], [(44, 8, 100044), (57, 8, 100057), (70, 8, 100070), (83, 8, 100083), (96, 8, 100096), (109, 8, 100109), (122, 8, 100122), (135, 8, 100135), (148, 8, 100148), (161, 8, 100161), (174, 8, 0), (187, 8, 100187)], [(42, 2, 2, (1, 12, [])), (42, 1, 1, (0, 11, [])), (174, 6, 6, (0, 299, [(10, 0)]))])), (.inr none, 245, ([], [(44, 8, 100044), (57, 8, 100057), (70, 8, 100070), (83, 8, 100083), (96, 8, 100096), (109, 8, 100109), (122, 8, 100122), (135, 8, 100135), (148, 8, 100148), (161, 8, 100161), (174, 8, 100174), (187, 8, 0)], [(42, 2, 2, (1, 12, [])), (42, 1, 1, (0, 11, [])), (187, 6, 6, (0, 299, [(10, 0)]))])), (.inr none, 245, ([], [(44, 8, 0), (57, 8, 100057), (70, 8, 100070), (83, 8, 100083), (96, 8, 100096), (109, 8, 100109), (122, 8, 100122), (135, 8, 100135), (148, 8, 100148), (161, 8, 100161), (174, 8, 100174), (187, 8, 100187)], [(42, 2, 2, (1, 12, [])), (42, 1, 1, (0, 11, [])), (44, 6, 6, (0, 299, [(10, 0)]))]))])
set_option maxRecDepth 100000 in
theorem p2_s667_e : ck_ok p2_O none [] [(56, [p2_s582]), (57, [p2_s589, p2_s596, p2_s603, p2_s610, p2_s617, p2_s624, p2_s631, p2_s638, p2_s645, p2_s652, p2_s659, p2_s666])] 154 [] 124 p2_s667 = true := by decide +kernel
theorem p2_s667_s {X : Int → Int} {LX : Nat} : ck_Ok p2_O X LX 154 p2_s667 := ck_ok_s ⟨p2_nmu, ck_E1 (ck_S1 p2_s582_s ck_S0) (ck_E1 (ck_S1 p2_s589_s (ck_S1 p2_s596_s (ck_S1 p2_s603_s (ck_S1 p2_s610_s (ck_S1 p2_s617_s (ck_S1 p2_s624_s (ck_S1 p2_s631_s (ck_S1 p2_s638_s (ck_S1 p2_s645_s (ck_S1 p2_s652_s (ck_S1 p2_s659_s (ck_S1 p2_s666_s ck_S0)))))))))))) ck_E0)⟩ ck_X0 ck_l0 p2_s667_e
set_option maxRecDepth 100000 in
/-- GlacierMail$Rows.add -/
def p2_s668 : ck_Sum := ((0, 0, 0), 245, [.inr (.inr (.inl 10))], ([], [], []), ([(10, 3, 3)], []), [(.inr (some (.inl (0, 23, []))), 245, ([], [], [(10, 3, 3, (1, 24, []))])), (.inr (some (.inl (ck_one (-1)))), 245, ([], [], [(10, 3, 3, ck_one 24)]))])
set_option maxRecDepth 100000 in
theorem p2_s668_e : ck_ok p2_O none [] [] 102 [] 102 p2_s668 = true := by decide +kernel
theorem p2_s668_s {X : Int → Int} {LX : Nat} : ck_Ok p2_O X LX 102 p2_s668 := ck_ok_s ⟨p2_nmu, ck_E0⟩ ck_X0 ck_l0 p2_s668_e
