/-! 78r80a20.sf -/
section
/-! EVERY CALL ENDS, whatever was done before (laid by wip/am/p2k.py). -/
set_option maxRecDepth 100000 in
/-- GlacierMailModel.outsIn -/
noncomputable def p2_s1578 : ck_Sum := ((2, 0, 0), 245, [.inr (.inr (.inl 226)), .inl (0, 327, []), .inl (ck_one 0), .inl (ck_one 0)], ([], [], [(227, 4, 4, (0, 24, [(22, 0)]))]), ([], []), [(.inr (some (.inl ((-2147483648), 2147483647, []))), 245, ([], [], []))])
set_option maxRecDepth 100000 in
theorem p2_s1578_s {X : Int → Int} {LX : Nat} : ck_Ok p2_O X LX 333 p2_s1578 := ck_ok_s (O := p2_O) (X := X) (LX := LX) (E := [(254, [p2_s176]), (301, [p2_s375]), (303, [p2_s374])]) (mi := 333) (cuts := [(6, [some (.inr (.inr (.inl 226))), some (.inl (0, 327, [])), some (.inl (ck_one 0)), some (.inl (ck_one 0)), some (.inl ((-2147483648), 2147483647, [])), some (.inl (0, 24, []))], ([], [], [(227, 4, 4, (0, 24, [(22, 0)]))]), 100, .inl 5, true)]) (f := 218) (S := p2_s1578) (lx := none) (XF := []) ⟨p2_nmu, ck_E1 (ck_S1 p2_s176_s ck_S0) (ck_E1 (ck_S1 p2_s375_s ck_S0) (ck_E1 (ck_S1 p2_s374_s ck_S0) ck_E0))⟩ ck_X0 ck_l0 (by decide +kernel)
set_option maxRecDepth 100000 in
/-- GlacierMailModel.outsIn -/
noncomputable def p2_s1579 : ck_Sum := ((2, 0, 0), 245, [.inr (.inr (.inl 226)), .inl (0, 327, []), .inl (1, 5, []), .inl (ck_one 0)], ([], [], [(227, 4, 4, (0, 24, [(22, 0)]))]), ([], []), [(.inr (some (.inl ((-2147483648), 2147483647, []))), 245, ([], [], []))])
set_option maxRecDepth 100000 in
theorem p2_s1579_s {X : Int → Int} {LX : Nat} : ck_Ok p2_O X LX 333 p2_s1579 := ck_ok_s (O := p2_O) (X := X) (LX := LX) (E := [(254, [p2_s176]), (301, [p2_s375]), (303, [p2_s374])]) (mi := 333) (cuts := [(6, [some (.inr (.inr (.inl 226))), some (.inl (0, 327, [])), some (.inl (1, 5, [])), some (.inl (ck_one 0)), some (.inl ((-2147483648), 2147483647, [])), some (.inl (0, 24, []))], ([], [], [(227, 4, 4, (0, 24, [(22, 0)]))]), 100, .inl 5, true)]) (f := 218) (S := p2_s1579) (lx := none) (XF := []) ⟨p2_nmu, ck_E1 (ck_S1 p2_s176_s ck_S0) (ck_E1 (ck_S1 p2_s375_s ck_S0) (ck_E1 (ck_S1 p2_s374_s ck_S0) ck_E0))⟩ ck_X0 ck_l0 (by decide +kernel)
set_option maxRecDepth 100000 in
/-- GlacierMailModel.outsIn -/
noncomputable def p2_s1580 : ck_Sum := ((2, 0, 0), 245, [.inr (.inr (.inl 226)), .inl (0, 327, []), .inl (1, 4, []), .inl (ck_one 0)], ([], [], [(227, 4, 4, (0, 24, [(22, 0)]))]), ([], []), [(.inr (some (.inl ((-2147483648), 2147483647, []))), 245, ([], [], []))])
set_option maxRecDepth 100000 in
theorem p2_s1580_s {X : Int → Int} {LX : Nat} : ck_Ok p2_O X LX 333 p2_s1580 := ck_ok_s (O := p2_O) (X := X) (LX := LX) (E := [(254, [p2_s176]), (301, [p2_s375]), (303, [p2_s374])]) (mi := 333) (cuts := [(6, [some (.inr (.inr (.inl 226))), some (.inl (0, 327, [])), some (.inl (1, 4, [])), some (.inl (ck_one 0)), some (.inl ((-2147483648), 2147483647, [])), some (.inl (0, 24, []))], ([], [], [(227, 4, 4, (0, 24, [(22, 0)]))]), 100, .inl 5, true)]) (f := 218) (S := p2_s1580) (lx := none) (XF := []) ⟨p2_nmu, ck_E1 (ck_S1 p2_s176_s ck_S0) (ck_E1 (ck_S1 p2_s375_s ck_S0) (ck_E1 (ck_S1 p2_s374_s ck_S0) ck_E0))⟩ ck_X0 ck_l0 (by decide +kernel)
set_option maxRecDepth 100000 in
/-- GlacierMail.watchman -/
noncomputable def p2_s1583 : ck_Sum := ((7, 1, 6), 245, [.inr (.inr (.inl 1)), .inl ((-2147483648), (-1), []), .inl (0, 1, [])], ([], [], []), ([], []), [(.inl 0, 245, ([], [], []))])
set_option maxRecDepth 100000 in
theorem p2_s1583_s {X : Int → Int} {LX : Nat} : ck_Ok p2_O X LX 218 p2_s1583 := ck_ok_s (O := p2_O) (X := X) (LX := LX) (E := [(214, [p2_s1554])]) (mi := 218) (cuts := []) (f := 76) (S := p2_s1583) (lx := none) (XF := []) ⟨p2_nmu, ck_E1 (ck_S1 p2_s1554_s ck_S0) ck_E0⟩ ck_X0 ck_l0 (by decide +kernel)
set_option maxRecDepth 100000 in
/-- GlacierMail.watchman -/
noncomputable def p2_s1584 : ck_Sum := ((7, 1, 6), 245, [.inr (.inr (.inl 1)), .inl (31, 2147483647, []), .inl (0, 1, [])], ([], [], []), ([], []), [(.inl 0, 245, ([], [], []))])
set_option maxRecDepth 100000 in
theorem p2_s1584_s {X : Int → Int} {LX : Nat} : ck_Ok p2_O X LX 218 p2_s1584 := ck_ok_s (O := p2_O) (X := X) (LX := LX) (E := [(214, [p2_s1556])]) (mi := 218) (cuts := []) (f := 76) (S := p2_s1584) (lx := none) (XF := []) ⟨p2_nmu, ck_E1 (ck_S1 p2_s1556_s ck_S0) ck_E0⟩ ck_X0 ck_l0 (by decide +kernel)
set_option maxRecDepth 100000 in
/-- GlacierMail.mostBeside -/
noncomputable def p2_s1585 : ck_Sum := ((1, 0, 0), 245, [.inr (.inr (.inl 1)), .inl (0, 5, []), .inl (0, 30, [])], ([], [], []), ([], []), [(.inr (some (.inl (0, 2147483647, []))), 245, ([], [], []))])
set_option maxRecDepth 100000 in
theorem p2_s1585_s {X : Int → Int} {LX : Nat} : ck_Ok p2_O X LX 219 p2_s1585 := ck_ok_s (O := p2_O) (X := X) (LX := LX) (E := [(10, [p2_s1561])]) (mi := 219) (cuts := [(5, [some (.inr (.inr (.inl 1))), some (.inl (0, 5, [])), some (.inl (0, 30, [])), some (.inl (0, 2147483647, [])), some (.inl (0, 6, [])), none, none], ([], [], []), 100, .inl 4, true), (23, [some (.inr (.inr (.inl 1))), some (.inl (0, 5, [])), some (.inl (0, 30, [])), some (.inl (0, 2147483647, [])), some (.inl (0, 5, [(100, 0)])), some (.inl ((-2147483648), 2147483647, [])), some (.inl (0, 30, []))], ([], [], []), 300, .inl 6, true)]) (f := 194) (S := p2_s1585) (lx := none) (XF := []) ⟨p2_nmu, ck_E1 (ck_S1 p2_s1561_s ck_S0) ck_E0⟩ ck_X0 ck_l0 (by decide +kernel)
set_option maxRecDepth 100000 in
/-- GlacierMail.mostBeside -/
noncomputable def p2_s1586 : ck_Sum := ((1, 0, 0), 245, [.inr (.inr (.inl 1)), .inl (1, 5, []), .inl (0, 30, [])], ([], [], []), ([], []), [(.inr (some (.inl (0, 2147483647, []))), 245, ([], [], []))])
set_option maxRecDepth 100000 in
theorem p2_s1586_s {X : Int → Int} {LX : Nat} : ck_Ok p2_O X LX 219 p2_s1586 := ck_ok_s (O := p2_O) (X := X) (LX := LX) (E := [(10, [p2_s1561])]) (mi := 219) (cuts := [(5, [some (.inr (.inr (.inl 1))), some (.inl (1, 5, [])), some (.inl (0, 30, [])), some (.inl (0, 2147483647, [])), some (.inl (0, 6, [])), none, none], ([], [], []), 100, .inl 4, true), (23, [some (.inr (.inr (.inl 1))), some (.inl (1, 5, [])), some (.inl (0, 30, [])), some (.inl (0, 2147483647, [])), some (.inl (0, 5, [(100, 0)])), some (.inl ((-2147483648), 2147483647, [])), some (.inl (0, 30, []))], ([], [], []), 300, .inl 6, true)]) (f := 194) (S := p2_s1586) (lx := none) (XF := []) ⟨p2_nmu, ck_E1 (ck_S1 p2_s1561_s ck_S0) ck_E0⟩ ck_X0 ck_l0 (by decide +kernel)
set_option maxRecDepth 100000 in
/-- GlacierMailModel.watchman -/
noncomputable def p2_s1588 : ck_Sum := ((1, 0, 0), 245, [.inr (.inr (.inl 226)), .inl ((-2147483648), (-1), []), .inl (0, 1, [])], ([], [], []), ([(226, 0, 0)], []), [(.inr (some (.inl (ck_one 0))), 245, ([], [], [(226, 0, 0, ck_one 1)]))])
set_option maxRecDepth 100000 in
theorem p2_s1588_s {X : Int → Int} {LX : Nat} : ck_Ok p2_O X LX 359 p2_s1588 := ck_ok_s (O := p2_O) (X := X) (LX := LX) (E := [(286, [p2_s1570]), (282, [p2_s241])]) (mi := 359) (cuts := []) (f := 102) (S := p2_s1588) (lx := none) (XF := []) ⟨p2_nmu, ck_E1 (ck_S1 p2_s1570_s ck_S0) (ck_E1 (ck_S1 p2_s241_s ck_S0) ck_E0)⟩ ck_X0 ck_l0 (by decide +kernel)
set_option maxRecDepth 100000 in
/-- GlacierMailModel.watchman -/
noncomputable def p2_s1589 : ck_Sum := ((1, 0, 0), 245, [.inr (.inr (.inl 226)), .inl (31, 2147483647, []), .inl (0, 1, [])], ([], [], []), ([(226, 0, 0)], []), [(.inr (some (.inl (ck_one 0))), 245, ([], [], [(226, 0, 0, ck_one 1)]))])
set_option maxRecDepth 100000 in
theorem p2_s1589_s {X : Int → Int} {LX : Nat} : ck_Ok p2_O X LX 359 p2_s1589 := ck_ok_s (O := p2_O) (X := X) (LX := LX) (E := [(286, [p2_s1572]), (282, [p2_s241])]) (mi := 359) (cuts := []) (f := 102) (S := p2_s1589) (lx := none) (XF := []) ⟨p2_nmu, ck_E1 (ck_S1 p2_s1572_s ck_S0) (ck_E1 (ck_S1 p2_s241_s ck_S0) ck_E0)⟩ ck_X0 ck_l0 (by decide +kernel)
set_option maxRecDepth 100000 in
/-- GlacierMail.meeting -/
noncomputable def p2_s1591 : ck_Sum := ((8, 1, 6), 245, [.inr (.inr (.inl 1)), .inl ((-2147483648), (-1), []), .inl ((-2147483648), 2147483647, [])], ([], [], []), ([], []), [(.inl 3, 245, ([], [], []))])
set_option maxRecDepth 100000 in
theorem p2_s1591_s {X : Int → Int} {LX : Nat} : ck_Ok p2_O X LX 221 p2_s1591 := ck_ok_s (O := p2_O) (X := X) (LX := LX) (E := [(143, [p2_s387])]) (mi := 221) (cuts := []) (f := 76) (S := p2_s1591) (lx := none) (XF := []) ⟨p2_nmu, ck_E1 (ck_S1 p2_s387_s ck_S0) ck_E0⟩ ck_X0 ck_l0 (by decide +kernel)
set_option maxRecDepth 100000 in
/-- GlacierMail.meeting -/
noncomputable def p2_s1592 : ck_Sum := ((8, 1, 6), 245, [.inr (.inr (.inl 1)), .inl (24, 2147483647, []), .inl ((-2147483648), 2147483647, [])], ([], [], []), ([], []), [(.inl 3, 245, ([], [], []))])
set_option maxRecDepth 100000 in
theorem p2_s1592_s {X : Int → Int} {LX : Nat} : ck_Ok p2_O X LX 221 p2_s1592 := ck_ok_s (O := p2_O) (X := X) (LX := LX) (E := [(143, [p2_s390])]) (mi := 221) (cuts := []) (f := 76) (S := p2_s1592) (lx := none) (XF := []) ⟨p2_nmu, ck_E1 (ck_S1 p2_s390_s ck_S0) ck_E0⟩ ck_X0 ck_l0 (by decide +kernel)
set_option maxRecDepth 100000 in
/-- GlacierMail.meeting -/
noncomputable def p2_s1593 : ck_Sum := ((8, 2, 12), 245, [.inr (.inr (.inl 1)), .inl (0, 23, []), .inl ((-2147483648), (-1), [])], ([], [], []), ([], []), [(.inl 3, 245, ([], [], []))])
set_option maxRecDepth 100000 in
theorem p2_s1593_s {X : Int → Int} {LX : Nat} : ck_Ok p2_O X LX 221 p2_s1593 := ck_ok_s (O := p2_O) (X := X) (LX := LX) (E := [(143, [p2_s393, p2_s387])]) (mi := 221) (cuts := []) (f := 82) (S := p2_s1593) (lx := none) (XF := []) ⟨p2_nmu, ck_E1 (ck_S1 p2_s393_s (ck_S1 p2_s387_s ck_S0)) ck_E0⟩ ck_X0 ck_l0 (by decide +kernel)
set_option maxRecDepth 100000 in
/-- GlacierMail.meeting -/
noncomputable def p2_s1594 : ck_Sum := ((8, 2, 12), 245, [.inr (.inr (.inl 1)), .inl (0, 23, []), .inl (24, 2147483647, [])], ([], [], []), ([], []), [(.inl 3, 245, ([], [], []))])
set_option maxRecDepth 100000 in
theorem p2_s1594_s {X : Int → Int} {LX : Nat} : ck_Ok p2_O X LX 221 p2_s1594 := ck_ok_s (O := p2_O) (X := X) (LX := LX) (E := [(143, [p2_s393, p2_s390])]) (mi := 221) (cuts := []) (f := 82) (S := p2_s1594) (lx := none) (XF := []) ⟨p2_nmu, ck_E1 (ck_S1 p2_s393_s (ck_S1 p2_s390_s ck_S0)) ck_E0⟩ ck_X0 ck_l0 (by decide +kernel)
set_option maxRecDepth 100000 in
/-- GlacierMail.needUnlike -/
noncomputable def p2_s1595 : ck_Sum := ((6, 1, 6), 245, [.inr (.inr (.inl 1)), .inl (0, 23, []), .inl (0, 23, [])], ([], [], []), ([], []), [(.inr none, 245, ([], [], [])), (.inl 0, 245, ([], [], []))])
set_option maxRecDepth 100000 in
theorem p2_s1595_s {X : Int → Int} {LX : Nat} : ck_Ok p2_O X LX 153 p2_s1595 := ck_ok_s (O := p2_O) (X := X) (LX := LX) (E := []) (mi := 153) (cuts := []) (f := 78) (S := p2_s1595) (lx := none) (XF := []) ⟨p2_nmu, ck_E0⟩ ck_X0 ck_l0 (by decide +kernel)
set_option maxRecDepth 100000 in
/-- GlacierMail.startBoth -/
noncomputable def p2_s1596 : ck_Sum := ((4, 0, 0), 245, [.inr (.inr (.inl 1)), .inl (0, 23, []), .inl (0, 23, []), .inl (0, 299, [])], ([], [(3, 8, 0)], []), ([(206, 2, 8), (207, 2, 8)], []), [(.inr (some (.inl (0, 299, []))), 245, ([], [], zl86))])
set_option maxRecDepth 100000 in
theorem p2_s1596_s {X : Int → Int} {LX : Nat} : ck_Ok p2_O X LX 182 p2_s1596 := ck_ok_s (O := p2_O) (X := X) (LX := LX) (E := [(27, [p2_s339, p2_s1381]), (148, [p2_s421, p2_s1386])]) (mi := 182) (cuts := []) (f := 126) (S := p2_s1596) (lx := none) (XF := []) ⟨p2_nmu, ck_E1 (ck_S1 p2_s339_s (ck_S1 p2_s1381_s ck_S0)) (ck_E1 (ck_S1 p2_s421_s (ck_S1 p2_s1386_s ck_S0)) ck_E0)⟩ ck_X0 ck_l0 (by decide +kernel)
set_option maxRecDepth 100000 in
/-- GlacierMail.meeting -/
noncomputable def p2_s1597 : ck_Sum := ((8, 3, 18), 245, [.inr (.inr (.inl 1)), .inl (0, 23, []), .inl (0, 23, [])], ([], [(3, 8, 0)], [(3, 6, 6, (0, 299, [(10, 0)]))]), ([(206, 2, 8), (207, 2, 8)], []), [(.inl 3, 245, ([], [], [])), (.inl 0, 245, ([], [], [])), (.inr (some (.inl (ck_one (-1)))), 245, ([], [], [])), (.inr (some (.inl (0, 299, []))), 245, ([], [], zl207))])
set_option maxRecDepth 100000 in
theorem p2_s1597_s {X : Int → Int} {LX : Nat} : ck_Ok p2_O X LX 221 p2_s1597 := ck_ok_s (O := p2_O) (X := X) (LX := LX) (E := [(143, [p2_s393]), (153, [p2_s1595]), (180, [p2_s1378]), (182, [p2_s1596]), (183, [p2_s1388]), (184, [p2_s1389])]) (mi := 221) (cuts := [(44, [some (.inr (.inr (.inl 1))), some (.inl (0, 23, [])), some (.inl (0, 23, [])), some (.inl (0, 299, [])), some (.inl (0, 300, []))], ([], [(3, 8, 0)], [(206, 4, 4, ck_one (-1)), (206, 2, 2, ((-1), 299, [])), (3, 6, 6, (0, 299, [(10, 0)]))]), 100, .inl 4, true)]) (f := 194) (S := p2_s1597) (lx := none) (XF := []) ⟨p2_nmu, ck_E1 (ck_S1 p2_s393_s ck_S0) (ck_E1 (ck_S1 p2_s1595_s ck_S0) (ck_E1 (ck_S1 p2_s1378_s ck_S0) (ck_E1 (ck_S1 p2_s1596_s ck_S0) (ck_E1 (ck_S1 p2_s1388_s ck_S0) (ck_E1 (ck_S1 p2_s1389_s ck_S0) ck_E0)))))⟩ ck_X0 ck_l0 (by decide +kernel)
set_option maxRecDepth 100000 in
/-- GlacierMailModel.meeting -/
noncomputable def p2_s1598 : ck_Sum := ((2, 0, 0), 245, [.inr (.inr (.inl 226)), .inl ((-2147483648), (-1), []), .inl ((-2147483648), 2147483647, [])], ([], [], [(227, 4, 4, (0, 24, [(22, 0)]))]), ([(226, 0, 0)], []), [(.inr (some (.inl (ck_one 0))), 245, ([], [], [(226, 0, 0, ck_one 1)]))])
set_option maxRecDepth 100000 in
theorem p2_s1598_s {X : Int → Int} {LX : Nat} : ck_Ok p2_O X LX 360 p2_s1598 := ck_ok_s (O := p2_O) (X := X) (LX := LX) (E := [(309, [p2_s400]), (282, [p2_s241])]) (mi := 360) (cuts := []) (f := 100) (S := p2_s1598) (lx := none) (XF := []) ⟨p2_nmu, ck_E1 (ck_S1 p2_s400_s ck_S0) (ck_E1 (ck_S1 p2_s241_s ck_S0) ck_E0)⟩ ck_X0 ck_l0 (by decide +kernel)
set_option maxRecDepth 100000 in
/-- GlacierMailModel.meeting -/
noncomputable def p2_s1599 : ck_Sum := ((2, 0, 0), 245, [.inr (.inr (.inl 226)), .inl (24, 2147483647, []), .inl ((-2147483648), 2147483647, [])], ([], [], [(227, 4, 4, (0, 24, [(22, 0)]))]), ([(226, 0, 0)], []), [(.inr (some (.inl (ck_one 0))), 245, ([], [], [(226, 0, 0, ck_one 1)]))])
set_option maxRecDepth 100000 in
theorem p2_s1599_s {X : Int → Int} {LX : Nat} : ck_Ok p2_O X LX 360 p2_s1599 := ck_ok_s (O := p2_O) (X := X) (LX := LX) (E := [(309, [p2_s403]), (282, [p2_s241])]) (mi := 360) (cuts := []) (f := 100) (S := p2_s1599) (lx := none) (XF := []) ⟨p2_nmu, ck_E1 (ck_S1 p2_s403_s ck_S0) (ck_E1 (ck_S1 p2_s241_s ck_S0) ck_E0)⟩ ck_X0 ck_l0 (by decide +kernel)
set_option maxRecDepth 100000 in
/-- GlacierMailModel.meeting -/
noncomputable def p2_s1600 : ck_Sum := ((2, 0, 0), 245, [.inr (.inr (.inl 226)), .inl (0, 23, []), .inl ((-2147483648), (-1), [])], ([], [], [(227, 4, 4, (0, 24, [(22, 0)]))]), ([(226, 0, 0)], []), [(.inr (some (.inl (ck_one 0))), 245, ([], [], [(226, 0, 0, ck_one 1)]))])
set_option maxRecDepth 100000 in
theorem p2_s1600_s {X : Int → Int} {LX : Nat} : ck_Ok p2_O X LX 360 p2_s1600 := ck_ok_s (O := p2_O) (X := X) (LX := LX) (E := [(309, [p2_s406, p2_s400]), (282, [p2_s241])]) (mi := 360) (cuts := []) (f := 108) (S := p2_s1600) (lx := none) (XF := []) ⟨p2_nmu, ck_E1 (ck_S1 p2_s406_s (ck_S1 p2_s400_s ck_S0)) (ck_E1 (ck_S1 p2_s241_s ck_S0) ck_E0)⟩ ck_X0 ck_l0 (by decide +kernel)
set_option maxRecDepth 100000 in
/-- GlacierMailModel.meeting -/
noncomputable def p2_s1601 : ck_Sum := ((2, 0, 0), 245, [.inr (.inr (.inl 226)), .inl (0, 23, []), .inl (24, 2147483647, [])], ([], [], [(227, 4, 4, (0, 24, [(22, 0)]))]), ([(226, 0, 0)], []), [(.inr (some (.inl (ck_one 0))), 245, ([], [], [(226, 0, 0, ck_one 1)]))])
set_option maxRecDepth 100000 in
theorem p2_s1601_s {X : Int → Int} {LX : Nat} : ck_Ok p2_O X LX 360 p2_s1601 := ck_ok_s (O := p2_O) (X := X) (LX := LX) (E := [(309, [p2_s406, p2_s403]), (282, [p2_s241])]) (mi := 360) (cuts := []) (f := 108) (S := p2_s1601) (lx := none) (XF := []) ⟨p2_nmu, ck_E1 (ck_S1 p2_s406_s (ck_S1 p2_s403_s ck_S0)) (ck_E1 (ck_S1 p2_s241_s ck_S0) ck_E0)⟩ ck_X0 ck_l0 (by decide +kernel)
set_option maxRecDepth 100000 in
/-- GlacierMail.outs -/
noncomputable def p2_s1603 : ck_Sum := ((7, 1, 6), 245, [.inr (.inr (.inl 1)), .inl ((-2147483648), (-1), [])], ([], [], []), ([], []), [(.inl 0, 245, ([], [], []))])
set_option maxRecDepth 100000 in
theorem p2_s1603_s {X : Int → Int} {LX : Nat} : ck_Ok p2_O X LX 223 p2_s1603 := ck_ok_s (O := p2_O) (X := X) (LX := LX) (E := [(129, [p2_s249])]) (mi := 223) (cuts := []) (f := 76) (S := p2_s1603) (lx := none) (XF := []) ⟨p2_nmu, ck_E1 (ck_S1 p2_s249_s ck_S0) ck_E0⟩ ck_X0 ck_l0 (by decide +kernel)
set_option maxRecDepth 100000 in
/-- GlacierMail.outs -/
noncomputable def p2_s1604 : ck_Sum := ((7, 1, 6), 245, [.inr (.inr (.inl 1)), .inl (300, 2147483647, [])], ([], [], []), ([], []), [(.inl 0, 245, ([], [], []))])
set_option maxRecDepth 100000 in
theorem p2_s1604_s {X : Int → Int} {LX : Nat} : ck_Ok p2_O X LX 223 p2_s1604 := ck_ok_s (O := p2_O) (X := X) (LX := LX) (E := [(129, [p2_s251])]) (mi := 223) (cuts := []) (f := 76) (S := p2_s1604) (lx := none) (XF := []) ⟨p2_nmu, ck_E1 (ck_S1 p2_s251_s ck_S0) ck_E0⟩ ck_X0 ck_l0 (by decide +kernel)
set_option maxRecDepth 100000 in
/-- GlacierMail.outIn -/
noncomputable def p2_s1605 : ck_Sum := ((1, 0, 0), 245, [.inr (.inr (.inl 1)), .inl (0, 299, []), .inl (ck_one 1)], ([], [], []), ([], []), [(.inr (some (.inl ((-2147483648), 2147483647, []))), 245, ([], [], []))])
set_option maxRecDepth 100000 in
theorem p2_s1605_s {X : Int → Int} {LX : Nat} : ck_Ok p2_O X LX 47 p2_s1605 := ck_ok_s (O := p2_O) (X := X) (LX := LX) (E := [(9, [p2_s332]), (10, [p2_s350])]) (mi := 47) (cuts := [(5, [some (.inr (.inr (.inl 1))), some (.inl (0, 299, [])), some (.inl (ck_one 1)), some (.inl ((-2147483648), 2147483647, [])), some (.inl (0, 24, []))], ([], [], []), 100, .inl 4, true)]) (f := 162) (S := p2_s1605) (lx := none) (XF := []) ⟨p2_nmu, ck_E1 (ck_S1 p2_s332_s ck_S0) (ck_E1 (ck_S1 p2_s350_s ck_S0) ck_E0)⟩ ck_X0 ck_l0 (by decide +kernel)
set_option maxRecDepth 100000 in
/-- GlacierMailModel.outs -/
noncomputable def p2_s1607 : ck_Sum := ((2, 0, 0), 245, [.inr (.inr (.inl 226)), .inl ((-2147483648), (-1), [])], ([], [], []), ([(226, 0, 0)], []), [(.inr (some (.inl (ck_one 0))), 245, ([], [], [(226, 0, 0, ck_one 1)]))])
set_option maxRecDepth 100000 in
theorem p2_s1607_s {X : Int → Int} {LX : Nat} : ck_Ok p2_O X LX 361 p2_s1607 := ck_ok_s (O := p2_O) (X := X) (LX := LX) (E := [(285, [p2_s257]), (282, [p2_s241])]) (mi := 361) (cuts := []) (f := 92) (S := p2_s1607) (lx := none) (XF := []) ⟨p2_nmu, ck_E1 (ck_S1 p2_s257_s ck_S0) (ck_E1 (ck_S1 p2_s241_s ck_S0) ck_E0)⟩ ck_X0 ck_l0 (by decide +kernel)
set_option maxRecDepth 100000 in
/-- GlacierMailModel.outs -/
noncomputable def p2_s1608 : ck_Sum := ((2, 0, 0), 245, [.inr (.inr (.inl 226)), .inl (300, 2147483647, [])], ([], [], []), ([(226, 0, 0)], []), [(.inr (some (.inl (ck_one 0))), 245, ([], [], [(226, 0, 0, ck_one 1)]))])
set_option maxRecDepth 100000 in
theorem p2_s1608_s {X : Int → Int} {LX : Nat} : ck_Ok p2_O X LX 361 p2_s1608 := ck_ok_s (O := p2_O) (X := X) (LX := LX) (E := [(285, [p2_s260]), (282, [p2_s241])]) (mi := 361) (cuts := []) (f := 92) (S := p2_s1608) (lx := none) (XF := []) ⟨p2_nmu, ck_E1 (ck_S1 p2_s260_s ck_S0) (ck_E1 (ck_S1 p2_s241_s ck_S0) ck_E0)⟩ ck_X0 ck_l0 (by decide +kernel)
set_option maxRecDepth 100000 in
/-- GlacierMail.outAheadOf -/
noncomputable def p2_s1610 : ck_Sum := ((1, 0, 0), 245, [.inr (.inr (.inl 1)), .inl (0, 23, [])], ([], [], []), ([], []), [(.inr (some (.inl ((-2147483648), 2147483647, []))), 245, ([], [], []))])
set_option maxRecDepth 100000 in
theorem p2_s1610_s {X : Int → Int} {LX : Nat} : ck_Ok p2_O X LX 53 p2_s1610 := ck_ok_s (O := p2_O) (X := X) (LX := LX) (E := [(10, [p2_s350]), (9, [p2_s332])]) (mi := 53) (cuts := [(15, [some (.inr (.inr (.inl 1))), some (.inl (0, 23, [])), some (.inl ((-2147483648), 299, [])), some (.inl ((-2147483648), 2147483647, [])), some (.inl (0, 24, [])), none, none], ([], [], []), 100, .inl 4, true)]) (f := 214) (S := p2_s1610) (lx := none) (XF := []) ⟨p2_nmu, ck_E1 (ck_S1 p2_s350_s ck_S0) (ck_E1 (ck_S1 p2_s332_s ck_S0) ck_E0)⟩ ck_X0 ck_l0 (by decide +kernel)
set_option maxRecDepth 100000 in
/-- GlacierMail.streams -/
noncomputable def p2_s1613 : ck_Sum := ((7, 1, 6), 245, [.inr (.inr (.inl 1)), .inl ((-2147483648), (-1), []), .inl (0, 1, [])], ([], [], []), ([], []), [(.inl 0, 245, ([], [], []))])
set_option maxRecDepth 100000 in
theorem p2_s1613_s {X : Int → Int} {LX : Nat} : ck_Ok p2_O X LX 225 p2_s1613 := ck_ok_s (O := p2_O) (X := X) (LX := LX) (E := [(129, [p2_s249])]) (mi := 225) (cuts := []) (f := 76) (S := p2_s1613) (lx := none) (XF := []) ⟨p2_nmu, ck_E1 (ck_S1 p2_s249_s ck_S0) ck_E0⟩ ck_X0 ck_l0 (by decide +kernel)
set_option maxRecDepth 100000 in
/-- GlacierMail.streams -/
noncomputable def p2_s1614 : ck_Sum := ((7, 1, 6), 245, [.inr (.inr (.inl 1)), .inl (300, 2147483647, []), .inl (0, 1, [])], ([], [], []), ([], []), [(.inl 0, 245, ([], [], []))])
set_option maxRecDepth 100000 in
theorem p2_s1614_s {X : Int → Int} {LX : Nat} : ck_Ok p2_O X LX 225 p2_s1614 := ck_ok_s (O := p2_O) (X := X) (LX := LX) (E := [(129, [p2_s251])]) (mi := 225) (cuts := []) (f := 76) (S := p2_s1614) (lx := none) (XF := []) ⟨p2_nmu, ck_E1 (ck_S1 p2_s251_s ck_S0) ck_E0⟩ ck_X0 ck_l0 (by decide +kernel)
set_option maxRecDepth 100000 in
/-- GlacierMailModel.streams -/
noncomputable def p2_s1616 : ck_Sum := ((2, 0, 0), 245, [.inr (.inr (.inl 226)), .inl ((-2147483648), (-1), []), .inl (0, 1, [])], ([], [], []), ([(226, 0, 0)], []), [(.inr (some (.inl (ck_one 0))), 245, ([], [], [(226, 0, 0, ck_one 1)]))])
set_option maxRecDepth 100000 in
theorem p2_s1616_s {X : Int → Int} {LX : Nat} : ck_Ok p2_O X LX 363 p2_s1616 := ck_ok_s (O := p2_O) (X := X) (LX := LX) (E := [(285, [p2_s257]), (282, [p2_s241])]) (mi := 363) (cuts := []) (f := 92) (S := p2_s1616) (lx := none) (XF := []) ⟨p2_nmu, ck_E1 (ck_S1 p2_s257_s ck_S0) (ck_E1 (ck_S1 p2_s241_s ck_S0) ck_E0)⟩ ck_X0 ck_l0 (by decide +kernel)
set_option maxRecDepth 100000 in
/-- GlacierMailModel.streams -/
noncomputable def p2_s1617 : ck_Sum := ((2, 0, 0), 245, [.inr (.inr (.inl 226)), .inl (300, 2147483647, []), .inl (0, 1, [])], ([], [], []), ([(226, 0, 0)], []), [(.inr (some (.inl (ck_one 0))), 245, ([], [], [(226, 0, 0, ck_one 1)]))])
set_option maxRecDepth 100000 in
theorem p2_s1617_s {X : Int → Int} {LX : Nat} : ck_Ok p2_O X LX 363 p2_s1617 := ck_ok_s (O := p2_O) (X := X) (LX := LX) (E := [(285, [p2_s260]), (282, [p2_s241])]) (mi := 363) (cuts := []) (f := 92) (S := p2_s1617) (lx := none) (XF := []) ⟨p2_nmu, ck_E1 (ck_S1 p2_s260_s ck_S0) (ck_E1 (ck_S1 p2_s241_s ck_S0) ck_E0)⟩ ck_X0 ck_l0 (by decide +kernel)
set_option maxRecDepth 100000 in
/-- GlacierMail.range -/
noncomputable def p2_s1619 : ck_Sum := ((8, 1, 6), 245, [.inr (.inr (.inl 1)), .inl ((-2147483648), (-1), []), .inl ((-2147483648), 2147483647, [])], ([], [], []), ([], []), [(.inl 3, 245, ([], [], []))])
set_option maxRecDepth 100000 in
theorem p2_s1619_s {X : Int → Int} {LX : Nat} : ck_Ok p2_O X LX 227 p2_s1619 := ck_ok_s (O := p2_O) (X := X) (LX := LX) (E := [(132, [p2_s266])]) (mi := 227) (cuts := []) (f := 76) (S := p2_s1619) (lx := none) (XF := []) ⟨p2_nmu, ck_E1 (ck_S1 p2_s266_s ck_S0) ck_E0⟩ ck_X0 ck_l0 (by decide +kernel)
set_option maxRecDepth 100000 in
/-- GlacierMail.range -/
noncomputable def p2_s1620 : ck_Sum := ((8, 1, 6), 245, [.inr (.inr (.inl 1)), .inl (6, 2147483647, []), .inl ((-2147483648), 2147483647, [])], ([], [], []), ([], []), [(.inl 3, 245, ([], [], []))])
set_option maxRecDepth 100000 in
theorem p2_s1620_s {X : Int → Int} {LX : Nat} : ck_Ok p2_O X LX 227 p2_s1620 := ck_ok_s (O := p2_O) (X := X) (LX := LX) (E := [(132, [p2_s269])]) (mi := 227) (cuts := []) (f := 76) (S := p2_s1620) (lx := none) (XF := []) ⟨p2_nmu, ck_E1 (ck_S1 p2_s269_s ck_S0) ck_E0⟩ ck_X0 ck_l0 (by decide +kernel)
set_option maxRecDepth 100000 in
/-- GlacierMail.range -/
noncomputable def p2_s1621 : ck_Sum := ((8, 2, 12), 245, [.inr (.inr (.inl 1)), .inl (0, 5, []), .inl ((-2147483648), (-1), [])], ([], [], []), ([], []), [(.inl 3, 245, ([], [], [])), (.inl 0, 245, ([], [], []))])
set_option maxRecDepth 100000 in
theorem p2_s1621_s {X : Int → Int} {LX : Nat} : ck_Ok p2_O X LX 227 p2_s1621 := ck_ok_s (O := p2_O) (X := X) (LX := LX) (E := [(132, [p2_s272]), (129, [p2_s249])]) (mi := 227) (cuts := []) (f := 82) (S := p2_s1621) (lx := none) (XF := []) ⟨p2_nmu, ck_E1 (ck_S1 p2_s272_s ck_S0) (ck_E1 (ck_S1 p2_s249_s ck_S0) ck_E0)⟩ ck_X0 ck_l0 (by decide +kernel)
set_option maxRecDepth 100000 in
/-- GlacierMail.range -/
noncomputable def p2_s1622 : ck_Sum := ((8, 2, 12), 245, [.inr (.inr (.inl 1)), .inl (0, 5, []), .inl (300, 2147483647, [])], ([], [], []), ([], []), [(.inl 3, 245, ([], [], [])), (.inl 0, 245, ([], [], []))])
set_option maxRecDepth 100000 in
theorem p2_s1622_s {X : Int → Int} {LX : Nat} : ck_Ok p2_O X LX 227 p2_s1622 := ck_ok_s (O := p2_O) (X := X) (LX := LX) (E := [(132, [p2_s272]), (129, [p2_s251])]) (mi := 227) (cuts := []) (f := 82) (S := p2_s1622) (lx := none) (XF := []) ⟨p2_nmu, ck_E1 (ck_S1 p2_s272_s ck_S0) (ck_E1 (ck_S1 p2_s251_s ck_S0) ck_E0)⟩ ck_X0 ck_l0 (by decide +kernel)
set_option maxRecDepth 100000 in
/-- GlacierMail.range -/
noncomputable def p2_s1623 : ck_Sum := ((8, 1, 6), 245, [.inr (.inr (.inl 1)), .inl (0, 5, []), .inl (0, 299, [])], ([], [(3, 8, 0)], []), ([(206, 2, 8)], []), [(.inl 3, 245, ([], [], [])), (.inr (some (.inl ((-2147483648), 2147483647, []))), 245, ([], [], [(206, 4, 4, ck_one (-1))]))])
set_option maxRecDepth 100000 in
theorem p2_s1623_s {X : Int → Int} {LX : Nat} : ck_Ok p2_O X LX 227 p2_s1623 := ck_ok_s (O := p2_O) (X := X) (LX := LX) (E := [(132, [p2_s272]), (129, [p2_s253]), (29, [p2_s1313]), (30, [p2_s346])]) (mi := 227) (cuts := []) (f := 120) (S := p2_s1623) (lx := none) (XF := []) ⟨p2_nmu, ck_E1 (ck_S1 p2_s272_s ck_S0) (ck_E1 (ck_S1 p2_s253_s ck_S0) (ck_E1 (ck_S1 p2_s1313_s ck_S0) (ck_E1 (ck_S1 p2_s346_s ck_S0) ck_E0)))⟩ ck_X0 ck_l0 (by decide +kernel)
set_option maxRecDepth 100000 in
/-- GlacierMailModel.range -/
noncomputable def p2_s1624 : ck_Sum := ((2, 0, 0), 245, [.inr (.inr (.inl 226)), .inl ((-2147483648), (-1), []), .inl ((-2147483648), 2147483647, [])], ([], [], []), ([(226, 0, 0)], []), [(.inr (some (.inl (ck_one 0))), 245, ([], [], [(226, 0, 0, ck_one 1)]))])
set_option maxRecDepth 100000 in
theorem p2_s1624_s {X : Int → Int} {LX : Nat} : ck_Ok p2_O X LX 364 p2_s1624 := ck_ok_s (O := p2_O) (X := X) (LX := LX) (E := [(288, [p2_s284]), (282, [p2_s241])]) (mi := 364) (cuts := []) (f := 94) (S := p2_s1624) (lx := none) (XF := []) ⟨p2_nmu, ck_E1 (ck_S1 p2_s284_s ck_S0) (ck_E1 (ck_S1 p2_s241_s ck_S0) ck_E0)⟩ ck_X0 ck_l0 (by decide +kernel)
set_option maxRecDepth 100000 in
/-- GlacierMailModel.range -/
noncomputable def p2_s1625 : ck_Sum := ((2, 0, 0), 245, [.inr (.inr (.inl 226)), .inl (6, 2147483647, []), .inl ((-2147483648), 2147483647, [])], ([], [], []), ([(226, 0, 0)], []), [(.inr (some (.inl (ck_one 0))), 245, ([], [], [(226, 0, 0, ck_one 1)]))])
set_option maxRecDepth 100000 in
theorem p2_s1625_s {X : Int → Int} {LX : Nat} : ck_Ok p2_O X LX 364 p2_s1625 := ck_ok_s (O := p2_O) (X := X) (LX := LX) (E := [(288, [p2_s287]), (282, [p2_s241])]) (mi := 364) (cuts := []) (f := 94) (S := p2_s1625) (lx := none) (XF := []) ⟨p2_nmu, ck_E1 (ck_S1 p2_s287_s ck_S0) (ck_E1 (ck_S1 p2_s241_s ck_S0) ck_E0)⟩ ck_X0 ck_l0 (by decide +kernel)
set_option maxRecDepth 100000 in
/-- GlacierMailModel.range -/
noncomputable def p2_s1626 : ck_Sum := ((2, 0, 0), 245, [.inr (.inr (.inl 226)), .inl (0, 5, []), .inl ((-2147483648), (-1), [])], ([], [], []), ([(226, 0, 0)], []), [(.inr (some (.inl (ck_one 0))), 245, ([], [], [(226, 0, 0, (1, 2, []))]))])
set_option maxRecDepth 100000 in
theorem p2_s1626_s {X : Int → Int} {LX : Nat} : ck_Ok p2_O X LX 364 p2_s1626 := ck_ok_s (O := p2_O) (X := X) (LX := LX) (E := [(288, [p2_s290]), (282, [p2_s241, p2_s242, p2_s244]), (285, [p2_s257])]) (mi := 364) (cuts := []) (f := 106) (S := p2_s1626) (lx := none) (XF := []) ⟨p2_nmu, ck_E1 (ck_S1 p2_s290_s ck_S0) (ck_E1 (ck_S1 p2_s241_s (ck_S1 p2_s242_s (ck_S1 p2_s244_s ck_S0))) (ck_E1 (ck_S1 p2_s257_s ck_S0) ck_E0))⟩ ck_X0 ck_l0 (by decide +kernel)
set_option maxRecDepth 100000 in
/-- GlacierMailModel.range -/
noncomputable def p2_s1627 : ck_Sum := ((2, 0, 0), 245, [.inr (.inr (.inl 226)), .inl (0, 5, []), .inl (300, 2147483647, [])], ([], [], []), ([(226, 0, 0)], []), [(.inr (some (.inl (ck_one 0))), 245, ([], [], [(226, 0, 0, (1, 2, []))]))])
set_option maxRecDepth 100000 in
theorem p2_s1627_s {X : Int → Int} {LX : Nat} : ck_Ok p2_O X LX 364 p2_s1627 := ck_ok_s (O := p2_O) (X := X) (LX := LX) (E := [(288, [p2_s290]), (282, [p2_s241, p2_s242, p2_s244]), (285, [p2_s260])]) (mi := 364) (cuts := []) (f := 106) (S := p2_s1627) (lx := none) (XF := []) ⟨p2_nmu, ck_E1 (ck_S1 p2_s290_s ck_S0) (ck_E1 (ck_S1 p2_s241_s (ck_S1 p2_s242_s (ck_S1 p2_s244_s ck_S0))) (ck_E1 (ck_S1 p2_s260_s ck_S0) ck_E0))⟩ ck_X0 ck_l0 (by decide +kernel)
set_option maxRecDepth 100000 in
/-- GlacierMail.swiftest -/
noncomputable def p2_s1629 : ck_Sum := ((8, 1, 6), 245, [.inr (.inr (.inl 1)), .inl ((-2147483648), (-1), []), .inl ((-2147483648), 2147483647, [])], ([], [], []), ([], []), [(.inl 3, 245, ([], [], []))])
set_option maxRecDepth 100000 in
theorem p2_s1629_s {X : Int → Int} {LX : Nat} : ck_Ok p2_O X LX 229 p2_s1629 := ck_ok_s (O := p2_O) (X := X) (LX := LX) (E := [(134, [p2_s274])]) (mi := 229) (cuts := []) (f := 76) (S := p2_s1629) (lx := none) (XF := []) ⟨p2_nmu, ck_E1 (ck_S1 p2_s274_s ck_S0) ck_E0⟩ ck_X0 ck_l0 (by decide +kernel)
set_option maxRecDepth 100000 in
/-- GlacierMail.swiftest -/
noncomputable def p2_s1630 : ck_Sum := ((8, 1, 6), 245, [.inr (.inr (.inl 1)), .inl (99, 2147483647, []), .inl ((-2147483648), 2147483647, [])], ([], [], []), ([], []), [(.inl 3, 245, ([], [], []))])
set_option maxRecDepth 100000 in
theorem p2_s1630_s {X : Int → Int} {LX : Nat} : ck_Ok p2_O X LX 229 p2_s1630 := ck_ok_s (O := p2_O) (X := X) (LX := LX) (E := [(134, [p2_s277])]) (mi := 229) (cuts := []) (f := 76) (S := p2_s1630) (lx := none) (XF := []) ⟨p2_nmu, ck_E1 (ck_S1 p2_s277_s ck_S0) ck_E0⟩ ck_X0 ck_l0 (by decide +kernel)
set_option maxRecDepth 100000 in
/-- GlacierMail.swiftest -/
noncomputable def p2_s1631 : ck_Sum := ((8, 2, 12), 245, [.inr (.inr (.inl 1)), .inl (0, 98, []), .inl ((-2147483648), (-1), [])], ([], [], []), ([], []), [(.inl 3, 245, ([], [], [])), (.inl 0, 245, ([], [], []))])
set_option maxRecDepth 100000 in
theorem p2_s1631_s {X : Int → Int} {LX : Nat} : ck_Ok p2_O X LX 229 p2_s1631 := ck_ok_s (O := p2_O) (X := X) (LX := LX) (E := [(134, [p2_s280]), (129, [p2_s249])]) (mi := 229) (cuts := []) (f := 82) (S := p2_s1631) (lx := none) (XF := []) ⟨p2_nmu, ck_E1 (ck_S1 p2_s280_s ck_S0) (ck_E1 (ck_S1 p2_s249_s ck_S0) ck_E0)⟩ ck_X0 ck_l0 (by decide +kernel)
set_option maxRecDepth 100000 in
/-- GlacierMail.swiftest -/
noncomputable def p2_s1632 : ck_Sum := ((8, 2, 12), 245, [.inr (.inr (.inl 1)), .inl (0, 98, []), .inl (300, 2147483647, [])], ([], [], []), ([], []), [(.inl 3, 245, ([], [], [])), (.inl 0, 245, ([], [], []))])
set_option maxRecDepth 100000 in
theorem p2_s1632_s {X : Int → Int} {LX : Nat} : ck_Ok p2_O X LX 229 p2_s1632 := ck_ok_s (O := p2_O) (X := X) (LX := LX) (E := [(134, [p2_s280]), (129, [p2_s251])]) (mi := 229) (cuts := []) (f := 82) (S := p2_s1632) (lx := none) (XF := []) ⟨p2_nmu, ck_E1 (ck_S1 p2_s280_s ck_S0) (ck_E1 (ck_S1 p2_s251_s ck_S0) ck_E0)⟩ ck_X0 ck_l0 (by decide +kernel)
set_option maxRecDepth 100000 in
/-- GlacierMail.swiftest -/
noncomputable def p2_s1633 : ck_Sum := ((8, 1, 6), 245, [.inr (.inr (.inl 1)), .inl (0, 98, []), .inl (0, 299, [])], ([], [(3, 8, 0)], []), ([(206, 2, 8)], []), [(.inl 3, 245, ([], [], [])), (.inr (some (.inl ((-1), 5, []))), 245, ([], [], []))])
set_option maxRecDepth 100000 in
theorem p2_s1633_s {X : Int → Int} {LX : Nat} : ck_Ok p2_O X LX 229 p2_s1633 := ck_ok_s (O := p2_O) (X := X) (LX := LX) (E := [(134, [p2_s280]), (129, [p2_s253]), (29, [p2_s1313]), (30, [p2_s346])]) (mi := 229) (cuts := [(20, [some (.inr (.inr (.inl 1))), some (.inl (0, 98, [])), some (.inl (0, 299, [])), some (.inl ((-1), 5, [])), some (.inl ((-2147483648), 300, [])), some (.inl (0, 6, [])), none], ([], [(3, 8, 0)], []), 100, .inl 5, true)]) (f := 210) (S := p2_s1633) (lx := none) (XF := []) ⟨p2_nmu, ck_E1 (ck_S1 p2_s280_s ck_S0) (ck_E1 (ck_S1 p2_s253_s ck_S0) (ck_E1 (ck_S1 p2_s1313_s ck_S0) (ck_E1 (ck_S1 p2_s346_s ck_S0) ck_E0)))⟩ ck_X0 ck_l0 (by decide +kernel)
set_option maxRecDepth 100000 in
/-- GlacierMailModel.swiftest -/
noncomputable def p2_s1634 : ck_Sum := ((2, 0, 0), 245, [.inr (.inr (.inl 226)), .inl ((-2147483648), (-1), []), .inl ((-2147483648), 2147483647, [])], ([], [], []), ([(226, 0, 0)], []), [(.inr (some (.inl (ck_one 0))), 245, ([], [], [(226, 0, 0, ck_one 1)]))])
set_option maxRecDepth 100000 in
theorem p2_s1634_s {X : Int → Int} {LX : Nat} : ck_Ok p2_O X LX 365 p2_s1634 := ck_ok_s (O := p2_O) (X := X) (LX := LX) (E := [(289, [p2_s292]), (282, [p2_s241])]) (mi := 365) (cuts := []) (f := 94) (S := p2_s1634) (lx := none) (XF := []) ⟨p2_nmu, ck_E1 (ck_S1 p2_s292_s ck_S0) (ck_E1 (ck_S1 p2_s241_s ck_S0) ck_E0)⟩ ck_X0 ck_l0 (by decide +kernel)
set_option maxRecDepth 100000 in
/-- GlacierMailModel.swiftest -/
noncomputable def p2_s1635 : ck_Sum := ((2, 0, 0), 245, [.inr (.inr (.inl 226)), .inl (99, 2147483647, []), .inl ((-2147483648), 2147483647, [])], ([], [], []), ([(226, 0, 0)], []), [(.inr (some (.inl (ck_one 0))), 245, ([], [], [(226, 0, 0, ck_one 1)]))])
set_option maxRecDepth 100000 in
theorem p2_s1635_s {X : Int → Int} {LX : Nat} : ck_Ok p2_O X LX 365 p2_s1635 := ck_ok_s (O := p2_O) (X := X) (LX := LX) (E := [(289, [p2_s295]), (282, [p2_s241])]) (mi := 365) (cuts := []) (f := 94) (S := p2_s1635) (lx := none) (XF := []) ⟨p2_nmu, ck_E1 (ck_S1 p2_s295_s ck_S0) (ck_E1 (ck_S1 p2_s241_s ck_S0) ck_E0)⟩ ck_X0 ck_l0 (by decide +kernel)
set_option maxRecDepth 100000 in
/-- GlacierMailModel.swiftest -/
noncomputable def p2_s1636 : ck_Sum := ((2, 0, 0), 245, [.inr (.inr (.inl 226)), .inl (0, 98, []), .inl ((-2147483648), (-1), [])], ([], [], []), ([(226, 0, 0)], []), [(.inr (some (.inl (ck_one 0))), 245, ([], [], [(226, 0, 0, (1, 2, []))]))])
set_option maxRecDepth 100000 in
theorem p2_s1636_s {X : Int → Int} {LX : Nat} : ck_Ok p2_O X LX 365 p2_s1636 := ck_ok_s (O := p2_O) (X := X) (LX := LX) (E := [(289, [p2_s298]), (282, [p2_s241, p2_s242, p2_s244]), (285, [p2_s257])]) (mi := 365) (cuts := []) (f := 106) (S := p2_s1636) (lx := none) (XF := []) ⟨p2_nmu, ck_E1 (ck_S1 p2_s298_s ck_S0) (ck_E1 (ck_S1 p2_s241_s (ck_S1 p2_s242_s (ck_S1 p2_s244_s ck_S0))) (ck_E1 (ck_S1 p2_s257_s ck_S0) ck_E0))⟩ ck_X0 ck_l0 (by decide +kernel)
set_option maxRecDepth 100000 in
/-- GlacierMailModel.swiftest -/
noncomputable def p2_s1637 : ck_Sum := ((2, 0, 0), 245, [.inr (.inr (.inl 226)), .inl (0, 98, []), .inl (300, 2147483647, [])], ([], [], []), ([(226, 0, 0)], []), [(.inr (some (.inl (ck_one 0))), 245, ([], [], [(226, 0, 0, (1, 2, []))]))])
set_option maxRecDepth 100000 in
theorem p2_s1637_s {X : Int → Int} {LX : Nat} : ck_Ok p2_O X LX 365 p2_s1637 := ck_ok_s (O := p2_O) (X := X) (LX := LX) (E := [(289, [p2_s298]), (282, [p2_s241, p2_s242, p2_s244]), (285, [p2_s260])]) (mi := 365) (cuts := []) (f := 106) (S := p2_s1637) (lx := none) (XF := []) ⟨p2_nmu, ck_E1 (ck_S1 p2_s298_s ck_S0) (ck_E1 (ck_S1 p2_s241_s (ck_S1 p2_s242_s (ck_S1 p2_s244_s ck_S0))) (ck_E1 (ck_S1 p2_s260_s ck_S0) ck_E0))⟩ ck_X0 ck_l0 (by decide +kernel)
set_option maxRecDepth 100000 in
/-- GlacierMail.bare -/
noncomputable def p2_s1639 : ck_Sum := ((7, 1, 6), 245, [.inr (.inr (.inl 1)), .inl ((-2147483648), (-1), [])], ([], [], []), ([], []), [(.inl 0, 245, ([], [], []))])
set_option maxRecDepth 100000 in
theorem p2_s1639_s {X : Int → Int} {LX : Nat} : ck_Ok p2_O X LX 231 p2_s1639 := ck_ok_s (O := p2_O) (X := X) (LX := LX) (E := [(129, [p2_s249])]) (mi := 231) (cuts := []) (f := 76) (S := p2_s1639) (lx := none) (XF := []) ⟨p2_nmu, ck_E1 (ck_S1 p2_s249_s ck_S0) ck_E0⟩ ck_X0 ck_l0 (by decide +kernel)
set_option maxRecDepth 100000 in
/-- GlacierMail.bare -/
noncomputable def p2_s1640 : ck_Sum := ((7, 1, 6), 245, [.inr (.inr (.inl 1)), .inl (300, 2147483647, [])], ([], [], []), ([], []), [(.inl 0, 245, ([], [], []))])
set_option maxRecDepth 100000 in
theorem p2_s1640_s {X : Int → Int} {LX : Nat} : ck_Ok p2_O X LX 231 p2_s1640 := ck_ok_s (O := p2_O) (X := X) (LX := LX) (E := [(129, [p2_s251])]) (mi := 231) (cuts := []) (f := 76) (S := p2_s1640) (lx := none) (XF := []) ⟨p2_nmu, ck_E1 (ck_S1 p2_s251_s ck_S0) ck_E0⟩ ck_X0 ck_l0 (by decide +kernel)
set_option maxRecDepth 100000 in
/-- GlacierMail.bare -/
noncomputable def p2_s1641 : ck_Sum := ((4, 0, 0), 245, [.inr (.inr (.inl 1)), .inl (0, 299, [])], ([], [(3, 8, 0)], []), ([(206, 2, 8)], []), [(.inr (some (.inl ((-2147483648), 2147483647, []))), 245, ([], [], []))])
set_option maxRecDepth 100000 in
theorem p2_s1641_s {X : Int → Int} {LX : Nat} : ck_Ok p2_O X LX 231 p2_s1641 := ck_ok_s (O := p2_O) (X := X) (LX := LX) (E := [(129, [p2_s253]), (9, [p2_s331]), (10, [p2_s335]), (27, [p2_s339]), (148, [p2_s421]), (31, [p2_s340])]) (mi := 231) (cuts := [(9, [some (.inr (.inr (.inl 1))), some (.inl (0, 299, [])), some (.inl ((-2147483648), 2147483647, [])), some (.inl (0, 24, []))], ([], [(3, 8, 0)], []), 100, .inl 3, true)]) (f := 246) (S := p2_s1641) (lx := none) (XF := []) ⟨p2_nmu, ck_E1 (ck_S1 p2_s253_s ck_S0) (ck_E1 (ck_S1 p2_s331_s ck_S0) (ck_E1 (ck_S1 p2_s335_s ck_S0) (ck_E1 (ck_S1 p2_s339_s ck_S0) (ck_E1 (ck_S1 p2_s421_s ck_S0) (ck_E1 (ck_S1 p2_s340_s ck_S0) ck_E0)))))⟩ ck_X0 ck_l0 (by decide +kernel)
set_option maxRecDepth 100000 in
/-- GlacierMailModel.bare -/
noncomputable def p2_s1642 : ck_Sum := ((2, 0, 0), 245, [.inr (.inr (.inl 226)), .inl ((-2147483648), (-1), [])], ([], [], []), ([(226, 0, 0)], []), [(.inr (some (.inl (ck_one 0))), 245, ([], [], [(226, 0, 0, ck_one 1)]))])
set_option maxRecDepth 100000 in
theorem p2_s1642_s {X : Int → Int} {LX : Nat} : ck_Ok p2_O X LX 366 p2_s1642 := ck_ok_s (O := p2_O) (X := X) (LX := LX) (E := [(285, [p2_s257]), (282, [p2_s241])]) (mi := 366) (cuts := []) (f := 92) (S := p2_s1642) (lx := none) (XF := []) ⟨p2_nmu, ck_E1 (ck_S1 p2_s257_s ck_S0) (ck_E1 (ck_S1 p2_s241_s ck_S0) ck_E0)⟩ ck_X0 ck_l0 (by decide +kernel)
set_option maxRecDepth 100000 in
/-- GlacierMailModel.bare -/
noncomputable def p2_s1643 : ck_Sum := ((2, 0, 0), 245, [.inr (.inr (.inl 226)), .inl (300, 2147483647, [])], ([], [], []), ([(226, 0, 0)], []), [(.inr (some (.inl (ck_one 0))), 245, ([], [], [(226, 0, 0, ck_one 1)]))])
set_option maxRecDepth 100000 in
theorem p2_s1643_s {X : Int → Int} {LX : Nat} : ck_Ok p2_O X LX 366 p2_s1643 := ck_ok_s (O := p2_O) (X := X) (LX := LX) (E := [(285, [p2_s260]), (282, [p2_s241])]) (mi := 366) (cuts := []) (f := 92) (S := p2_s1643) (lx := none) (XF := []) ⟨p2_nmu, ck_E1 (ck_S1 p2_s260_s ck_S0) (ck_E1 (ck_S1 p2_s241_s ck_S0) ck_E0)⟩ ck_X0 ck_l0 (by decide +kernel)
set_option maxRecDepth 100000 in
/-- GlacierMail$Rows.get -/
noncomputable def p2_s1645 : ck_Sum := ((0, 0, 0), 245, [.inr (.inr (.inl 14)), .inl ((-2147483648), 2147483647, []), .inl ((-2147483648), 2147483647, [])], ([], [], []), ([], []), [(.inr (some (.inl ((-1), 299, []))), 245, ([], [], []))])
set_option maxRecDepth 100000 in
theorem p2_s1645_s {X : Int → Int} {LX : Nat} : ck_Ok p2_O X LX 10 p2_s1645 := ck_ok_s (O := p2_O) (X := X) (LX := LX) (E := []) (mi := 10) (cuts := []) (f := 114) (S := p2_s1645) (lx := none) (XF := []) ⟨p2_nmu, ck_E0⟩ ck_X0 ck_l0 (by decide +kernel)
set_option maxRecDepth 100000 in
/-- GlacierMail.log -/
noncomputable def p2_s1646 : ck_Sum := ((6, 1, 6), 245, [.inr (.inr (.inl 1)), .inl ((-2147483648), (-1), []), .inl ((-2147483648), 2147483647, [])], ([], [], []), ([], []), [(.inl 4, 245, ([], [], [])), (.inr (some (.inl ((-1), 299, []))), 245, ([], [], []))])
set_option maxRecDepth 100000 in
theorem p2_s1646_s {X : Int → Int} {LX : Nat} : ck_Ok p2_O X LX 233 p2_s1646 := ck_ok_s (O := p2_O) (X := X) (LX := LX) (E := [(10, [p2_s1645])]) (mi := 233) (cuts := []) (f := 94) (S := p2_s1646) (lx := none) (XF := []) ⟨p2_nmu, ck_E1 (ck_S1 p2_s1645_s ck_S0) ck_E0⟩ ck_X0 ck_l0 (by decide +kernel)
set_option maxRecDepth 100000 in
/-- GlacierMail.log -/
noncomputable def p2_s1647 : ck_Sum := ((6, 1, 6), 245, [.inr (.inr (.inl 1)), .inl (24, 2147483647, []), .inl ((-2147483648), 2147483647, [])], ([], [], []), ([], []), [(.inl 4, 245, ([], [], [])), (.inr (some (.inl ((-1), 299, []))), 245, ([], [], []))])
set_option maxRecDepth 100000 in
theorem p2_s1647_s {X : Int → Int} {LX : Nat} : ck_Ok p2_O X LX 233 p2_s1647 := ck_ok_s (O := p2_O) (X := X) (LX := LX) (E := [(10, [p2_s1645])]) (mi := 233) (cuts := []) (f := 94) (S := p2_s1647) (lx := none) (XF := []) ⟨p2_nmu, ck_E1 (ck_S1 p2_s1645_s ck_S0) ck_E0⟩ ck_X0 ck_l0 (by decide +kernel)
set_option maxRecDepth 100000 in
/-- GlacierMail.log -/
noncomputable def p2_s1648 : ck_Sum := ((6, 1, 6), 245, [.inr (.inr (.inl 1)), .inl (0, 23, []), .inl ((-2147483648), (-1), [])], ([], [], []), ([], []), [(.inl 4, 245, ([], [], []))])
set_option maxRecDepth 100000 in
theorem p2_s1648_s {X : Int → Int} {LX : Nat} : ck_Ok p2_O X LX 233 p2_s1648 := ck_ok_s (O := p2_O) (X := X) (LX := LX) (E := []) (mi := 233) (cuts := []) (f := 76) (S := p2_s1648) (lx := none) (XF := []) ⟨p2_nmu, ck_E0⟩ ck_X0 ck_l0 (by decide +kernel)
set_option maxRecDepth 100000 in
/-- GlacierMail.log -/
noncomputable def p2_s1649 : ck_Sum := ((6, 1, 6), 245, [.inr (.inr (.inl 1)), .inl (0, 23, []), .inl (10, 2147483647, [])], ([], [], []), ([], []), [(.inl 4, 245, ([], [], []))])
set_option maxRecDepth 100000 in
theorem p2_s1649_s {X : Int → Int} {LX : Nat} : ck_Ok p2_O X LX 233 p2_s1649 := ck_ok_s (O := p2_O) (X := X) (LX := LX) (E := []) (mi := 233) (cuts := []) (f := 82) (S := p2_s1649) (lx := none) (XF := []) ⟨p2_nmu, ck_E0⟩ ck_X0 ck_l0 (by decide +kernel)
set_option maxRecDepth 100000 in
/-- GlacierMail.log -/
noncomputable def p2_s1650 : ck_Sum := ((6, 1, 6), 245, [.inr (.inr (.inl 1)), .inl (0, 23, []), .inl (0, 9, [])], ([], [], []), ([], []), [(.inr (some (.inl ((-1), 299, []))), 245, ([], [], [])), (.inl 4, 245, ([], [], []))])
set_option maxRecDepth 100000 in
theorem p2_s1650_s {X : Int → Int} {LX : Nat} : ck_Ok p2_O X LX 233 p2_s1650 := ck_ok_s (O := p2_O) (X := X) (LX := LX) (E := [(10, [p2_s1645])]) (mi := 233) (cuts := []) (f := 94) (S := p2_s1650) (lx := none) (XF := []) ⟨p2_nmu, ck_E1 (ck_S1 p2_s1645_s ck_S0) ck_E0⟩ ck_X0 ck_l0 (by decide +kernel)
set_option maxRecDepth 100000 in
/-- GlacierMailModel.in -/
noncomputable def p2_s1651 : ck_Sum := ((0, 0, 0), 245, [.inl ((-2147483648), 2147483647, []), .inl (ck_one 0), .inl (ck_one 2)], ([], [], []), ([], []), [(.inr (some (.inl (ck_one 0))), 245, ([], [], [])), (.inr (some (.inl (ck_one 1))), 245, ([], [], []))])
set_option maxRecDepth 100000 in
theorem p2_s1651_s {X : Int → Int} {LX : Nat} : ck_Ok p2_O X LX 286 p2_s1651 := ck_ok_s (O := p2_O) (X := X) (LX := LX) (E := []) (mi := 286) (cuts := []) (f := 88) (S := p2_s1651) (lx := none) (XF := []) ⟨p2_nmu, ck_E0⟩ ck_X0 ck_l0 (by decide +kernel)
set_option maxRecDepth 100000 in
/-- GlacierMailModel.log -/
noncomputable def p2_s1652 : ck_Sum := ((1, 0, 0), 245, [.inr (.inr (.inl 226)), .inl ((-2147483648), (-1), []), .inl ((-2147483648), 2147483647, [])], ([], [], [(227, 14, 14, (0, 24, [(26, 0)]))]), ([(226, 0, 0)], []), [(.inr (some (.inl (ck_one 0))), 245, ([], [], [(226, 0, 0, ck_one 1)])), (.inr (some (.inl (ck_one (-1)))), 245, ([], [], [(226, 0, 0, ck_one 0)]))])
set_option maxRecDepth 100000 in
theorem p2_s1652_s {X : Int → Int} {LX : Nat} : ck_Ok p2_O X LX 367 p2_s1652 := ck_ok_s (O := p2_O) (X := X) (LX := LX) (E := [(286, [p2_s1651, p2_s399]), (282, [p2_s241, p2_s242])]) (mi := 367) (cuts := []) (f := 120) (S := p2_s1652) (lx := none) (XF := []) ⟨p2_nmu, ck_E1 (ck_S1 p2_s1651_s (ck_S1 p2_s399_s ck_S0)) (ck_E1 (ck_S1 p2_s241_s (ck_S1 p2_s242_s ck_S0)) ck_E0)⟩ ck_X0 ck_l0 (by decide +kernel)
set_option maxRecDepth 100000 in
/-- GlacierMailModel.log -/
noncomputable def p2_s1653 : ck_Sum := ((1, 0, 0), 245, [.inr (.inr (.inl 226)), .inl (24, 2147483647, []), .inl ((-2147483648), 2147483647, [])], ([], [], [(227, 14, 14, (0, 24, [(26, 0)]))]), ([(226, 0, 0)], []), [(.inr (some (.inl (ck_one 0))), 245, ([], [], [(226, 0, 0, ck_one 1)])), (.inr (some (.inl (ck_one (-1)))), 245, ([], [], [(226, 0, 0, ck_one 0)]))])
set_option maxRecDepth 100000 in
theorem p2_s1653_s {X : Int → Int} {LX : Nat} : ck_Ok p2_O X LX 367 p2_s1653 := ck_ok_s (O := p2_O) (X := X) (LX := LX) (E := [(286, [p2_s1651, p2_s402]), (282, [p2_s241, p2_s242])]) (mi := 367) (cuts := []) (f := 120) (S := p2_s1653) (lx := none) (XF := []) ⟨p2_nmu, ck_E1 (ck_S1 p2_s1651_s (ck_S1 p2_s402_s ck_S0)) (ck_E1 (ck_S1 p2_s241_s (ck_S1 p2_s242_s ck_S0)) ck_E0)⟩ ck_X0 ck_l0 (by decide +kernel)
set_option maxRecDepth 100000 in
/-- GlacierMailModel.log -/
noncomputable def p2_s1654 : ck_Sum := ((1, 0, 0), 245, [.inr (.inr (.inl 226)), .inl (0, 23, []), .inl ((-2147483648), (-1), [])], ([], [], []), ([(226, 0, 0)], []), [(.inr (some (.inl (ck_one 0))), 245, ([], [], [(226, 0, 0, ck_one 1)]))])
set_option maxRecDepth 100000 in
theorem p2_s1654_s {X : Int → Int} {LX : Nat} : ck_Ok p2_O X LX 367 p2_s1654 := ck_ok_s (O := p2_O) (X := X) (LX := LX) (E := [(286, [p2_s1321]), (282, [p2_s241])]) (mi := 367) (cuts := []) (f := 102) (S := p2_s1654) (lx := none) (XF := []) ⟨p2_nmu, ck_E1 (ck_S1 p2_s1321_s ck_S0) (ck_E1 (ck_S1 p2_s241_s ck_S0) ck_E0)⟩ ck_X0 ck_l0 (by decide +kernel)
set_option maxRecDepth 100000 in
/-- GlacierMailModel.log -/
noncomputable def p2_s1655 : ck_Sum := ((1, 0, 0), 245, [.inr (.inr (.inl 226)), .inl (0, 23, []), .inl (10, 2147483647, [])], ([], [], []), ([(226, 0, 0)], []), [(.inr (some (.inl (ck_one 0))), 245, ([], [], [(226, 0, 0, ck_one 1)]))])
set_option maxRecDepth 100000 in
theorem p2_s1655_s {X : Int → Int} {LX : Nat} : ck_Ok p2_O X LX 367 p2_s1655 := ck_ok_s (O := p2_O) (X := X) (LX := LX) (E := [(286, [p2_s1323]), (282, [p2_s241])]) (mi := 367) (cuts := []) (f := 102) (S := p2_s1655) (lx := none) (XF := []) ⟨p2_nmu, ck_E1 (ck_S1 p2_s1323_s ck_S0) (ck_E1 (ck_S1 p2_s241_s ck_S0) ck_E0)⟩ ck_X0 ck_l0 (by decide +kernel)
set_option maxRecDepth 100000 in
/-- GlacierMailModel.log -/
noncomputable def p2_s1656 : ck_Sum := ((1, 0, 0), 245, [.inr (.inr (.inl 226)), .inl (0, 23, []), .inl (0, 9, [])], ([], [], [(227, 14, 14, (0, 24, [(26, 0)]))]), ([(226, 0, 0)], []), [(.inr (some (.inl (ck_one 0))), 245, ([], [], [(226, 0, 0, ck_one 1)])), (.inr (some (.inl ((-1), 400, []))), 245, ([], [], [(226, 0, 0, ck_one 0)]))])
set_option maxRecDepth 100000 in
theorem p2_s1656_s {X : Int → Int} {LX : Nat} : ck_Ok p2_O X LX 367 p2_s1656 := ck_ok_s (O := p2_O) (X := X) (LX := LX) (E := [(286, [p2_s1325, p2_s405]), (282, [p2_s241, p2_s242])]) (mi := 367) (cuts := []) (f := 140) (S := p2_s1656) (lx := none) (XF := []) ⟨p2_nmu, ck_E1 (ck_S1 p2_s1325_s (ck_S1 p2_s405_s ck_S0)) (ck_E1 (ck_S1 p2_s241_s (ck_S1 p2_s242_s ck_S0)) ck_E0)⟩ ck_X0 ck_l0 (by decide +kernel)
set_option maxRecDepth 100000 in
/-- GlacierMail$History.at -/
noncomputable def p2_s1657 : ck_Sum := ((0, 0, 0), 245, [.inr (.inr (.inl 42)), .inl (0, 11, [])], ([], [], []), ([], []), [(.inr (some (.inr (.inr (.inl 44)))), 245, ([], [], [])), (.inr (some (.inr (.inr (.inl 187)))), 245, ([], [], [])), (.inr (some (.inr (.inr (.inl 174)))), 245, ([], [], [])), (.inr (some (.inr (.inr (.inl 161)))), 245, ([], [], [])), (.inr (some (.inr (.inr (.inl 148)))), 245, ([], [], [])), (.inr (some (.inr (.inr (.inl 135)))), 245, ([], [], [])), (.inr (some (.inr (.inr (.inl 122)))), 245, ([], [], [])), (.inr (some (.inr (.inr (.inl 109)))), 245, ([], [], [])), (.inr (some (.inr (.inr (.inl 96)))), 245, ([], [], [])), (.inr (some (.inr (.inr (.inl 83)))), 245, ([], [], [])), (.inr (some (.inr (.inr (.inl 70)))), 245, ([], [], [])), (.inr (some (.inr (.inr (.inl 57)))), 245, ([], [], []))])
set_option maxRecDepth 100000 in
theorem p2_s1657_s {X : Int → Int} {LX : Nat} : ck_Ok p2_O X LX 56 p2_s1657 := ck_ok_s (O := p2_O) (X := X) (LX := LX) (E := []) (mi := 56) (cuts := []) (f := 96) (S := p2_s1657) (lx := none) (XF := []) ⟨p2_nmu, ck_E0⟩ ck_X0 ck_l0 (by decide +kernel)
set_option maxRecDepth 100000 in
/-- GlacierMail$Rows.copyFrom -/
noncomputable def p2_s1658 : ck_Sum := ((1, 0, 0), 245, [.inr (.inr (.inl 4)), .inr (.inr (.inl 45))], ([], [], []), ([(4, 3, 3), (5, 0, 55)], []), [(.inr none, 245, ([], [], []))])
set_option maxRecDepth 100000 in
theorem p2_s1658_s {X : Int → Int} {LX : Nat} : ck_Ok p2_O X LX 58 p2_s1658 := ck_ok_s (O := p2_O) (X := X) (LX := LX) (E := []) (mi := 58) (cuts := []) (f := 114) (S := p2_s1658) (lx := none) (XF := []) ⟨p2_nmu, ck_E0⟩ ck_X0 ck_l0 (by decide +kernel)
set_option maxRecDepth 100000 in
/-- GlacierMail$Rows.copyFrom -/
noncomputable def p2_s1659 : ck_Sum := ((1, 0, 0), 245, [.inr (.inr (.inl 6)), .inr (.inr (.inl 47))], ([], [], []), ([(6, 3, 3), (7, 0, 23)], []), [(.inr none, 245, ([], [], []))])
set_option maxRecDepth 100000 in
theorem p2_s1659_s {X : Int → Int} {LX : Nat} : ck_Ok p2_O X LX 58 p2_s1659 := ck_ok_s (O := p2_O) (X := X) (LX := LX) (E := []) (mi := 58) (cuts := []) (f := 114) (S := p2_s1659) (lx := none) (XF := []) ⟨p2_nmu, ck_E0⟩ ck_X0 ck_l0 (by decide +kernel)
set_option maxRecDepth 100000 in
/-- GlacierMail$Rows.copyFrom -/
noncomputable def p2_s1660 : ck_Sum := ((1, 0, 0), 245, [.inr (.inr (.inl 8)), .inr (.inr (.inl 49))], ([], [], []), ([(8, 3, 3), (9, 0, 23)], []), [(.inr none, 245, ([], [], []))])
set_option maxRecDepth 100000 in
theorem p2_s1660_s {X : Int → Int} {LX : Nat} : ck_Ok p2_O X LX 58 p2_s1660 := ck_ok_s (O := p2_O) (X := X) (LX := LX) (E := []) (mi := 58) (cuts := []) (f := 114) (S := p2_s1660) (lx := none) (XF := []) ⟨p2_nmu, ck_E0⟩ ck_X0 ck_l0 (by decide +kernel)
set_option maxRecDepth 100000 in
/-- GlacierMail$Rows.copyFrom -/
noncomputable def p2_s1661 : ck_Sum := ((1, 0, 0), 245, [.inr (.inr (.inl 10)), .inr (.inr (.inl 51))], ([], [], []), ([(10, 3, 3), (11, 0, 167)], []), [(.inr none, 245, ([], [], []))])
set_option maxRecDepth 100000 in
theorem p2_s1661_s {X : Int → Int} {LX : Nat} : ck_Ok p2_O X LX 58 p2_s1661 := ck_ok_s (O := p2_O) (X := X) (LX := LX) (E := []) (mi := 58) (cuts := []) (f := 114) (S := p2_s1661) (lx := none) (XF := []) ⟨p2_nmu, ck_E0⟩ ck_X0 ck_l0 (by decide +kernel)
set_option maxRecDepth 100000 in
/-- GlacierMail$Rows.copyFrom -/
noncomputable def p2_s1662 : ck_Sum := ((1, 0, 0), 245, [.inr (.inr (.inl 12)), .inr (.inr (.inl 53))], ([], [], []), ([(12, 3, 3), (13, 0, 35)], []), [(.inr none, 245, ([], [], []))])
set_option maxRecDepth 100000 in
theorem p2_s1662_s {X : Int → Int} {LX : Nat} : ck_Ok p2_O X LX 58 p2_s1662 := ck_ok_s (O := p2_O) (X := X) (LX := LX) (E := []) (mi := 58) (cuts := []) (f := 114) (S := p2_s1662) (lx := none) (XF := []) ⟨p2_nmu, ck_E0⟩ ck_X0 ck_l0 (by decide +kernel)
set_option maxRecDepth 100000 in
/-- GlacierMail$Rows.copyFrom -/
noncomputable def p2_s1663 : ck_Sum := ((1, 0, 0), 245, [.inr (.inr (.inl 14)), .inr (.inr (.inl 55))], ([], [], []), ([(14, 3, 3), (15, 0, 71)], []), [(.inr none, 245, ([], [], []))])
set_option maxRecDepth 100000 in
theorem p2_s1663_s {X : Int → Int} {LX : Nat} : ck_Ok p2_O X LX 58 p2_s1663 := ck_ok_s (O := p2_O) (X := X) (LX := LX) (E := []) (mi := 58) (cuts := []) (f := 114) (S := p2_s1663) (lx := none) (XF := []) ⟨p2_nmu, ck_E0⟩ ck_X0 ck_l0 (by decide +kernel)
set_option maxRecDepth 100000 in
/-- GlacierMail$State.copyFrom -/
noncomputable def p2_s1664 : ck_Sum := ((2, 0, 0), 245, [.inr (.inr (.inl 3)), .inr (.inr (.inl 44))], ([], [(3, 8, 0), (44, 8, 100044)], []), (zl1, [(3, 8)]), [(.inr none, 245, ([], [(3, 8, 100044)], []))])
set_option maxRecDepth 100000 in
theorem p2_s1664_s {X : Int → Int} {LX : Nat} : ck_Ok p2_O X LX 57 p2_s1664 := ck_ok_s (O := p2_O) (X := X) (LX := LX) (E := [(58, [p2_s1658, p2_s1659, p2_s1660, p2_s1661, p2_s1662, p2_s1663])]) (mi := 57) (cuts := []) (f := 204) (S := p2_s1664) (lx := none) (XF := []) ⟨p2_nmu, ck_E1 (ck_S1 p2_s1658_s (ck_S1 p2_s1659_s (ck_S1 p2_s1660_s (ck_S1 p2_s1661_s (ck_S1 p2_s1662_s (ck_S1 p2_s1663_s ck_S0)))))) ck_E0⟩ ck_X0 ck_l0 (by decide +kernel)
set_option maxRecDepth 100000 in
/-- GlacierMail$Rows.copyFrom -/
noncomputable def p2_s1665 : ck_Sum := ((1, 0, 0), 245, [.inr (.inr (.inl 4)), .inr (.inr (.inl 58))], ([], [], []), ([(4, 3, 3), (5, 0, 55)], []), [(.inr none, 245, ([], [], []))])
set_option maxRecDepth 100000 in
theorem p2_s1665_s {X : Int → Int} {LX : Nat} : ck_Ok p2_O X LX 58 p2_s1665 := ck_ok_s (O := p2_O) (X := X) (LX := LX) (E := []) (mi := 58) (cuts := []) (f := 114) (S := p2_s1665) (lx := none) (XF := []) ⟨p2_nmu, ck_E0⟩ ck_X0 ck_l0 (by decide +kernel)
set_option maxRecDepth 100000 in
/-- GlacierMail$Rows.copyFrom -/
noncomputable def p2_s1666 : ck_Sum := ((1, 0, 0), 245, [.inr (.inr (.inl 6)), .inr (.inr (.inl 60))], ([], [], []), ([(6, 3, 3), (7, 0, 23)], []), [(.inr none, 245, ([], [], []))])
set_option maxRecDepth 100000 in
theorem p2_s1666_s {X : Int → Int} {LX : Nat} : ck_Ok p2_O X LX 58 p2_s1666 := ck_ok_s (O := p2_O) (X := X) (LX := LX) (E := []) (mi := 58) (cuts := []) (f := 114) (S := p2_s1666) (lx := none) (XF := []) ⟨p2_nmu, ck_E0⟩ ck_X0 ck_l0 (by decide +kernel)
set_option maxRecDepth 100000 in
/-- GlacierMail$Rows.copyFrom -/
noncomputable def p2_s1667 : ck_Sum := ((1, 0, 0), 245, [.inr (.inr (.inl 8)), .inr (.inr (.inl 62))], ([], [], []), ([(8, 3, 3), (9, 0, 23)], []), [(.inr none, 245, ([], [], []))])
set_option maxRecDepth 100000 in
theorem p2_s1667_s {X : Int → Int} {LX : Nat} : ck_Ok p2_O X LX 58 p2_s1667 := ck_ok_s (O := p2_O) (X := X) (LX := LX) (E := []) (mi := 58) (cuts := []) (f := 114) (S := p2_s1667) (lx := none) (XF := []) ⟨p2_nmu, ck_E0⟩ ck_X0 ck_l0 (by decide +kernel)
end
/-! 78r80a21.sf -/
section
/-! EVERY CALL ENDS, whatever was done before (laid by wip/am/p2k.py). -/
set_option maxRecDepth 100000 in
/-- GlacierMail$Rows.copyFrom -/
noncomputable def p2_s1668 : ck_Sum := ((1, 0, 0), 245, [.inr (.inr (.inl 10)), .inr (.inr (.inl 64))], ([], [], []), ([(10, 3, 3), (11, 0, 167)], []), [(.inr none, 245, ([], [], []))])
set_option maxRecDepth 100000 in
theorem p2_s1668_s {X : Int → Int} {LX : Nat} : ck_Ok p2_O X LX 58 p2_s1668 := ck_ok_s (O := p2_O) (X := X) (LX := LX) (E := []) (mi := 58) (cuts := []) (f := 114) (S := p2_s1668) (lx := none) (XF := []) ⟨p2_nmu, ck_E0⟩ ck_X0 ck_l0 (by decide +kernel)
set_option maxRecDepth 100000 in
/-- GlacierMail$Rows.copyFrom -/
noncomputable def p2_s1669 : ck_Sum := ((1, 0, 0), 245, [.inr (.inr (.inl 12)), .inr (.inr (.inl 66))], ([], [], []), ([(12, 3, 3), (13, 0, 35)], []), [(.inr none, 245, ([], [], []))])
set_option maxRecDepth 100000 in
theorem p2_s1669_s {X : Int → Int} {LX : Nat} : ck_Ok p2_O X LX 58 p2_s1669 := ck_ok_s (O := p2_O) (X := X) (LX := LX) (E := []) (mi := 58) (cuts := []) (f := 114) (S := p2_s1669) (lx := none) (XF := []) ⟨p2_nmu, ck_E0⟩ ck_X0 ck_l0 (by decide +kernel)
set_option maxRecDepth 100000 in
/-- GlacierMail$Rows.copyFrom -/
noncomputable def p2_s1670 : ck_Sum := ((1, 0, 0), 245, [.inr (.inr (.inl 14)), .inr (.inr (.inl 68))], ([], [], []), ([(14, 3, 3), (15, 0, 71)], []), [(.inr none, 245, ([], [], []))])
set_option maxRecDepth 100000 in
theorem p2_s1670_s {X : Int → Int} {LX : Nat} : ck_Ok p2_O X LX 58 p2_s1670 := ck_ok_s (O := p2_O) (X := X) (LX := LX) (E := []) (mi := 58) (cuts := []) (f := 114) (S := p2_s1670) (lx := none) (XF := []) ⟨p2_nmu, ck_E0⟩ ck_X0 ck_l0 (by decide +kernel)
set_option maxRecDepth 100000 in
/-- GlacierMail$State.copyFrom -/
noncomputable def p2_s1671 : ck_Sum := ((2, 0, 0), 245, [.inr (.inr (.inl 3)), .inr (.inr (.inl 57))], ([], [(3, 8, 0), (57, 8, 100057)], []), (zl1, [(3, 8)]), [(.inr none, 245, ([], [(3, 8, 100057)], []))])
set_option maxRecDepth 100000 in
theorem p2_s1671_s {X : Int → Int} {LX : Nat} : ck_Ok p2_O X LX 57 p2_s1671 := ck_ok_s (O := p2_O) (X := X) (LX := LX) (E := [(58, [p2_s1665, p2_s1666, p2_s1667, p2_s1668, p2_s1669, p2_s1670])]) (mi := 57) (cuts := []) (f := 204) (S := p2_s1671) (lx := none) (XF := []) ⟨p2_nmu, ck_E1 (ck_S1 p2_s1665_s (ck_S1 p2_s1666_s (ck_S1 p2_s1667_s (ck_S1 p2_s1668_s (ck_S1 p2_s1669_s (ck_S1 p2_s1670_s ck_S0)))))) ck_E0⟩ ck_X0 ck_l0 (by decide +kernel)
set_option maxRecDepth 100000 in
/-- GlacierMail$Rows.copyFrom -/
noncomputable def p2_s1672 : ck_Sum := ((1, 0, 0), 245, [.inr (.inr (.inl 4)), .inr (.inr (.inl 71))], ([], [], []), ([(4, 3, 3), (5, 0, 55)], []), [(.inr none, 245, ([], [], []))])
set_option maxRecDepth 100000 in
theorem p2_s1672_s {X : Int → Int} {LX : Nat} : ck_Ok p2_O X LX 58 p2_s1672 := ck_ok_s (O := p2_O) (X := X) (LX := LX) (E := []) (mi := 58) (cuts := []) (f := 114) (S := p2_s1672) (lx := none) (XF := []) ⟨p2_nmu, ck_E0⟩ ck_X0 ck_l0 (by decide +kernel)
set_option maxRecDepth 100000 in
/-- GlacierMail$Rows.copyFrom -/
noncomputable def p2_s1673 : ck_Sum := ((1, 0, 0), 245, [.inr (.inr (.inl 6)), .inr (.inr (.inl 73))], ([], [], []), ([(6, 3, 3), (7, 0, 23)], []), [(.inr none, 245, ([], [], []))])
set_option maxRecDepth 100000 in
theorem p2_s1673_s {X : Int → Int} {LX : Nat} : ck_Ok p2_O X LX 58 p2_s1673 := ck_ok_s (O := p2_O) (X := X) (LX := LX) (E := []) (mi := 58) (cuts := []) (f := 114) (S := p2_s1673) (lx := none) (XF := []) ⟨p2_nmu, ck_E0⟩ ck_X0 ck_l0 (by decide +kernel)
set_option maxRecDepth 100000 in
/-- GlacierMail$Rows.copyFrom -/
noncomputable def p2_s1674 : ck_Sum := ((1, 0, 0), 245, [.inr (.inr (.inl 8)), .inr (.inr (.inl 75))], ([], [], []), ([(8, 3, 3), (9, 0, 23)], []), [(.inr none, 245, ([], [], []))])
set_option maxRecDepth 100000 in
theorem p2_s1674_s {X : Int → Int} {LX : Nat} : ck_Ok p2_O X LX 58 p2_s1674 := ck_ok_s (O := p2_O) (X := X) (LX := LX) (E := []) (mi := 58) (cuts := []) (f := 114) (S := p2_s1674) (lx := none) (XF := []) ⟨p2_nmu, ck_E0⟩ ck_X0 ck_l0 (by decide +kernel)
set_option maxRecDepth 100000 in
/-- GlacierMail$Rows.copyFrom -/
noncomputable def p2_s1675 : ck_Sum := ((1, 0, 0), 245, [.inr (.inr (.inl 10)), .inr (.inr (.inl 77))], ([], [], []), ([(10, 3, 3), (11, 0, 167)], []), [(.inr none, 245, ([], [], []))])
set_option maxRecDepth 100000 in
theorem p2_s1675_s {X : Int → Int} {LX : Nat} : ck_Ok p2_O X LX 58 p2_s1675 := ck_ok_s (O := p2_O) (X := X) (LX := LX) (E := []) (mi := 58) (cuts := []) (f := 114) (S := p2_s1675) (lx := none) (XF := []) ⟨p2_nmu, ck_E0⟩ ck_X0 ck_l0 (by decide +kernel)
set_option maxRecDepth 100000 in
/-- GlacierMail$Rows.copyFrom -/
noncomputable def p2_s1676 : ck_Sum := ((1, 0, 0), 245, [.inr (.inr (.inl 12)), .inr (.inr (.inl 79))], ([], [], []), ([(12, 3, 3), (13, 0, 35)], []), [(.inr none, 245, ([], [], []))])
set_option maxRecDepth 100000 in
theorem p2_s1676_s {X : Int → Int} {LX : Nat} : ck_Ok p2_O X LX 58 p2_s1676 := ck_ok_s (O := p2_O) (X := X) (LX := LX) (E := []) (mi := 58) (cuts := []) (f := 114) (S := p2_s1676) (lx := none) (XF := []) ⟨p2_nmu, ck_E0⟩ ck_X0 ck_l0 (by decide +kernel)
set_option maxRecDepth 100000 in
/-- GlacierMail$Rows.copyFrom -/
noncomputable def p2_s1677 : ck_Sum := ((1, 0, 0), 245, [.inr (.inr (.inl 14)), .inr (.inr (.inl 81))], ([], [], []), ([(14, 3, 3), (15, 0, 71)], []), [(.inr none, 245, ([], [], []))])
set_option maxRecDepth 100000 in
theorem p2_s1677_s {X : Int → Int} {LX : Nat} : ck_Ok p2_O X LX 58 p2_s1677 := ck_ok_s (O := p2_O) (X := X) (LX := LX) (E := []) (mi := 58) (cuts := []) (f := 114) (S := p2_s1677) (lx := none) (XF := []) ⟨p2_nmu, ck_E0⟩ ck_X0 ck_l0 (by decide +kernel)
set_option maxRecDepth 100000 in
/-- GlacierMail$State.copyFrom -/
noncomputable def p2_s1678 : ck_Sum := ((2, 0, 0), 245, [.inr (.inr (.inl 3)), .inr (.inr (.inl 70))], ([], [(3, 8, 0), (70, 8, 100070)], []), (zl1, [(3, 8)]), [(.inr none, 245, ([], [(3, 8, 100070)], []))])
set_option maxRecDepth 100000 in
theorem p2_s1678_s {X : Int → Int} {LX : Nat} : ck_Ok p2_O X LX 57 p2_s1678 := ck_ok_s (O := p2_O) (X := X) (LX := LX) (E := [(58, [p2_s1672, p2_s1673, p2_s1674, p2_s1675, p2_s1676, p2_s1677])]) (mi := 57) (cuts := []) (f := 204) (S := p2_s1678) (lx := none) (XF := []) ⟨p2_nmu, ck_E1 (ck_S1 p2_s1672_s (ck_S1 p2_s1673_s (ck_S1 p2_s1674_s (ck_S1 p2_s1675_s (ck_S1 p2_s1676_s (ck_S1 p2_s1677_s ck_S0)))))) ck_E0⟩ ck_X0 ck_l0 (by decide +kernel)
set_option maxRecDepth 100000 in
/-- GlacierMail$Rows.copyFrom -/
noncomputable def p2_s1679 : ck_Sum := ((1, 0, 0), 245, [.inr (.inr (.inl 4)), .inr (.inr (.inl 84))], ([], [], []), ([(4, 3, 3), (5, 0, 55)], []), [(.inr none, 245, ([], [], []))])
set_option maxRecDepth 100000 in
theorem p2_s1679_s {X : Int → Int} {LX : Nat} : ck_Ok p2_O X LX 58 p2_s1679 := ck_ok_s (O := p2_O) (X := X) (LX := LX) (E := []) (mi := 58) (cuts := []) (f := 114) (S := p2_s1679) (lx := none) (XF := []) ⟨p2_nmu, ck_E0⟩ ck_X0 ck_l0 (by decide +kernel)
set_option maxRecDepth 100000 in
/-- GlacierMail$Rows.copyFrom -/
noncomputable def p2_s1680 : ck_Sum := ((1, 0, 0), 245, [.inr (.inr (.inl 6)), .inr (.inr (.inl 86))], ([], [], []), ([(6, 3, 3), (7, 0, 23)], []), [(.inr none, 245, ([], [], []))])
set_option maxRecDepth 100000 in
theorem p2_s1680_s {X : Int → Int} {LX : Nat} : ck_Ok p2_O X LX 58 p2_s1680 := ck_ok_s (O := p2_O) (X := X) (LX := LX) (E := []) (mi := 58) (cuts := []) (f := 114) (S := p2_s1680) (lx := none) (XF := []) ⟨p2_nmu, ck_E0⟩ ck_X0 ck_l0 (by decide +kernel)
set_option maxRecDepth 100000 in
/-- GlacierMail$Rows.copyFrom -/
noncomputable def p2_s1681 : ck_Sum := ((1, 0, 0), 245, [.inr (.inr (.inl 8)), .inr (.inr (.inl 88))], ([], [], []), ([(8, 3, 3), (9, 0, 23)], []), [(.inr none, 245, ([], [], []))])
set_option maxRecDepth 100000 in
theorem p2_s1681_s {X : Int → Int} {LX : Nat} : ck_Ok p2_O X LX 58 p2_s1681 := ck_ok_s (O := p2_O) (X := X) (LX := LX) (E := []) (mi := 58) (cuts := []) (f := 114) (S := p2_s1681) (lx := none) (XF := []) ⟨p2_nmu, ck_E0⟩ ck_X0 ck_l0 (by decide +kernel)
set_option maxRecDepth 100000 in
/-- GlacierMail$Rows.copyFrom -/
noncomputable def p2_s1682 : ck_Sum := ((1, 0, 0), 245, [.inr (.inr (.inl 10)), .inr (.inr (.inl 90))], ([], [], []), ([(10, 3, 3), (11, 0, 167)], []), [(.inr none, 245, ([], [], []))])
set_option maxRecDepth 100000 in
theorem p2_s1682_s {X : Int → Int} {LX : Nat} : ck_Ok p2_O X LX 58 p2_s1682 := ck_ok_s (O := p2_O) (X := X) (LX := LX) (E := []) (mi := 58) (cuts := []) (f := 114) (S := p2_s1682) (lx := none) (XF := []) ⟨p2_nmu, ck_E0⟩ ck_X0 ck_l0 (by decide +kernel)
set_option maxRecDepth 100000 in
/-- GlacierMail$Rows.copyFrom -/
noncomputable def p2_s1683 : ck_Sum := ((1, 0, 0), 245, [.inr (.inr (.inl 12)), .inr (.inr (.inl 92))], ([], [], []), ([(12, 3, 3), (13, 0, 35)], []), [(.inr none, 245, ([], [], []))])
set_option maxRecDepth 100000 in
theorem p2_s1683_s {X : Int → Int} {LX : Nat} : ck_Ok p2_O X LX 58 p2_s1683 := ck_ok_s (O := p2_O) (X := X) (LX := LX) (E := []) (mi := 58) (cuts := []) (f := 114) (S := p2_s1683) (lx := none) (XF := []) ⟨p2_nmu, ck_E0⟩ ck_X0 ck_l0 (by decide +kernel)
set_option maxRecDepth 100000 in
/-- GlacierMail$Rows.copyFrom -/
noncomputable def p2_s1684 : ck_Sum := ((1, 0, 0), 245, [.inr (.inr (.inl 14)), .inr (.inr (.inl 94))], ([], [], []), ([(14, 3, 3), (15, 0, 71)], []), [(.inr none, 245, ([], [], []))])
set_option maxRecDepth 100000 in
theorem p2_s1684_s {X : Int → Int} {LX : Nat} : ck_Ok p2_O X LX 58 p2_s1684 := ck_ok_s (O := p2_O) (X := X) (LX := LX) (E := []) (mi := 58) (cuts := []) (f := 114) (S := p2_s1684) (lx := none) (XF := []) ⟨p2_nmu, ck_E0⟩ ck_X0 ck_l0 (by decide +kernel)
set_option maxRecDepth 100000 in
/-- GlacierMail$State.copyFrom -/
noncomputable def p2_s1685 : ck_Sum := ((2, 0, 0), 245, [.inr (.inr (.inl 3)), .inr (.inr (.inl 83))], ([], [(3, 8, 0), (83, 8, 100083)], []), (zl1, [(3, 8)]), [(.inr none, 245, ([], [(3, 8, 100083)], []))])
set_option maxRecDepth 100000 in
theorem p2_s1685_s {X : Int → Int} {LX : Nat} : ck_Ok p2_O X LX 57 p2_s1685 := ck_ok_s (O := p2_O) (X := X) (LX := LX) (E := [(58, [p2_s1679, p2_s1680, p2_s1681, p2_s1682, p2_s1683, p2_s1684])]) (mi := 57) (cuts := []) (f := 204) (S := p2_s1685) (lx := none) (XF := []) ⟨p2_nmu, ck_E1 (ck_S1 p2_s1679_s (ck_S1 p2_s1680_s (ck_S1 p2_s1681_s (ck_S1 p2_s1682_s (ck_S1 p2_s1683_s (ck_S1 p2_s1684_s ck_S0)))))) ck_E0⟩ ck_X0 ck_l0 (by decide +kernel)
set_option maxRecDepth 100000 in
/-- GlacierMail$Rows.copyFrom -/
noncomputable def p2_s1686 : ck_Sum := ((1, 0, 0), 245, [.inr (.inr (.inl 4)), .inr (.inr (.inl 97))], ([], [], []), ([(4, 3, 3), (5, 0, 55)], []), [(.inr none, 245, ([], [], []))])
set_option maxRecDepth 100000 in
theorem p2_s1686_s {X : Int → Int} {LX : Nat} : ck_Ok p2_O X LX 58 p2_s1686 := ck_ok_s (O := p2_O) (X := X) (LX := LX) (E := []) (mi := 58) (cuts := []) (f := 114) (S := p2_s1686) (lx := none) (XF := []) ⟨p2_nmu, ck_E0⟩ ck_X0 ck_l0 (by decide +kernel)
set_option maxRecDepth 100000 in
/-- GlacierMail$Rows.copyFrom -/
noncomputable def p2_s1687 : ck_Sum := ((1, 0, 0), 245, [.inr (.inr (.inl 6)), .inr (.inr (.inl 99))], ([], [], []), ([(6, 3, 3), (7, 0, 23)], []), [(.inr none, 245, ([], [], []))])
set_option maxRecDepth 100000 in
theorem p2_s1687_s {X : Int → Int} {LX : Nat} : ck_Ok p2_O X LX 58 p2_s1687 := ck_ok_s (O := p2_O) (X := X) (LX := LX) (E := []) (mi := 58) (cuts := []) (f := 114) (S := p2_s1687) (lx := none) (XF := []) ⟨p2_nmu, ck_E0⟩ ck_X0 ck_l0 (by decide +kernel)
set_option maxRecDepth 100000 in
/-- GlacierMail$Rows.copyFrom -/
noncomputable def p2_s1688 : ck_Sum := ((1, 0, 0), 245, [.inr (.inr (.inl 8)), .inr (.inr (.inl 101))], ([], [], []), ([(8, 3, 3), (9, 0, 23)], []), [(.inr none, 245, ([], [], []))])
set_option maxRecDepth 100000 in
theorem p2_s1688_s {X : Int → Int} {LX : Nat} : ck_Ok p2_O X LX 58 p2_s1688 := ck_ok_s (O := p2_O) (X := X) (LX := LX) (E := []) (mi := 58) (cuts := []) (f := 114) (S := p2_s1688) (lx := none) (XF := []) ⟨p2_nmu, ck_E0⟩ ck_X0 ck_l0 (by decide +kernel)
set_option maxRecDepth 100000 in
/-- GlacierMail$Rows.copyFrom -/
noncomputable def p2_s1689 : ck_Sum := ((1, 0, 0), 245, [.inr (.inr (.inl 10)), .inr (.inr (.inl 103))], ([], [], []), ([(10, 3, 3), (11, 0, 167)], []), [(.inr none, 245, ([], [], []))])
set_option maxRecDepth 100000 in
theorem p2_s1689_s {X : Int → Int} {LX : Nat} : ck_Ok p2_O X LX 58 p2_s1689 := ck_ok_s (O := p2_O) (X := X) (LX := LX) (E := []) (mi := 58) (cuts := []) (f := 114) (S := p2_s1689) (lx := none) (XF := []) ⟨p2_nmu, ck_E0⟩ ck_X0 ck_l0 (by decide +kernel)
set_option maxRecDepth 100000 in
/-- GlacierMail$Rows.copyFrom -/
noncomputable def p2_s1690 : ck_Sum := ((1, 0, 0), 245, [.inr (.inr (.inl 12)), .inr (.inr (.inl 105))], ([], [], []), ([(12, 3, 3), (13, 0, 35)], []), [(.inr none, 245, ([], [], []))])
set_option maxRecDepth 100000 in
theorem p2_s1690_s {X : Int → Int} {LX : Nat} : ck_Ok p2_O X LX 58 p2_s1690 := ck_ok_s (O := p2_O) (X := X) (LX := LX) (E := []) (mi := 58) (cuts := []) (f := 114) (S := p2_s1690) (lx := none) (XF := []) ⟨p2_nmu, ck_E0⟩ ck_X0 ck_l0 (by decide +kernel)
set_option maxRecDepth 100000 in
/-- GlacierMail$Rows.copyFrom -/
noncomputable def p2_s1691 : ck_Sum := ((1, 0, 0), 245, [.inr (.inr (.inl 14)), .inr (.inr (.inl 107))], ([], [], []), ([(14, 3, 3), (15, 0, 71)], []), [(.inr none, 245, ([], [], []))])
set_option maxRecDepth 100000 in
theorem p2_s1691_s {X : Int → Int} {LX : Nat} : ck_Ok p2_O X LX 58 p2_s1691 := ck_ok_s (O := p2_O) (X := X) (LX := LX) (E := []) (mi := 58) (cuts := []) (f := 114) (S := p2_s1691) (lx := none) (XF := []) ⟨p2_nmu, ck_E0⟩ ck_X0 ck_l0 (by decide +kernel)
set_option maxRecDepth 100000 in
/-- GlacierMail$State.copyFrom -/
noncomputable def p2_s1692 : ck_Sum := ((2, 0, 0), 245, [.inr (.inr (.inl 3)), .inr (.inr (.inl 96))], ([], [(3, 8, 0), (96, 8, 100096)], []), (zl1, [(3, 8)]), [(.inr none, 245, ([], [(3, 8, 100096)], []))])
set_option maxRecDepth 100000 in
theorem p2_s1692_s {X : Int → Int} {LX : Nat} : ck_Ok p2_O X LX 57 p2_s1692 := ck_ok_s (O := p2_O) (X := X) (LX := LX) (E := [(58, [p2_s1686, p2_s1687, p2_s1688, p2_s1689, p2_s1690, p2_s1691])]) (mi := 57) (cuts := []) (f := 204) (S := p2_s1692) (lx := none) (XF := []) ⟨p2_nmu, ck_E1 (ck_S1 p2_s1686_s (ck_S1 p2_s1687_s (ck_S1 p2_s1688_s (ck_S1 p2_s1689_s (ck_S1 p2_s1690_s (ck_S1 p2_s1691_s ck_S0)))))) ck_E0⟩ ck_X0 ck_l0 (by decide +kernel)
set_option maxRecDepth 100000 in
/-- GlacierMail$Rows.copyFrom -/
noncomputable def p2_s1693 : ck_Sum := ((1, 0, 0), 245, [.inr (.inr (.inl 4)), .inr (.inr (.inl 110))], ([], [], []), ([(4, 3, 3), (5, 0, 55)], []), [(.inr none, 245, ([], [], []))])
set_option maxRecDepth 100000 in
theorem p2_s1693_s {X : Int → Int} {LX : Nat} : ck_Ok p2_O X LX 58 p2_s1693 := ck_ok_s (O := p2_O) (X := X) (LX := LX) (E := []) (mi := 58) (cuts := []) (f := 114) (S := p2_s1693) (lx := none) (XF := []) ⟨p2_nmu, ck_E0⟩ ck_X0 ck_l0 (by decide +kernel)
set_option maxRecDepth 100000 in
/-- GlacierMail$Rows.copyFrom -/
noncomputable def p2_s1694 : ck_Sum := ((1, 0, 0), 245, [.inr (.inr (.inl 6)), .inr (.inr (.inl 112))], ([], [], []), ([(6, 3, 3), (7, 0, 23)], []), [(.inr none, 245, ([], [], []))])
set_option maxRecDepth 100000 in
theorem p2_s1694_s {X : Int → Int} {LX : Nat} : ck_Ok p2_O X LX 58 p2_s1694 := ck_ok_s (O := p2_O) (X := X) (LX := LX) (E := []) (mi := 58) (cuts := []) (f := 114) (S := p2_s1694) (lx := none) (XF := []) ⟨p2_nmu, ck_E0⟩ ck_X0 ck_l0 (by decide +kernel)
set_option maxRecDepth 100000 in
/-- GlacierMail$Rows.copyFrom -/
noncomputable def p2_s1695 : ck_Sum := ((1, 0, 0), 245, [.inr (.inr (.inl 8)), .inr (.inr (.inl 114))], ([], [], []), ([(8, 3, 3), (9, 0, 23)], []), [(.inr none, 245, ([], [], []))])
set_option maxRecDepth 100000 in
theorem p2_s1695_s {X : Int → Int} {LX : Nat} : ck_Ok p2_O X LX 58 p2_s1695 := ck_ok_s (O := p2_O) (X := X) (LX := LX) (E := []) (mi := 58) (cuts := []) (f := 114) (S := p2_s1695) (lx := none) (XF := []) ⟨p2_nmu, ck_E0⟩ ck_X0 ck_l0 (by decide +kernel)
set_option maxRecDepth 100000 in
/-- GlacierMail$Rows.copyFrom -/
noncomputable def p2_s1696 : ck_Sum := ((1, 0, 0), 245, [.inr (.inr (.inl 10)), .inr (.inr (.inl 116))], ([], [], []), ([(10, 3, 3), (11, 0, 167)], []), [(.inr none, 245, ([], [], []))])
set_option maxRecDepth 100000 in
theorem p2_s1696_s {X : Int → Int} {LX : Nat} : ck_Ok p2_O X LX 58 p2_s1696 := ck_ok_s (O := p2_O) (X := X) (LX := LX) (E := []) (mi := 58) (cuts := []) (f := 114) (S := p2_s1696) (lx := none) (XF := []) ⟨p2_nmu, ck_E0⟩ ck_X0 ck_l0 (by decide +kernel)
set_option maxRecDepth 100000 in
/-- GlacierMail$Rows.copyFrom -/
noncomputable def p2_s1697 : ck_Sum := ((1, 0, 0), 245, [.inr (.inr (.inl 12)), .inr (.inr (.inl 118))], ([], [], []), ([(12, 3, 3), (13, 0, 35)], []), [(.inr none, 245, ([], [], []))])
set_option maxRecDepth 100000 in
theorem p2_s1697_s {X : Int → Int} {LX : Nat} : ck_Ok p2_O X LX 58 p2_s1697 := ck_ok_s (O := p2_O) (X := X) (LX := LX) (E := []) (mi := 58) (cuts := []) (f := 114) (S := p2_s1697) (lx := none) (XF := []) ⟨p2_nmu, ck_E0⟩ ck_X0 ck_l0 (by decide +kernel)
set_option maxRecDepth 100000 in
/-- GlacierMail$Rows.copyFrom -/
noncomputable def p2_s1698 : ck_Sum := ((1, 0, 0), 245, [.inr (.inr (.inl 14)), .inr (.inr (.inl 120))], ([], [], []), ([(14, 3, 3), (15, 0, 71)], []), [(.inr none, 245, ([], [], []))])
set_option maxRecDepth 100000 in
theorem p2_s1698_s {X : Int → Int} {LX : Nat} : ck_Ok p2_O X LX 58 p2_s1698 := ck_ok_s (O := p2_O) (X := X) (LX := LX) (E := []) (mi := 58) (cuts := []) (f := 114) (S := p2_s1698) (lx := none) (XF := []) ⟨p2_nmu, ck_E0⟩ ck_X0 ck_l0 (by decide +kernel)
set_option maxRecDepth 100000 in
/-- GlacierMail$State.copyFrom -/
noncomputable def p2_s1699 : ck_Sum := ((2, 0, 0), 245, [.inr (.inr (.inl 3)), .inr (.inr (.inl 109))], ([], [(3, 8, 0), (109, 8, 100109)], []), (zl1, [(3, 8)]), [(.inr none, 245, ([], [(3, 8, 100109)], []))])
set_option maxRecDepth 100000 in
theorem p2_s1699_s {X : Int → Int} {LX : Nat} : ck_Ok p2_O X LX 57 p2_s1699 := ck_ok_s (O := p2_O) (X := X) (LX := LX) (E := [(58, [p2_s1693, p2_s1694, p2_s1695, p2_s1696, p2_s1697, p2_s1698])]) (mi := 57) (cuts := []) (f := 204) (S := p2_s1699) (lx := none) (XF := []) ⟨p2_nmu, ck_E1 (ck_S1 p2_s1693_s (ck_S1 p2_s1694_s (ck_S1 p2_s1695_s (ck_S1 p2_s1696_s (ck_S1 p2_s1697_s (ck_S1 p2_s1698_s ck_S0)))))) ck_E0⟩ ck_X0 ck_l0 (by decide +kernel)
set_option maxRecDepth 100000 in
/-- GlacierMail$Rows.copyFrom -/
noncomputable def p2_s1700 : ck_Sum := ((1, 0, 0), 245, [.inr (.inr (.inl 4)), .inr (.inr (.inl 123))], ([], [], []), ([(4, 3, 3), (5, 0, 55)], []), [(.inr none, 245, ([], [], []))])
set_option maxRecDepth 100000 in
theorem p2_s1700_s {X : Int → Int} {LX : Nat} : ck_Ok p2_O X LX 58 p2_s1700 := ck_ok_s (O := p2_O) (X := X) (LX := LX) (E := []) (mi := 58) (cuts := []) (f := 114) (S := p2_s1700) (lx := none) (XF := []) ⟨p2_nmu, ck_E0⟩ ck_X0 ck_l0 (by decide +kernel)
set_option maxRecDepth 100000 in
/-- GlacierMail$Rows.copyFrom -/
noncomputable def p2_s1701 : ck_Sum := ((1, 0, 0), 245, [.inr (.inr (.inl 6)), .inr (.inr (.inl 125))], ([], [], []), ([(6, 3, 3), (7, 0, 23)], []), [(.inr none, 245, ([], [], []))])
set_option maxRecDepth 100000 in
theorem p2_s1701_s {X : Int → Int} {LX : Nat} : ck_Ok p2_O X LX 58 p2_s1701 := ck_ok_s (O := p2_O) (X := X) (LX := LX) (E := []) (mi := 58) (cuts := []) (f := 114) (S := p2_s1701) (lx := none) (XF := []) ⟨p2_nmu, ck_E0⟩ ck_X0 ck_l0 (by decide +kernel)
set_option maxRecDepth 100000 in
/-- GlacierMail$Rows.copyFrom -/
noncomputable def p2_s1702 : ck_Sum := ((1, 0, 0), 245, [.inr (.inr (.inl 8)), .inr (.inr (.inl 127))], ([], [], []), ([(8, 3, 3), (9, 0, 23)], []), [(.inr none, 245, ([], [], []))])
set_option maxRecDepth 100000 in
theorem p2_s1702_s {X : Int → Int} {LX : Nat} : ck_Ok p2_O X LX 58 p2_s1702 := ck_ok_s (O := p2_O) (X := X) (LX := LX) (E := []) (mi := 58) (cuts := []) (f := 114) (S := p2_s1702) (lx := none) (XF := []) ⟨p2_nmu, ck_E0⟩ ck_X0 ck_l0 (by decide +kernel)
set_option maxRecDepth 100000 in
/-- GlacierMail$Rows.copyFrom -/
noncomputable def p2_s1703 : ck_Sum := ((1, 0, 0), 245, [.inr (.inr (.inl 10)), .inr (.inr (.inl 129))], ([], [], []), ([(10, 3, 3), (11, 0, 167)], []), [(.inr none, 245, ([], [], []))])
set_option maxRecDepth 100000 in
theorem p2_s1703_s {X : Int → Int} {LX : Nat} : ck_Ok p2_O X LX 58 p2_s1703 := ck_ok_s (O := p2_O) (X := X) (LX := LX) (E := []) (mi := 58) (cuts := []) (f := 114) (S := p2_s1703) (lx := none) (XF := []) ⟨p2_nmu, ck_E0⟩ ck_X0 ck_l0 (by decide +kernel)
set_option maxRecDepth 100000 in
/-- GlacierMail$Rows.copyFrom -/
noncomputable def p2_s1704 : ck_Sum := ((1, 0, 0), 245, [.inr (.inr (.inl 12)), .inr (.inr (.inl 131))], ([], [], []), ([(12, 3, 3), (13, 0, 35)], []), [(.inr none, 245, ([], [], []))])
set_option maxRecDepth 100000 in
theorem p2_s1704_s {X : Int → Int} {LX : Nat} : ck_Ok p2_O X LX 58 p2_s1704 := ck_ok_s (O := p2_O) (X := X) (LX := LX) (E := []) (mi := 58) (cuts := []) (f := 114) (S := p2_s1704) (lx := none) (XF := []) ⟨p2_nmu, ck_E0⟩ ck_X0 ck_l0 (by decide +kernel)
set_option maxRecDepth 100000 in
/-- GlacierMail$Rows.copyFrom -/
noncomputable def p2_s1705 : ck_Sum := ((1, 0, 0), 245, [.inr (.inr (.inl 14)), .inr (.inr (.inl 133))], ([], [], []), ([(14, 3, 3), (15, 0, 71)], []), [(.inr none, 245, ([], [], []))])
set_option maxRecDepth 100000 in
theorem p2_s1705_s {X : Int → Int} {LX : Nat} : ck_Ok p2_O X LX 58 p2_s1705 := ck_ok_s (O := p2_O) (X := X) (LX := LX) (E := []) (mi := 58) (cuts := []) (f := 114) (S := p2_s1705) (lx := none) (XF := []) ⟨p2_nmu, ck_E0⟩ ck_X0 ck_l0 (by decide +kernel)
set_option maxRecDepth 100000 in
/-- GlacierMail$State.copyFrom -/
noncomputable def p2_s1706 : ck_Sum := ((2, 0, 0), 245, [.inr (.inr (.inl 3)), .inr (.inr (.inl 122))], ([], [(3, 8, 0), (122, 8, 100122)], []), (zl1, [(3, 8)]), [(.inr none, 245, ([], [(3, 8, 100122)], []))])
set_option maxRecDepth 100000 in
theorem p2_s1706_s {X : Int → Int} {LX : Nat} : ck_Ok p2_O X LX 57 p2_s1706 := ck_ok_s (O := p2_O) (X := X) (LX := LX) (E := [(58, [p2_s1700, p2_s1701, p2_s1702, p2_s1703, p2_s1704, p2_s1705])]) (mi := 57) (cuts := []) (f := 204) (S := p2_s1706) (lx := none) (XF := []) ⟨p2_nmu, ck_E1 (ck_S1 p2_s1700_s (ck_S1 p2_s1701_s (ck_S1 p2_s1702_s (ck_S1 p2_s1703_s (ck_S1 p2_s1704_s (ck_S1 p2_s1705_s ck_S0)))))) ck_E0⟩ ck_X0 ck_l0 (by decide +kernel)
set_option maxRecDepth 100000 in
/-- GlacierMail$Rows.copyFrom -/
noncomputable def p2_s1707 : ck_Sum := ((1, 0, 0), 245, [.inr (.inr (.inl 4)), .inr (.inr (.inl 136))], ([], [], []), ([(4, 3, 3), (5, 0, 55)], []), [(.inr none, 245, ([], [], []))])
set_option maxRecDepth 100000 in
theorem p2_s1707_s {X : Int → Int} {LX : Nat} : ck_Ok p2_O X LX 58 p2_s1707 := ck_ok_s (O := p2_O) (X := X) (LX := LX) (E := []) (mi := 58) (cuts := []) (f := 114) (S := p2_s1707) (lx := none) (XF := []) ⟨p2_nmu, ck_E0⟩ ck_X0 ck_l0 (by decide +kernel)
set_option maxRecDepth 100000 in
/-- GlacierMail$Rows.copyFrom -/
noncomputable def p2_s1708 : ck_Sum := ((1, 0, 0), 245, [.inr (.inr (.inl 6)), .inr (.inr (.inl 138))], ([], [], []), ([(6, 3, 3), (7, 0, 23)], []), [(.inr none, 245, ([], [], []))])
set_option maxRecDepth 100000 in
theorem p2_s1708_s {X : Int → Int} {LX : Nat} : ck_Ok p2_O X LX 58 p2_s1708 := ck_ok_s (O := p2_O) (X := X) (LX := LX) (E := []) (mi := 58) (cuts := []) (f := 114) (S := p2_s1708) (lx := none) (XF := []) ⟨p2_nmu, ck_E0⟩ ck_X0 ck_l0 (by decide +kernel)
set_option maxRecDepth 100000 in
/-- GlacierMail$Rows.copyFrom -/
noncomputable def p2_s1709 : ck_Sum := ((1, 0, 0), 245, [.inr (.inr (.inl 8)), .inr (.inr (.inl 140))], ([], [], []), ([(8, 3, 3), (9, 0, 23)], []), [(.inr none, 245, ([], [], []))])
set_option maxRecDepth 100000 in
theorem p2_s1709_s {X : Int → Int} {LX : Nat} : ck_Ok p2_O X LX 58 p2_s1709 := ck_ok_s (O := p2_O) (X := X) (LX := LX) (E := []) (mi := 58) (cuts := []) (f := 114) (S := p2_s1709) (lx := none) (XF := []) ⟨p2_nmu, ck_E0⟩ ck_X0 ck_l0 (by decide +kernel)
set_option maxRecDepth 100000 in
/-- GlacierMail$Rows.copyFrom -/
noncomputable def p2_s1710 : ck_Sum := ((1, 0, 0), 245, [.inr (.inr (.inl 10)), .inr (.inr (.inl 142))], ([], [], []), ([(10, 3, 3), (11, 0, 167)], []), [(.inr none, 245, ([], [], []))])
set_option maxRecDepth 100000 in
theorem p2_s1710_s {X : Int → Int} {LX : Nat} : ck_Ok p2_O X LX 58 p2_s1710 := ck_ok_s (O := p2_O) (X := X) (LX := LX) (E := []) (mi := 58) (cuts := []) (f := 114) (S := p2_s1710) (lx := none) (XF := []) ⟨p2_nmu, ck_E0⟩ ck_X0 ck_l0 (by decide +kernel)
set_option maxRecDepth 100000 in
/-- GlacierMail$Rows.copyFrom -/
noncomputable def p2_s1711 : ck_Sum := ((1, 0, 0), 245, [.inr (.inr (.inl 12)), .inr (.inr (.inl 144))], ([], [], []), ([(12, 3, 3), (13, 0, 35)], []), [(.inr none, 245, ([], [], []))])
set_option maxRecDepth 100000 in
theorem p2_s1711_s {X : Int → Int} {LX : Nat} : ck_Ok p2_O X LX 58 p2_s1711 := ck_ok_s (O := p2_O) (X := X) (LX := LX) (E := []) (mi := 58) (cuts := []) (f := 114) (S := p2_s1711) (lx := none) (XF := []) ⟨p2_nmu, ck_E0⟩ ck_X0 ck_l0 (by decide +kernel)
set_option maxRecDepth 100000 in
/-- GlacierMail$Rows.copyFrom -/
noncomputable def p2_s1712 : ck_Sum := ((1, 0, 0), 245, [.inr (.inr (.inl 14)), .inr (.inr (.inl 146))], ([], [], []), ([(14, 3, 3), (15, 0, 71)], []), [(.inr none, 245, ([], [], []))])
set_option maxRecDepth 100000 in
theorem p2_s1712_s {X : Int → Int} {LX : Nat} : ck_Ok p2_O X LX 58 p2_s1712 := ck_ok_s (O := p2_O) (X := X) (LX := LX) (E := []) (mi := 58) (cuts := []) (f := 114) (S := p2_s1712) (lx := none) (XF := []) ⟨p2_nmu, ck_E0⟩ ck_X0 ck_l0 (by decide +kernel)
set_option maxRecDepth 100000 in
/-- GlacierMail$State.copyFrom -/
noncomputable def p2_s1713 : ck_Sum := ((2, 0, 0), 245, [.inr (.inr (.inl 3)), .inr (.inr (.inl 135))], ([], [(3, 8, 0), (135, 8, 100135)], []), (zl1, [(3, 8)]), [(.inr none, 245, ([], [(3, 8, 100135)], []))])
set_option maxRecDepth 100000 in
theorem p2_s1713_s {X : Int → Int} {LX : Nat} : ck_Ok p2_O X LX 57 p2_s1713 := ck_ok_s (O := p2_O) (X := X) (LX := LX) (E := [(58, [p2_s1707, p2_s1708, p2_s1709, p2_s1710, p2_s1711, p2_s1712])]) (mi := 57) (cuts := []) (f := 204) (S := p2_s1713) (lx := none) (XF := []) ⟨p2_nmu, ck_E1 (ck_S1 p2_s1707_s (ck_S1 p2_s1708_s (ck_S1 p2_s1709_s (ck_S1 p2_s1710_s (ck_S1 p2_s1711_s (ck_S1 p2_s1712_s ck_S0)))))) ck_E0⟩ ck_X0 ck_l0 (by decide +kernel)
set_option maxRecDepth 100000 in
/-- GlacierMail$Rows.copyFrom -/
noncomputable def p2_s1714 : ck_Sum := ((1, 0, 0), 245, [.inr (.inr (.inl 4)), .inr (.inr (.inl 149))], ([], [], []), ([(4, 3, 3), (5, 0, 55)], []), [(.inr none, 245, ([], [], []))])
set_option maxRecDepth 100000 in
theorem p2_s1714_s {X : Int → Int} {LX : Nat} : ck_Ok p2_O X LX 58 p2_s1714 := ck_ok_s (O := p2_O) (X := X) (LX := LX) (E := []) (mi := 58) (cuts := []) (f := 114) (S := p2_s1714) (lx := none) (XF := []) ⟨p2_nmu, ck_E0⟩ ck_X0 ck_l0 (by decide +kernel)
set_option maxRecDepth 100000 in
/-- GlacierMail$Rows.copyFrom -/
noncomputable def p2_s1715 : ck_Sum := ((1, 0, 0), 245, [.inr (.inr (.inl 6)), .inr (.inr (.inl 151))], ([], [], []), ([(6, 3, 3), (7, 0, 23)], []), [(.inr none, 245, ([], [], []))])
set_option maxRecDepth 100000 in
theorem p2_s1715_s {X : Int → Int} {LX : Nat} : ck_Ok p2_O X LX 58 p2_s1715 := ck_ok_s (O := p2_O) (X := X) (LX := LX) (E := []) (mi := 58) (cuts := []) (f := 114) (S := p2_s1715) (lx := none) (XF := []) ⟨p2_nmu, ck_E0⟩ ck_X0 ck_l0 (by decide +kernel)
set_option maxRecDepth 100000 in
/-- GlacierMail$Rows.copyFrom -/
noncomputable def p2_s1716 : ck_Sum := ((1, 0, 0), 245, [.inr (.inr (.inl 8)), .inr (.inr (.inl 153))], ([], [], []), ([(8, 3, 3), (9, 0, 23)], []), [(.inr none, 245, ([], [], []))])
set_option maxRecDepth 100000 in
theorem p2_s1716_s {X : Int → Int} {LX : Nat} : ck_Ok p2_O X LX 58 p2_s1716 := ck_ok_s (O := p2_O) (X := X) (LX := LX) (E := []) (mi := 58) (cuts := []) (f := 114) (S := p2_s1716) (lx := none) (XF := []) ⟨p2_nmu, ck_E0⟩ ck_X0 ck_l0 (by decide +kernel)
set_option maxRecDepth 100000 in
/-- GlacierMail$Rows.copyFrom -/
noncomputable def p2_s1717 : ck_Sum := ((1, 0, 0), 245, [.inr (.inr (.inl 10)), .inr (.inr (.inl 155))], ([], [], []), ([(10, 3, 3), (11, 0, 167)], []), [(.inr none, 245, ([], [], []))])
set_option maxRecDepth 100000 in
theorem p2_s1717_s {X : Int → Int} {LX : Nat} : ck_Ok p2_O X LX 58 p2_s1717 := ck_ok_s (O := p2_O) (X := X) (LX := LX) (E := []) (mi := 58) (cuts := []) (f := 114) (S := p2_s1717) (lx := none) (XF := []) ⟨p2_nmu, ck_E0⟩ ck_X0 ck_l0 (by decide +kernel)
set_option maxRecDepth 100000 in
/-- GlacierMail$Rows.copyFrom -/
noncomputable def p2_s1718 : ck_Sum := ((1, 0, 0), 245, [.inr (.inr (.inl 12)), .inr (.inr (.inl 157))], ([], [], []), ([(12, 3, 3), (13, 0, 35)], []), [(.inr none, 245, ([], [], []))])
set_option maxRecDepth 100000 in
theorem p2_s1718_s {X : Int → Int} {LX : Nat} : ck_Ok p2_O X LX 58 p2_s1718 := ck_ok_s (O := p2_O) (X := X) (LX := LX) (E := []) (mi := 58) (cuts := []) (f := 114) (S := p2_s1718) (lx := none) (XF := []) ⟨p2_nmu, ck_E0⟩ ck_X0 ck_l0 (by decide +kernel)
set_option maxRecDepth 100000 in
/-- GlacierMail$Rows.copyFrom -/
noncomputable def p2_s1719 : ck_Sum := ((1, 0, 0), 245, [.inr (.inr (.inl 14)), .inr (.inr (.inl 159))], ([], [], []), ([(14, 3, 3), (15, 0, 71)], []), [(.inr none, 245, ([], [], []))])
set_option maxRecDepth 100000 in
theorem p2_s1719_s {X : Int → Int} {LX : Nat} : ck_Ok p2_O X LX 58 p2_s1719 := ck_ok_s (O := p2_O) (X := X) (LX := LX) (E := []) (mi := 58) (cuts := []) (f := 114) (S := p2_s1719) (lx := none) (XF := []) ⟨p2_nmu, ck_E0⟩ ck_X0 ck_l0 (by decide +kernel)
set_option maxRecDepth 100000 in
/-- GlacierMail$State.copyFrom -/
noncomputable def p2_s1720 : ck_Sum := ((2, 0, 0), 245, [.inr (.inr (.inl 3)), .inr (.inr (.inl 148))], ([], [(3, 8, 0), (148, 8, 100148)], []), (zl1, [(3, 8)]), [(.inr none, 245, ([], [(3, 8, 100148)], []))])
set_option maxRecDepth 100000 in
theorem p2_s1720_s {X : Int → Int} {LX : Nat} : ck_Ok p2_O X LX 57 p2_s1720 := ck_ok_s (O := p2_O) (X := X) (LX := LX) (E := [(58, [p2_s1714, p2_s1715, p2_s1716, p2_s1717, p2_s1718, p2_s1719])]) (mi := 57) (cuts := []) (f := 204) (S := p2_s1720) (lx := none) (XF := []) ⟨p2_nmu, ck_E1 (ck_S1 p2_s1714_s (ck_S1 p2_s1715_s (ck_S1 p2_s1716_s (ck_S1 p2_s1717_s (ck_S1 p2_s1718_s (ck_S1 p2_s1719_s ck_S0)))))) ck_E0⟩ ck_X0 ck_l0 (by decide +kernel)
set_option maxRecDepth 100000 in
/-- GlacierMail$Rows.copyFrom -/
noncomputable def p2_s1721 : ck_Sum := ((1, 0, 0), 245, [.inr (.inr (.inl 4)), .inr (.inr (.inl 162))], ([], [], []), ([(4, 3, 3), (5, 0, 55)], []), [(.inr none, 245, ([], [], []))])
set_option maxRecDepth 100000 in
theorem p2_s1721_s {X : Int → Int} {LX : Nat} : ck_Ok p2_O X LX 58 p2_s1721 := ck_ok_s (O := p2_O) (X := X) (LX := LX) (E := []) (mi := 58) (cuts := []) (f := 114) (S := p2_s1721) (lx := none) (XF := []) ⟨p2_nmu, ck_E0⟩ ck_X0 ck_l0 (by decide +kernel)
set_option maxRecDepth 100000 in
/-- GlacierMail$Rows.copyFrom -/
noncomputable def p2_s1722 : ck_Sum := ((1, 0, 0), 245, [.inr (.inr (.inl 6)), .inr (.inr (.inl 164))], ([], [], []), ([(6, 3, 3), (7, 0, 23)], []), [(.inr none, 245, ([], [], []))])
set_option maxRecDepth 100000 in
theorem p2_s1722_s {X : Int → Int} {LX : Nat} : ck_Ok p2_O X LX 58 p2_s1722 := ck_ok_s (O := p2_O) (X := X) (LX := LX) (E := []) (mi := 58) (cuts := []) (f := 114) (S := p2_s1722) (lx := none) (XF := []) ⟨p2_nmu, ck_E0⟩ ck_X0 ck_l0 (by decide +kernel)
set_option maxRecDepth 100000 in
/-- GlacierMail$Rows.copyFrom -/
noncomputable def p2_s1723 : ck_Sum := ((1, 0, 0), 245, [.inr (.inr (.inl 8)), .inr (.inr (.inl 166))], ([], [], []), ([(8, 3, 3), (9, 0, 23)], []), [(.inr none, 245, ([], [], []))])
set_option maxRecDepth 100000 in
theorem p2_s1723_s {X : Int → Int} {LX : Nat} : ck_Ok p2_O X LX 58 p2_s1723 := ck_ok_s (O := p2_O) (X := X) (LX := LX) (E := []) (mi := 58) (cuts := []) (f := 114) (S := p2_s1723) (lx := none) (XF := []) ⟨p2_nmu, ck_E0⟩ ck_X0 ck_l0 (by decide +kernel)
set_option maxRecDepth 100000 in
/-- GlacierMail$Rows.copyFrom -/
noncomputable def p2_s1724 : ck_Sum := ((1, 0, 0), 245, [.inr (.inr (.inl 10)), .inr (.inr (.inl 168))], ([], [], []), ([(10, 3, 3), (11, 0, 167)], []), [(.inr none, 245, ([], [], []))])
set_option maxRecDepth 100000 in
theorem p2_s1724_s {X : Int → Int} {LX : Nat} : ck_Ok p2_O X LX 58 p2_s1724 := ck_ok_s (O := p2_O) (X := X) (LX := LX) (E := []) (mi := 58) (cuts := []) (f := 114) (S := p2_s1724) (lx := none) (XF := []) ⟨p2_nmu, ck_E0⟩ ck_X0 ck_l0 (by decide +kernel)
set_option maxRecDepth 100000 in
/-- GlacierMail$Rows.copyFrom -/
noncomputable def p2_s1725 : ck_Sum := ((1, 0, 0), 245, [.inr (.inr (.inl 12)), .inr (.inr (.inl 170))], ([], [], []), ([(12, 3, 3), (13, 0, 35)], []), [(.inr none, 245, ([], [], []))])
set_option maxRecDepth 100000 in
theorem p2_s1725_s {X : Int → Int} {LX : Nat} : ck_Ok p2_O X LX 58 p2_s1725 := ck_ok_s (O := p2_O) (X := X) (LX := LX) (E := []) (mi := 58) (cuts := []) (f := 114) (S := p2_s1725) (lx := none) (XF := []) ⟨p2_nmu, ck_E0⟩ ck_X0 ck_l0 (by decide +kernel)
set_option maxRecDepth 100000 in
/-- GlacierMail$Rows.copyFrom -/
noncomputable def p2_s1726 : ck_Sum := ((1, 0, 0), 245, [.inr (.inr (.inl 14)), .inr (.inr (.inl 172))], ([], [], []), ([(14, 3, 3), (15, 0, 71)], []), [(.inr none, 245, ([], [], []))])
set_option maxRecDepth 100000 in
theorem p2_s1726_s {X : Int → Int} {LX : Nat} : ck_Ok p2_O X LX 58 p2_s1726 := ck_ok_s (O := p2_O) (X := X) (LX := LX) (E := []) (mi := 58) (cuts := []) (f := 114) (S := p2_s1726) (lx := none) (XF := []) ⟨p2_nmu, ck_E0⟩ ck_X0 ck_l0 (by decide +kernel)
set_option maxRecDepth 100000 in
/-- GlacierMail$State.copyFrom -/
noncomputable def p2_s1727 : ck_Sum := ((2, 0, 0), 245, [.inr (.inr (.inl 3)), .inr (.inr (.inl 161))], ([], [(3, 8, 0), (161, 8, 100161)], []), (zl1, [(3, 8)]), [(.inr none, 245, ([], [(3, 8, 100161)], []))])
set_option maxRecDepth 100000 in
theorem p2_s1727_s {X : Int → Int} {LX : Nat} : ck_Ok p2_O X LX 57 p2_s1727 := ck_ok_s (O := p2_O) (X := X) (LX := LX) (E := [(58, [p2_s1721, p2_s1722, p2_s1723, p2_s1724, p2_s1725, p2_s1726])]) (mi := 57) (cuts := []) (f := 204) (S := p2_s1727) (lx := none) (XF := []) ⟨p2_nmu, ck_E1 (ck_S1 p2_s1721_s (ck_S1 p2_s1722_s (ck_S1 p2_s1723_s (ck_S1 p2_s1724_s (ck_S1 p2_s1725_s (ck_S1 p2_s1726_s ck_S0)))))) ck_E0⟩ ck_X0 ck_l0 (by decide +kernel)
set_option maxRecDepth 100000 in
/-- GlacierMail$Rows.copyFrom -/
noncomputable def p2_s1728 : ck_Sum := ((1, 0, 0), 245, [.inr (.inr (.inl 4)), .inr (.inr (.inl 175))], ([], [], []), ([(4, 3, 3), (5, 0, 55)], []), [(.inr none, 245, ([], [], []))])
set_option maxRecDepth 100000 in
theorem p2_s1728_s {X : Int → Int} {LX : Nat} : ck_Ok p2_O X LX 58 p2_s1728 := ck_ok_s (O := p2_O) (X := X) (LX := LX) (E := []) (mi := 58) (cuts := []) (f := 114) (S := p2_s1728) (lx := none) (XF := []) ⟨p2_nmu, ck_E0⟩ ck_X0 ck_l0 (by decide +kernel)
set_option maxRecDepth 100000 in
/-- GlacierMail$Rows.copyFrom -/
noncomputable def p2_s1729 : ck_Sum := ((1, 0, 0), 245, [.inr (.inr (.inl 6)), .inr (.inr (.inl 177))], ([], [], []), ([(6, 3, 3), (7, 0, 23)], []), [(.inr none, 245, ([], [], []))])
set_option maxRecDepth 100000 in
theorem p2_s1729_s {X : Int → Int} {LX : Nat} : ck_Ok p2_O X LX 58 p2_s1729 := ck_ok_s (O := p2_O) (X := X) (LX := LX) (E := []) (mi := 58) (cuts := []) (f := 114) (S := p2_s1729) (lx := none) (XF := []) ⟨p2_nmu, ck_E0⟩ ck_X0 ck_l0 (by decide +kernel)
set_option maxRecDepth 100000 in
/-- GlacierMail$Rows.copyFrom -/
noncomputable def p2_s1730 : ck_Sum := ((1, 0, 0), 245, [.inr (.inr (.inl 8)), .inr (.inr (.inl 179))], ([], [], []), ([(8, 3, 3), (9, 0, 23)], []), [(.inr none, 245, ([], [], []))])
set_option maxRecDepth 100000 in
theorem p2_s1730_s {X : Int → Int} {LX : Nat} : ck_Ok p2_O X LX 58 p2_s1730 := ck_ok_s (O := p2_O) (X := X) (LX := LX) (E := []) (mi := 58) (cuts := []) (f := 114) (S := p2_s1730) (lx := none) (XF := []) ⟨p2_nmu, ck_E0⟩ ck_X0 ck_l0 (by decide +kernel)
set_option maxRecDepth 100000 in
/-- GlacierMail$Rows.copyFrom -/
noncomputable def p2_s1731 : ck_Sum := ((1, 0, 0), 245, [.inr (.inr (.inl 10)), .inr (.inr (.inl 181))], ([], [], []), ([(10, 3, 3), (11, 0, 167)], []), [(.inr none, 245, ([], [], []))])
set_option maxRecDepth 100000 in
theorem p2_s1731_s {X : Int → Int} {LX : Nat} : ck_Ok p2_O X LX 58 p2_s1731 := ck_ok_s (O := p2_O) (X := X) (LX := LX) (E := []) (mi := 58) (cuts := []) (f := 114) (S := p2_s1731) (lx := none) (XF := []) ⟨p2_nmu, ck_E0⟩ ck_X0 ck_l0 (by decide +kernel)
set_option maxRecDepth 100000 in
/-- GlacierMail$Rows.copyFrom -/
noncomputable def p2_s1732 : ck_Sum := ((1, 0, 0), 245, [.inr (.inr (.inl 12)), .inr (.inr (.inl 183))], ([], [], []), ([(12, 3, 3), (13, 0, 35)], []), [(.inr none, 245, ([], [], []))])
set_option maxRecDepth 100000 in
theorem p2_s1732_s {X : Int → Int} {LX : Nat} : ck_Ok p2_O X LX 58 p2_s1732 := ck_ok_s (O := p2_O) (X := X) (LX := LX) (E := []) (mi := 58) (cuts := []) (f := 114) (S := p2_s1732) (lx := none) (XF := []) ⟨p2_nmu, ck_E0⟩ ck_X0 ck_l0 (by decide +kernel)
set_option maxRecDepth 100000 in
/-- GlacierMail$Rows.copyFrom -/
noncomputable def p2_s1733 : ck_Sum := ((1, 0, 0), 245, [.inr (.inr (.inl 14)), .inr (.inr (.inl 185))], ([], [], []), ([(14, 3, 3), (15, 0, 71)], []), [(.inr none, 245, ([], [], []))])
set_option maxRecDepth 100000 in
theorem p2_s1733_s {X : Int → Int} {LX : Nat} : ck_Ok p2_O X LX 58 p2_s1733 := ck_ok_s (O := p2_O) (X := X) (LX := LX) (E := []) (mi := 58) (cuts := []) (f := 114) (S := p2_s1733) (lx := none) (XF := []) ⟨p2_nmu, ck_E0⟩ ck_X0 ck_l0 (by decide +kernel)
set_option maxRecDepth 100000 in
/-- GlacierMail$State.copyFrom -/
noncomputable def p2_s1734 : ck_Sum := ((2, 0, 0), 245, [.inr (.inr (.inl 3)), .inr (.inr (.inl 174))], ([], [(3, 8, 0), (174, 8, 100174)], []), (zl1, [(3, 8)]), [(.inr none, 245, ([], [(3, 8, 100174)], []))])
set_option maxRecDepth 100000 in
theorem p2_s1734_s {X : Int → Int} {LX : Nat} : ck_Ok p2_O X LX 57 p2_s1734 := ck_ok_s (O := p2_O) (X := X) (LX := LX) (E := [(58, [p2_s1728, p2_s1729, p2_s1730, p2_s1731, p2_s1732, p2_s1733])]) (mi := 57) (cuts := []) (f := 204) (S := p2_s1734) (lx := none) (XF := []) ⟨p2_nmu, ck_E1 (ck_S1 p2_s1728_s (ck_S1 p2_s1729_s (ck_S1 p2_s1730_s (ck_S1 p2_s1731_s (ck_S1 p2_s1732_s (ck_S1 p2_s1733_s ck_S0)))))) ck_E0⟩ ck_X0 ck_l0 (by decide +kernel)
set_option maxRecDepth 100000 in
/-- GlacierMail$Rows.copyFrom -/
noncomputable def p2_s1735 : ck_Sum := ((1, 0, 0), 245, [.inr (.inr (.inl 4)), .inr (.inr (.inl 188))], ([], [], []), ([(4, 3, 3), (5, 0, 55)], []), [(.inr none, 245, ([], [], []))])
set_option maxRecDepth 100000 in
theorem p2_s1735_s {X : Int → Int} {LX : Nat} : ck_Ok p2_O X LX 58 p2_s1735 := ck_ok_s (O := p2_O) (X := X) (LX := LX) (E := []) (mi := 58) (cuts := []) (f := 114) (S := p2_s1735) (lx := none) (XF := []) ⟨p2_nmu, ck_E0⟩ ck_X0 ck_l0 (by decide +kernel)
set_option maxRecDepth 100000 in
/-- GlacierMail$Rows.copyFrom -/
noncomputable def p2_s1736 : ck_Sum := ((1, 0, 0), 245, [.inr (.inr (.inl 6)), .inr (.inr (.inl 190))], ([], [], []), ([(6, 3, 3), (7, 0, 23)], []), [(.inr none, 245, ([], [], []))])
set_option maxRecDepth 100000 in
theorem p2_s1736_s {X : Int → Int} {LX : Nat} : ck_Ok p2_O X LX 58 p2_s1736 := ck_ok_s (O := p2_O) (X := X) (LX := LX) (E := []) (mi := 58) (cuts := []) (f := 114) (S := p2_s1736) (lx := none) (XF := []) ⟨p2_nmu, ck_E0⟩ ck_X0 ck_l0 (by decide +kernel)
set_option maxRecDepth 100000 in
/-- GlacierMail$Rows.copyFrom -/
noncomputable def p2_s1737 : ck_Sum := ((1, 0, 0), 245, [.inr (.inr (.inl 8)), .inr (.inr (.inl 192))], ([], [], []), ([(8, 3, 3), (9, 0, 23)], []), [(.inr none, 245, ([], [], []))])
set_option maxRecDepth 100000 in
theorem p2_s1737_s {X : Int → Int} {LX : Nat} : ck_Ok p2_O X LX 58 p2_s1737 := ck_ok_s (O := p2_O) (X := X) (LX := LX) (E := []) (mi := 58) (cuts := []) (f := 114) (S := p2_s1737) (lx := none) (XF := []) ⟨p2_nmu, ck_E0⟩ ck_X0 ck_l0 (by decide +kernel)
set_option maxRecDepth 100000 in
/-- GlacierMail$Rows.copyFrom -/
noncomputable def p2_s1738 : ck_Sum := ((1, 0, 0), 245, [.inr (.inr (.inl 10)), .inr (.inr (.inl 194))], ([], [], []), ([(10, 3, 3), (11, 0, 167)], []), [(.inr none, 245, ([], [], []))])
set_option maxRecDepth 100000 in
theorem p2_s1738_s {X : Int → Int} {LX : Nat} : ck_Ok p2_O X LX 58 p2_s1738 := ck_ok_s (O := p2_O) (X := X) (LX := LX) (E := []) (mi := 58) (cuts := []) (f := 114) (S := p2_s1738) (lx := none) (XF := []) ⟨p2_nmu, ck_E0⟩ ck_X0 ck_l0 (by decide +kernel)
set_option maxRecDepth 100000 in
/-- GlacierMail$Rows.copyFrom -/
noncomputable def p2_s1739 : ck_Sum := ((1, 0, 0), 245, [.inr (.inr (.inl 12)), .inr (.inr (.inl 196))], ([], [], []), ([(12, 3, 3), (13, 0, 35)], []), [(.inr none, 245, ([], [], []))])
set_option maxRecDepth 100000 in
theorem p2_s1739_s {X : Int → Int} {LX : Nat} : ck_Ok p2_O X LX 58 p2_s1739 := ck_ok_s (O := p2_O) (X := X) (LX := LX) (E := []) (mi := 58) (cuts := []) (f := 114) (S := p2_s1739) (lx := none) (XF := []) ⟨p2_nmu, ck_E0⟩ ck_X0 ck_l0 (by decide +kernel)
set_option maxRecDepth 100000 in
/-- GlacierMail$Rows.copyFrom -/
noncomputable def p2_s1740 : ck_Sum := ((1, 0, 0), 245, [.inr (.inr (.inl 14)), .inr (.inr (.inl 198))], ([], [], []), ([(14, 3, 3), (15, 0, 71)], []), [(.inr none, 245, ([], [], []))])
set_option maxRecDepth 100000 in
theorem p2_s1740_s {X : Int → Int} {LX : Nat} : ck_Ok p2_O X LX 58 p2_s1740 := ck_ok_s (O := p2_O) (X := X) (LX := LX) (E := []) (mi := 58) (cuts := []) (f := 114) (S := p2_s1740) (lx := none) (XF := []) ⟨p2_nmu, ck_E0⟩ ck_X0 ck_l0 (by decide +kernel)
set_option maxRecDepth 100000 in
/-- GlacierMail$State.copyFrom -/
noncomputable def p2_s1741 : ck_Sum := ((2, 0, 0), 245, [.inr (.inr (.inl 3)), .inr (.inr (.inl 187))], ([], [(3, 8, 0), (187, 8, 100187)], []), (zl1, [(3, 8)]), [(.inr none, 245, ([], [(3, 8, 100187)], []))])
set_option maxRecDepth 100000 in
theorem p2_s1741_s {X : Int → Int} {LX : Nat} : ck_Ok p2_O X LX 57 p2_s1741 := ck_ok_s (O := p2_O) (X := X) (LX := LX) (E := [(58, [p2_s1735, p2_s1736, p2_s1737, p2_s1738, p2_s1739, p2_s1740])]) (mi := 57) (cuts := []) (f := 204) (S := p2_s1741) (lx := none) (XF := []) ⟨p2_nmu, ck_E1 (ck_S1 p2_s1735_s (ck_S1 p2_s1736_s (ck_S1 p2_s1737_s (ck_S1 p2_s1738_s (ck_S1 p2_s1739_s (ck_S1 p2_s1740_s ck_S0)))))) ck_E0⟩ ck_X0 ck_l0 (by decide +kernel)
set_option maxRecDepth 100000 in
/-- GlacierMail$History.takeBack -/
noncomputable def p2_s1742 : ck_Sum := ((3, 0, 0), 245, [.inr (.inr (.inl 42)), .inr (.inr (.inl 3))], ([], zl102, []), (zl208, [(3, 8)]), [(.inr (some (.inl (ck_one 1))), 245, ([], [(3, 8, 100044)], zl209)), (.inr (some (.inl (ck_one 1))), 245, ([], [(3, 8, 100057)], zl209)), (.inr (some (.inl (ck_one 1))), 245, ([], [(3, 8, 100070)], zl209)), (.inr (some (.inl (ck_one 1))), 245, ([], [(3, 8, 100083)], zl209)), (.inr (some (.inl (ck_one 1))), 245, ([], [(3, 8, 100096)], zl209)), (.inr (some (.inl (ck_one 1))), 245, ([], [(3, 8, 100109)], zl209)), (.inr (some (.inl (ck_one 1))), 245, ([], [(3, 8, 100122)], zl209)), (.inr (some (.inl (ck_one 1))), 245, ([], [(3, 8, 100135)], zl209)), (.inr (some (.inl (ck_one 1))), 245, ([], [(3, 8, 100148)], zl209)), (.inr (some (.inl (ck_one 1))), 245, ([], [(3, 8, 100161)], zl209)), (.inr (some (.inl (ck_one 1))), 245, ([], [(3, 8, 100174)], zl209)), (.inr (some (.inl (ck_one 1))), 245, ([], [(3, 8, 100187)], zl209)), (.inr (some (.inl (ck_one 0))), 245, ([], [(3, 8, 0)], [(42, 2, 2, ck_one 0)]))])
set_option maxRecDepth 100000 in
theorem p2_s1742_s {X : Int → Int} {LX : Nat} : ck_Ok p2_O X LX 55 p2_s1742 := ck_ok_s (O := p2_O) (X := X) (LX := LX) (E := [(56, [p2_s1657]), (57, [p2_s1664, p2_s1671, p2_s1678, p2_s1685, p2_s1692, p2_s1699, p2_s1706, p2_s1713, p2_s1720, p2_s1727, p2_s1734, p2_s1741])]) (mi := 55) (cuts := []) (f := 132) (S := p2_s1742) (lx := none) (XF := []) ⟨p2_nmu, ck_E1 (ck_S1 p2_s1657_s ck_S0) (ck_E1 (ck_S1 p2_s1664_s (ck_S1 p2_s1671_s (ck_S1 p2_s1678_s (ck_S1 p2_s1685_s (ck_S1 p2_s1692_s (ck_S1 p2_s1699_s (ck_S1 p2_s1706_s (ck_S1 p2_s1713_s (ck_S1 p2_s1720_s (ck_S1 p2_s1727_s (ck_S1 p2_s1734_s (ck_S1 p2_s1741_s ck_S0)))))))))))) ck_E0)⟩ ck_X0 ck_l0 (by decide +kernel)
set_option maxRecDepth 100000 in
/-- GlacierMail.undo -/
noncomputable def p2_s1743 : ck_Sum := ((4, 0, 0), 245, [.inr (.inr (.inl 1))], ([], zl102, []), (zl210, [(3, 8)]), [(.inr (some (.inl (ck_one 1))), 245, ([], [(3, 8, 100044)], zl211)), (.inr (some (.inl (ck_one 0))), 245, ([], [(3, 8, 0)], [(42, 2, 2, ck_one 0), (1, 15, 15, ck_one 0)])), (.inr (some (.inl (ck_one 1))), 245, ([], [(3, 8, 100187)], zl211)), (.inr (some (.inl (ck_one 1))), 245, ([], [(3, 8, 100174)], zl211)), (.inr (some (.inl (ck_one 1))), 245, ([], [(3, 8, 100161)], zl211)), (.inr (some (.inl (ck_one 1))), 245, ([], [(3, 8, 100148)], zl211)), (.inr (some (.inl (ck_one 1))), 245, ([], [(3, 8, 100135)], zl211)), (.inr (some (.inl (ck_one 1))), 245, ([], [(3, 8, 100122)], zl211)), (.inr (some (.inl (ck_one 1))), 245, ([], [(3, 8, 100109)], zl211)), (.inr (some (.inl (ck_one 1))), 245, ([], [(3, 8, 100096)], zl211)), (.inr (some (.inl (ck_one 1))), 245, ([], [(3, 8, 100083)], zl211)), (.inr (some (.inl (ck_one 1))), 245, ([], [(3, 8, 100070)], zl211)), (.inr (some (.inl (ck_one 1))), 245, ([], [(3, 8, 100057)], zl211))])
set_option maxRecDepth 100000 in
theorem p2_s1743_s {X : Int → Int} {LX : Nat} : ck_Ok p2_O X LX 54 p2_s1743 := ck_ok_s (O := p2_O) (X := X) (LX := LX) (E := [(55, [p2_s1742])]) (mi := 54) (cuts := []) (f := 88) (S := p2_s1743) (lx := none) (XF := []) ⟨p2_nmu, ck_E1 (ck_S1 p2_s1742_s ck_S0) ck_E0⟩ ck_X0 ck_l0 (by decide +kernel)
set_option maxRecDepth 100000 in
/-- GlacierMailModel.undo -/
noncomputable def p2_s1744 : ck_Sum := ((0, 0, 0), 245, [.inr (.inr (.inl 226))], ([], [], [(227, 2, 2, (0, 8, [(20, 0)])), (227, 3, 3, (0, 8, [(21, 0)])), (227, 4, 4, (0, 24, [(22, 0)])), (227, 5, 5, (0, 8, [(23, 0)])), (227, 6, 6, (0, 6, [(24, 0)])), (227, 7, 7, (0, 12, [(25, 0)])), (227, 14, 14, (0, 24, [(26, 0)])), (226, 6, 6, (0, 12, [(27, 0)])), (227, 9, 9, (0, 299, [(11, 0)]))]), ([(226, 0, 0), (226, 6, 6), (227, 0, 394)], []), [(.inr (some (.inl (ck_one 0))), 245, ([], [], [(226, 6, 6, (0, 0, [(27, 0)])), (226, 0, 0, ck_one 0), (227, 2, 2, (0, 8, [(20, 0)])), (227, 3, 3, (0, 8, [(21, 0)])), (227, 4, 4, (0, 24, [(22, 0)])), (227, 5, 5, (0, 8, [(23, 0)])), (227, 6, 6, (0, 6, [(24, 0)])), (227, 7, 7, (0, 12, [(25, 0)])), (227, 14, 14, (0, 24, [(26, 0)])), (227, 9, 9, (0, 299, [(11, 0)]))])), (.inr (some (.inl (ck_one 1))), 245, ([], [], [(226, 6, 6, (0, 11, [(27, (-1))])), (226, 0, 0, ck_one 0)]))])
noncomputable def p2_s1744_E : List (Nat × List ck_Sum) := []
set_option maxRecDepth 100000 in
noncomputable def p2_s1744_C26 : ck_C := ([some (.inr (.inr (.inl 226))), some (.inl (ck_one 0))], ([], [], [(226, 6, 6, (0, 11, [(27, (-1))])), (226, 0, 0, ck_one 0), (227, 2, 2, (0, 8, [(20, 0)])), (227, 3, 3, (0, 8, [(21, 0)])), (227, 4, 4, (0, 24, [(22, 0)])), (227, 5, 5, (0, 8, [(23, 0)])), (227, 6, 6, (0, 6, [(24, 0)])), (227, 7, 7, (0, 12, [(25, 0)])), (227, 14, 14, (0, 24, [(26, 0)])), (227, 9, 9, (0, 299, [(11, 0)]))]), 0, .inl 1, true)
set_option maxRecDepth 100000 in
noncomputable def p2_s1744_Z : List (Nat × ck_C) := [(26, p2_s1744_C26)]
set_option maxRecDepth 100000 in
theorem p2_s1744_a : (decide (p2_s1744.2.2.1.length ≤ gm_ml 238) && ck_go p2_O none [] p2_s1744_E 238 p2_s1744.1.1 p2_s1744.2.1 p2_s1744.2.2.2.2.1 p2_s1744.2.2.2.2.2 p2_s1744_Z 150 false [(26, p2_s1744_C26, 0, 0, 245)] p2_s1744.1.2.1 p2_s1744.1.2.2 0 (p2_s1744.2.2.1.map some ++ List.replicate (gm_ml 238 - p2_s1744.2.2.1.length) none) [] p2_s1744.2.1 p2_s1744.2.2.2.1) = true := by decide +kernel
theorem p2_s1744_u : ck_cu p2_s1744_Z = true := by decide +kernel
theorem p2_s1744_h {X : Int → Int} {LX : Nat} : ck_nmu p2_O ∧ ck_OkE p2_O X LX p2_s1744_E := ⟨p2_nmu, ck_E0⟩
set_option maxRecDepth 100000 in
theorem p2_s1744_g26 : ck_go p2_O none [] p2_s1744_E 238 p2_s1744.1.1 p2_s1744.2.1 p2_s1744.2.2.2.2.1 p2_s1744.2.2.2.2.2 p2_s1744_Z 150 false [] 0 0 60 (p2_s1744_C26.1.set 1 (some (.inl (ck_one 395)))) [] 245 (p2_s1744_C26.2.1.1, p2_s1744_C26.2.1.2.1, ck_cws [(227, 0, 394)] p2_s1744_C26.2.1.2.2) = true := by decide +kernel
theorem p2_s1744_y26 {X : Int → Int} {LX : Nat} {σ σ0 : Nat → Int} {K0 : gm_K} {R0 : gm_R} {M0 : gm_M} (hσ : ∀ s, s < 100 → σ s = σ0 s) : ck_Hy p2_O X LX 238 p2_s1744.1.1 p2_s1744.2.2.2.2.1 p2_s1744.2.1 K0 R0 M0 (ck_Q p2_O σ0 p2_s1744.2.2.2.2.1 p2_s1744.2.1 K0 R0 M0 p2_s1744.2.2.2.2.2) σ (26, p2_s1744_C26, 0, 0, 245) := by
  refine ck_cpH (v := 1) (A := 227) (B := 230) (N := 395) (wa := 0) (wb := 394) (pc' := 60) p2_s1744_u p2_s1744_h hσ ⟨by decide, by decide⟩ (by decide +kernel) (fun bc bs L K R M hS => ?_) p2_s1744_g26 (fun _ h => nomatch h)
  · obtain ⟨hF, hl, -, hf, -⟩ := hS
    obtain ⟨u0, l0, g0⟩ := hl.2 0 (.inr (.inr (.inl 226))) rfl
    cases g0
    obtain ⟨u1, lv, x1, rfl, -, e1, e2, -⟩ := hl.2 1 (.inl (ck_one 0)) rfl
    have e1 : (0 : Int) ≤ x1 := e1
    have e2 : x1 ≤ (0 : Int) := e2
    have e3 : x1 = 0 := by omega
    subst e3
    have h6 := (ck_fi_s hf (show ck_fi p2_s1744_C26.2.1 226 6 6 = some (0, 11, [(27, (-1))]) by decide +kernel)).2 6 (Int.le_refl _) (Int.le_refl _)
    have h61 : (0 : Int) ≤ M 226 6 := h6.2.1
    have h62 : M 226 6 ≤ (11 : Int) := h6.2.2.1
    have h63 : M 226 ((6 : Nat) : Int) = M 226 6 := rfl
    have kA : (K 227).2 = 2093 := (md_kd hF md_o.1.2).2
    have kB : (K 230).2 = 4740 := (md_kd hF md_o.2.2).2
    refine ⟨0, 395 * M 226 ((6 : Nat) : Int), ⟨by omega, by omega⟩, gm_Fx_cpy hF (md_un hF ⟨by omega, by omega⟩) (jj_undo (K := K) hF.2.2.2.2 ⟨by omega, by omega⟩), fun Q hx => ?_⟩
    exact cp_lp (iv := .iload_n 1) (v := 1) (ixA := 13) (ixB := 23) (jA := 1) (jB := 4) (A := 227) (B := 230) (mo := 226) (p := 26) (qA := 38) (qB := 52) (N := 395) (offe := 30) (offb := (-31)) (by decide) (md_mo hF) (md_kd hF md_o.1.2).1 (md_kd hF md_o.2.2).1 (md_rf hF md_r.1.1) (md_rf hF md_r.2.2) (by decide +kernel) (by decide +kernel) (by decide +kernel) (by decide +kernel) ⟨by omega, ⟨by omega, by omega⟩, ⟨by omega, by omega⟩, by omega, by omega⟩ (fun e => absurd e (by decide)) (by decide) (by decide +kernel) l0 lv ⟨rfl, rfl⟩ ⟨gm_vr 226, l0, by simp [gm_sort]⟩ (by decide +kernel) (by decide +kernel) (by decide +kernel) (by decide) (by decide +kernel) (by decide +kernel) (cp_sg_i (iv := .iload_n 1) lv ⟨rfl, rfl⟩ (by decide +kernel)) (by decide +kernel) (by decide +kernel) (cp_sg_cr (iv := .iload_n 1) (c := 395) (ix := 79) (j := 6) (by decide) l0 lv ⟨rfl, rfl⟩ (by decide +kernel) (md_mo hF) (by decide +kernel) (by decide +kernel) (by decide +kernel) (by decide +kernel) (by decide +kernel) (by decide +kernel) (by decide +kernel) (by decide +kernel)) (by decide +kernel) (by decide +kernel) (by decide +kernel) (by decide +kernel) (by decide) (by decide) hx
theorem p2_s1744_s {X : Int → Int} {LX : Nat} : ck_Ok p2_O X LX 238 p2_s1744 := by
  refine ck_ok_st (cuts := p2_s1744_Z) p2_s1744_u p2_s1744_h p2_s1744_a (fun h hm => ?_)
  rcases List.mem_cons.mp hm with rfl | hm
  · exact ⟨by unfold p2_s1744_Z; exact List.mem_cons_self, fun σ K0 R0 M0 => p2_s1744_y26 (fun _ _ => rfl)⟩
  cases hm
set_option maxRecDepth 100000 in
/-- GlacierMail$Rows.copyFrom -/
noncomputable def p2_s1745 : ck_Sum := ((1, 0, 0), 245, [.inr (.inr (.inl 30)), .inr (.inr (.inl 4))], ([], [], []), ([(30, 3, 3), (31, 0, 55)], []), [(.inr none, 245, ([], [], []))])
set_option maxRecDepth 100000 in
theorem p2_s1745_s {X : Int → Int} {LX : Nat} : ck_Ok p2_O X LX 58 p2_s1745 := ck_ok_s (O := p2_O) (X := X) (LX := LX) (E := []) (mi := 58) (cuts := []) (f := 114) (S := p2_s1745) (lx := none) (XF := []) ⟨p2_nmu, ck_E0⟩ ck_X0 ck_l0 (by decide +kernel)
set_option maxRecDepth 100000 in
/-- GlacierMail$Rows.copyFrom -/
noncomputable def p2_s1746 : ck_Sum := ((1, 0, 0), 245, [.inr (.inr (.inl 32)), .inr (.inr (.inl 6))], ([], [], []), ([(32, 3, 3), (33, 0, 23)], []), [(.inr none, 245, ([], [], []))])
set_option maxRecDepth 100000 in
theorem p2_s1746_s {X : Int → Int} {LX : Nat} : ck_Ok p2_O X LX 58 p2_s1746 := ck_ok_s (O := p2_O) (X := X) (LX := LX) (E := []) (mi := 58) (cuts := []) (f := 114) (S := p2_s1746) (lx := none) (XF := []) ⟨p2_nmu, ck_E0⟩ ck_X0 ck_l0 (by decide +kernel)
set_option maxRecDepth 100000 in
/-- GlacierMail$Rows.copyFrom -/
noncomputable def p2_s1747 : ck_Sum := ((1, 0, 0), 245, [.inr (.inr (.inl 34)), .inr (.inr (.inl 8))], ([], [], []), ([(34, 3, 3), (35, 0, 23)], []), [(.inr none, 245, ([], [], []))])
set_option maxRecDepth 100000 in
theorem p2_s1747_s {X : Int → Int} {LX : Nat} : ck_Ok p2_O X LX 58 p2_s1747 := ck_ok_s (O := p2_O) (X := X) (LX := LX) (E := []) (mi := 58) (cuts := []) (f := 114) (S := p2_s1747) (lx := none) (XF := []) ⟨p2_nmu, ck_E0⟩ ck_X0 ck_l0 (by decide +kernel)
set_option maxRecDepth 100000 in
/-- GlacierMail$Rows.copyFrom -/
noncomputable def p2_s1748 : ck_Sum := ((1, 0, 0), 245, [.inr (.inr (.inl 36)), .inr (.inr (.inl 10))], ([], [], []), ([(36, 3, 3), (37, 0, 167)], []), [(.inr none, 245, ([], [], []))])
set_option maxRecDepth 100000 in
theorem p2_s1748_s {X : Int → Int} {LX : Nat} : ck_Ok p2_O X LX 58 p2_s1748 := ck_ok_s (O := p2_O) (X := X) (LX := LX) (E := []) (mi := 58) (cuts := []) (f := 114) (S := p2_s1748) (lx := none) (XF := []) ⟨p2_nmu, ck_E0⟩ ck_X0 ck_l0 (by decide +kernel)
set_option maxRecDepth 100000 in
/-- GlacierMail$Rows.copyFrom -/
noncomputable def p2_s1749 : ck_Sum := ((1, 0, 0), 245, [.inr (.inr (.inl 38)), .inr (.inr (.inl 12))], ([], [], []), ([(38, 3, 3), (39, 0, 35)], []), [(.inr none, 245, ([], [], []))])
set_option maxRecDepth 100000 in
theorem p2_s1749_s {X : Int → Int} {LX : Nat} : ck_Ok p2_O X LX 58 p2_s1749 := ck_ok_s (O := p2_O) (X := X) (LX := LX) (E := []) (mi := 58) (cuts := []) (f := 114) (S := p2_s1749) (lx := none) (XF := []) ⟨p2_nmu, ck_E0⟩ ck_X0 ck_l0 (by decide +kernel)
set_option maxRecDepth 100000 in
/-- GlacierMail$Rows.copyFrom -/
noncomputable def p2_s1750 : ck_Sum := ((1, 0, 0), 245, [.inr (.inr (.inl 40)), .inr (.inr (.inl 14))], ([], [], []), ([(40, 3, 3), (41, 0, 71)], []), [(.inr none, 245, ([], [], []))])
set_option maxRecDepth 100000 in
theorem p2_s1750_s {X : Int → Int} {LX : Nat} : ck_Ok p2_O X LX 58 p2_s1750 := ck_ok_s (O := p2_O) (X := X) (LX := LX) (E := []) (mi := 58) (cuts := []) (f := 114) (S := p2_s1750) (lx := none) (XF := []) ⟨p2_nmu, ck_E0⟩ ck_X0 ck_l0 (by decide +kernel)
set_option maxRecDepth 100000 in
/-- GlacierMail$State.copyFrom -/
noncomputable def p2_s1751 : ck_Sum := ((2, 0, 0), 245, [.inr (.inr (.inl 29)), .inr (.inr (.inl 3))], ([], [(3, 8, 0), (29, 8, 100029)], [(3, 6, 6, (0, 299, [(10, 0)]))]), (zl212, [(29, 8)]), [(.inr none, 245, ([], [(29, 8, 0)], [(29, 6, 6, (0, 299, [(10, 0)]))]))])
set_option maxRecDepth 100000 in
theorem p2_s1751_s {X : Int → Int} {LX : Nat} : ck_Ok p2_O X LX 57 p2_s1751 := ck_ok_s (O := p2_O) (X := X) (LX := LX) (E := [(58, [p2_s1745, p2_s1746, p2_s1747, p2_s1748, p2_s1749, p2_s1750])]) (mi := 57) (cuts := []) (f := 204) (S := p2_s1751) (lx := none) (XF := []) ⟨p2_nmu, ck_E1 (ck_S1 p2_s1745_s (ck_S1 p2_s1746_s (ck_S1 p2_s1747_s (ck_S1 p2_s1748_s (ck_S1 p2_s1749_s (ck_S1 p2_s1750_s ck_S0)))))) ck_E0⟩ ck_X0 ck_l0 (by decide +kernel)
set_option maxRecDepth 100000 in
/-- GlacierMail.image -/
noncomputable def p2_s1752 : ck_Sum := ((3, 0, 0), 245, [.inr (.inr (.inl 1))], ([], [(3, 8, 0), (29, 8, 100029)], [(3, 6, 6, (0, 299, [(10, 0)]))]), (zl213, [(29, 8)]), [(.inr none, 245, ([], [(29, 8, 0)], zl214))])
set_option maxRecDepth 100000 in
theorem p2_s1752_s {X : Int → Int} {LX : Nat} : ck_Ok p2_O X LX 59 p2_s1752 := ck_ok_s (O := p2_O) (X := X) (LX := LX) (E := [(57, [p2_s1751])]) (mi := 59) (cuts := []) (f := 88) (S := p2_s1752) (lx := none) (XF := []) ⟨p2_nmu, ck_E1 (ck_S1 p2_s1751_s ck_S0) ck_E0⟩ ck_X0 ck_l0 (by decide +kernel)
set_option maxRecDepth 100000 in
/-- GlacierMailModel.image -/
noncomputable def p2_s1753 : ck_Sum := ((0, 0, 0), 245, [.inr (.inr (.inl 226))], ([], [], [(226, 5, 5, (0, 1, [(8, 0)]))]), ([(226, 0, 0), (226, 5, 5), (228, 0, 1243)], []), [(.inr none, 245, ([], [], [(226, 5, 5, ck_one 1), (226, 0, 0, ck_one 0)]))])
noncomputable def p2_s1753_E : List (Nat × List ck_Sum) := []
set_option maxRecDepth 100000 in
noncomputable def p2_s1753_C7 : ck_C := ([some (.inr (.inr (.inl 226))), some (.inl (ck_one 0))], ([], [], [(226, 0, 0, ck_one 0), (226, 5, 5, (0, 1, [(8, 0)]))]), 0, .inl 1, true)
set_option maxRecDepth 100000 in
noncomputable def p2_s1753_Z : List (Nat × ck_C) := [(7, p2_s1753_C7)]
set_option maxRecDepth 100000 in
theorem p2_s1753_a : (decide (p2_s1753.2.2.1.length ≤ gm_ml 236) && ck_go p2_O none [] p2_s1753_E 236 p2_s1753.1.1 p2_s1753.2.1 p2_s1753.2.2.2.2.1 p2_s1753.2.2.2.2.2 p2_s1753_Z 114 false [(7, p2_s1753_C7, 0, 0, 245)] p2_s1753.1.2.1 p2_s1753.1.2.2 0 (p2_s1753.2.2.1.map some ++ List.replicate (gm_ml 236 - p2_s1753.2.2.1.length) none) [] p2_s1753.2.1 p2_s1753.2.2.2.1) = true := by decide +kernel
theorem p2_s1753_u : ck_cu p2_s1753_Z = true := by decide +kernel
theorem p2_s1753_h {X : Int → Int} {LX : Nat} : ck_nmu p2_O ∧ ck_OkE p2_O X LX p2_s1753_E := ⟨p2_nmu, ck_E0⟩
set_option maxRecDepth 100000 in
theorem p2_s1753_g7 : ck_go p2_O none [] p2_s1753_E 236 p2_s1753.1.1 p2_s1753.2.1 p2_s1753.2.2.2.2.1 p2_s1753.2.2.2.2.2 p2_s1753_Z 114 false [] 0 0 32 (p2_s1753_C7.1.set 1 (some (.inl (ck_one 1244)))) [] 245 (p2_s1753_C7.2.1.1, p2_s1753_C7.2.1.2.1, ck_cws [(228, 0, 1243)] p2_s1753_C7.2.1.2.2) = true := by decide +kernel
set_option maxRecDepth 100000 in
theorem p2_s1753_t7 : cp_tc p2_O 228 227 0 0 1244 = true := by decide +kernel
theorem p2_s1753_y7 {X : Int → Int} {LX : Nat} {σ σ0 : Nat → Int} {K0 : gm_K} {R0 : gm_R} {M0 : gm_M} (hσ : ∀ s, s < 100 → σ s = σ0 s) : ck_Hy p2_O X LX 236 p2_s1753.1.1 p2_s1753.2.2.2.2.1 p2_s1753.2.1 K0 R0 M0 (ck_Q p2_O σ0 p2_s1753.2.2.2.2.1 p2_s1753.2.1 K0 R0 M0 p2_s1753.2.2.2.2.2) σ (7, p2_s1753_C7, 0, 0, 245) := by
  refine ck_cpH (v := 1) (A := 228) (B := 227) (N := 1244) (wa := 0) (wb := 1243) (pc' := 32) p2_s1753_u p2_s1753_h hσ ⟨by decide, by decide⟩ (by decide +kernel) (fun bc bs L K R M hS => ?_) p2_s1753_g7 (fun _ h => nomatch h)
  · obtain ⟨hF, hl, -, hf, -⟩ := hS
    obtain ⟨u0, l0, g0⟩ := hl.2 0 (.inr (.inr (.inl 226))) rfl
    cases g0
    obtain ⟨u1, lv, x1, rfl, -, e1, e2, -⟩ := hl.2 1 (.inl (ck_one 0)) rfl
    have e1 : (0 : Int) ≤ x1 := e1
    have e2 : x1 ≤ (0 : Int) := e2
    have e3 : x1 = 0 := by omega
    subst e3
    have kA : (K 228).2 = 1244 := (md_kd hF md_o.2.1.1).2
    have kB : (K 227).2 = 2093 := (md_kd hF md_o.1.2).2
    refine ⟨0, 0, ⟨by omega, by omega⟩, gm_Fx_cpy hF (cp_tc_s hF p2_s1753_t7) (jj_image (K := K) hF.2.2.2.2), fun Q hx => ?_⟩
    exact cp_lp (iv := .iload_n 1) (v := 1) (ixA := 17) (ixB := 13) (jA := 2) (jB := 1) (A := 228) (B := 227) (mo := 226) (p := 7) (qA := 19) (qB := 24) (N := 1244) (offe := 21) (offb := (-22)) (by decide) (md_mo hF) (md_kd hF md_o.2.1.1).1 (md_kd hF md_o.1.2).1 (md_rf hF md_r.1.2) (md_rf hF md_r.1.1) (by decide +kernel) (by decide +kernel) (by decide +kernel) (by decide +kernel) ⟨by omega, ⟨by omega, by omega⟩, ⟨by omega, by omega⟩, by omega, by omega⟩ (fun e => absurd e (by decide)) (by decide) (by decide +kernel) l0 lv ⟨rfl, rfl⟩ ⟨gm_vr 226, l0, by simp [gm_sort]⟩ (by decide +kernel) (by decide +kernel) (by decide +kernel) (by decide) (by decide +kernel) (by decide +kernel) (cp_sg_i (iv := .iload_n 1) lv ⟨rfl, rfl⟩ (by decide +kernel)) (by decide +kernel) (by decide +kernel) (cp_sg_i (iv := .iload_n 1) lv ⟨rfl, rfl⟩ (by decide +kernel)) (by decide +kernel) (by decide +kernel) (by decide +kernel) (by decide +kernel) (by decide) (by decide) hx
theorem p2_s1753_s {X : Int → Int} {LX : Nat} : ck_Ok p2_O X LX 236 p2_s1753 := by
  refine ck_ok_st (cuts := p2_s1753_Z) p2_s1753_u p2_s1753_h p2_s1753_a (fun h hm => ?_)
  rcases List.mem_cons.mp hm with rfl | hm
  · exact ⟨by unfold p2_s1753_Z; exact List.mem_cons_self, fun σ K0 R0 M0 => p2_s1753_y7 (fun _ _ => rfl)⟩
  cases hm
set_option maxRecDepth 100000 in
/-- GlacierMail$Rows.copyFrom -/
noncomputable def p2_s1754 : ck_Sum := ((1, 0, 0), 245, [.inr (.inr (.inl 4)), .inr (.inr (.inl 30))], ([], [], []), ([(4, 3, 3), (5, 0, 55)], []), [(.inr none, 245, ([], [], []))])
set_option maxRecDepth 100000 in
theorem p2_s1754_s {X : Int → Int} {LX : Nat} : ck_Ok p2_O X LX 58 p2_s1754 := ck_ok_s (O := p2_O) (X := X) (LX := LX) (E := []) (mi := 58) (cuts := []) (f := 114) (S := p2_s1754) (lx := none) (XF := []) ⟨p2_nmu, ck_E0⟩ ck_X0 ck_l0 (by decide +kernel)
set_option maxRecDepth 100000 in
/-- GlacierMail$Rows.copyFrom -/
noncomputable def p2_s1755 : ck_Sum := ((1, 0, 0), 245, [.inr (.inr (.inl 6)), .inr (.inr (.inl 32))], ([], [], []), ([(6, 3, 3), (7, 0, 23)], []), [(.inr none, 245, ([], [], []))])
set_option maxRecDepth 100000 in
theorem p2_s1755_s {X : Int → Int} {LX : Nat} : ck_Ok p2_O X LX 58 p2_s1755 := ck_ok_s (O := p2_O) (X := X) (LX := LX) (E := []) (mi := 58) (cuts := []) (f := 114) (S := p2_s1755) (lx := none) (XF := []) ⟨p2_nmu, ck_E0⟩ ck_X0 ck_l0 (by decide +kernel)
set_option maxRecDepth 100000 in
/-- GlacierMail$Rows.copyFrom -/
noncomputable def p2_s1756 : ck_Sum := ((1, 0, 0), 245, [.inr (.inr (.inl 8)), .inr (.inr (.inl 34))], ([], [], []), ([(8, 3, 3), (9, 0, 23)], []), [(.inr none, 245, ([], [], []))])
set_option maxRecDepth 100000 in
theorem p2_s1756_s {X : Int → Int} {LX : Nat} : ck_Ok p2_O X LX 58 p2_s1756 := ck_ok_s (O := p2_O) (X := X) (LX := LX) (E := []) (mi := 58) (cuts := []) (f := 114) (S := p2_s1756) (lx := none) (XF := []) ⟨p2_nmu, ck_E0⟩ ck_X0 ck_l0 (by decide +kernel)
set_option maxRecDepth 100000 in
/-- GlacierMail$Rows.copyFrom -/
noncomputable def p2_s1757 : ck_Sum := ((1, 0, 0), 245, [.inr (.inr (.inl 10)), .inr (.inr (.inl 36))], ([], [], []), ([(10, 3, 3), (11, 0, 167)], []), [(.inr none, 245, ([], [], []))])
set_option maxRecDepth 100000 in
theorem p2_s1757_s {X : Int → Int} {LX : Nat} : ck_Ok p2_O X LX 58 p2_s1757 := ck_ok_s (O := p2_O) (X := X) (LX := LX) (E := []) (mi := 58) (cuts := []) (f := 114) (S := p2_s1757) (lx := none) (XF := []) ⟨p2_nmu, ck_E0⟩ ck_X0 ck_l0 (by decide +kernel)
end
/-! 78r80a22.sf -/
section
/-! EVERY CALL ENDS, whatever was done before (laid by wip/am/p2k.py). -/
set_option maxRecDepth 100000 in
/-- GlacierMail$Rows.copyFrom -/
noncomputable def p2_s1758 : ck_Sum := ((1, 0, 0), 245, [.inr (.inr (.inl 12)), .inr (.inr (.inl 38))], ([], [], []), ([(12, 3, 3), (13, 0, 35)], []), [(.inr none, 245, ([], [], []))])
set_option maxRecDepth 100000 in
theorem p2_s1758_s {X : Int → Int} {LX : Nat} : ck_Ok p2_O X LX 58 p2_s1758 := ck_ok_s (O := p2_O) (X := X) (LX := LX) (E := []) (mi := 58) (cuts := []) (f := 114) (S := p2_s1758) (lx := none) (XF := []) ⟨p2_nmu, ck_E0⟩ ck_X0 ck_l0 (by decide +kernel)
set_option maxRecDepth 100000 in
/-- GlacierMail$Rows.copyFrom -/
noncomputable def p2_s1759 : ck_Sum := ((1, 0, 0), 245, [.inr (.inr (.inl 14)), .inr (.inr (.inl 40))], ([], [], []), ([(14, 3, 3), (15, 0, 71)], []), [(.inr none, 245, ([], [], []))])
set_option maxRecDepth 100000 in
theorem p2_s1759_s {X : Int → Int} {LX : Nat} : ck_Ok p2_O X LX 58 p2_s1759 := ck_ok_s (O := p2_O) (X := X) (LX := LX) (E := []) (mi := 58) (cuts := []) (f := 114) (S := p2_s1759) (lx := none) (XF := []) ⟨p2_nmu, ck_E0⟩ ck_X0 ck_l0 (by decide +kernel)
set_option maxRecDepth 100000 in
/-- GlacierMail$State.copyFrom -/
noncomputable def p2_s1760 : ck_Sum := ((2, 0, 0), 245, [.inr (.inr (.inl 3)), .inr (.inr (.inl 29))], ([], [(3, 8, 0), (29, 8, 100029)], []), (zl1, [(3, 8)]), [(.inr none, 245, ([], [(3, 8, 100029)], []))])
set_option maxRecDepth 100000 in
theorem p2_s1760_s {X : Int → Int} {LX : Nat} : ck_Ok p2_O X LX 57 p2_s1760 := ck_ok_s (O := p2_O) (X := X) (LX := LX) (E := [(58, [p2_s1754, p2_s1755, p2_s1756, p2_s1757, p2_s1758, p2_s1759])]) (mi := 57) (cuts := []) (f := 204) (S := p2_s1760) (lx := none) (XF := []) ⟨p2_nmu, ck_E1 (ck_S1 p2_s1754_s (ck_S1 p2_s1755_s (ck_S1 p2_s1756_s (ck_S1 p2_s1757_s (ck_S1 p2_s1758_s (ck_S1 p2_s1759_s ck_S0)))))) ck_E0⟩ ck_X0 ck_l0 (by decide +kernel)
set_option maxRecDepth 100000 in
/-- GlacierMail.back -/
noncomputable def p2_s1761 : ck_Sum := ((4, 0, 0), 245, [.inr (.inr (.inl 1))], ([], [(3, 8, 0), (29, 8, 100029)], [(1, 6, 6, (0, 1, [(9, 0)]))]), (zl215, [(3, 8)]), [(.inr (some (.inl (ck_one 1))), 245, ([], [(3, 8, 100029)], zl216)), (.inr (some (.inl (ck_one 0))), 245, ([], [(3, 8, 0)], [(1, 6, 6, (0, 0, [(9, 0)]))]))])
set_option maxRecDepth 100000 in
theorem p2_s1761_s {X : Int → Int} {LX : Nat} : ck_Ok p2_O X LX 60 p2_s1761 := ck_ok_s (O := p2_O) (X := X) (LX := LX) (E := [(57, [p2_s1760]), (61, [p2_s144])]) (mi := 60) (cuts := []) (f := 94) (S := p2_s1761) (lx := none) (XF := []) ⟨p2_nmu, ck_E1 (ck_S1 p2_s1760_s ck_S0) (ck_E1 (ck_S1 p2_s144_s ck_S0) ck_E0)⟩ ck_X0 ck_l0 (by decide +kernel)
set_option maxRecDepth 100000 in
/-- GlacierMailModel.back -/
noncomputable def p2_s1762 : ck_Sum := ((1, 0, 0), 245, [.inr (.inr (.inl 226))], ([], [], [(227, 2, 2, (0, 8, [(20, 0)])), (227, 3, 3, (0, 8, [(21, 0)])), (227, 4, 4, (0, 24, [(22, 0)])), (227, 5, 5, (0, 8, [(23, 0)])), (227, 6, 6, (0, 6, [(24, 0)])), (227, 7, 7, (0, 12, [(25, 0)])), (227, 14, 14, (0, 24, [(26, 0)])), (226, 6, 6, (0, 12, [(27, 0)])), (226, 5, 5, (0, 1, [(8, 0)])), (227, 9, 9, (0, 299, [(11, 0)]))]), ([(226, 0, 0), (226, 6, 6), (226, 26, 26), (227, 0, 1243), (234, 0, 299)], []), [(.inr (some (.inl (ck_one 0))), 245, ([], [], [(226, 5, 5, (0, 0, [(8, 0)])), (226, 0, 0, ck_one 0), (227, 2, 2, (0, 8, [(20, 0)])), (227, 3, 3, (0, 8, [(21, 0)])), (227, 4, 4, (0, 24, [(22, 0)])), (227, 5, 5, (0, 8, [(23, 0)])), (227, 6, 6, (0, 6, [(24, 0)])), (227, 7, 7, (0, 12, [(25, 0)])), (227, 14, 14, (0, 24, [(26, 0)])), (226, 6, 6, (0, 12, [(27, 0)])), (227, 9, 9, (0, 299, [(11, 0)]))])), (.inr (some (.inl (ck_one 1))), 245, ([], [], [(226, 26, 26, ck_one (-1)), (226, 6, 6, ck_one 0), (226, 5, 5, (1, 1, [(8, 0)])), (226, 0, 0, ck_one 0)]))])
noncomputable def p2_s1762_E : List (Nat × List ck_Sum) := [(235, [p2_s245])]
set_option maxRecDepth 100000 in
noncomputable def p2_s1762_C16 : ck_C := ([some (.inr (.inr (.inl 226))), some (.inl (ck_one 0))], ([], [], [(226, 5, 5, (1, 1, [(8, 0)])), (226, 0, 0, ck_one 0), (227, 2, 2, (0, 8, [(20, 0)])), (227, 3, 3, (0, 8, [(21, 0)])), (227, 4, 4, (0, 24, [(22, 0)])), (227, 5, 5, (0, 8, [(23, 0)])), (227, 6, 6, (0, 6, [(24, 0)])), (227, 7, 7, (0, 12, [(25, 0)])), (227, 14, 14, (0, 24, [(26, 0)])), (226, 6, 6, (0, 12, [(27, 0)])), (227, 9, 9, (0, 299, [(11, 0)]))]), 0, .inl 1, true)
set_option maxRecDepth 100000 in
noncomputable def p2_s1762_Z : List (Nat × ck_C) := [(16, p2_s1762_C16)]
set_option maxRecDepth 100000 in
theorem p2_s1762_a : (decide (p2_s1762.2.2.1.length ≤ gm_ml 237) && ck_go p2_O none [] p2_s1762_E 237 p2_s1762.1.1 p2_s1762.2.1 p2_s1762.2.2.2.2.1 p2_s1762.2.2.2.2.2 p2_s1762_Z 126 false [(16, p2_s1762_C16, 0, 0, 245)] p2_s1762.1.2.1 p2_s1762.1.2.2 0 (p2_s1762.2.2.1.map some ++ List.replicate (gm_ml 237 - p2_s1762.2.2.1.length) none) [] p2_s1762.2.1 p2_s1762.2.2.2.1) = true := by decide +kernel
theorem p2_s1762_u : ck_cu p2_s1762_Z = true := by decide +kernel
theorem p2_s1762_h {X : Int → Int} {LX : Nat} : ck_nmu p2_O ∧ ck_OkE p2_O X LX p2_s1762_E := ⟨p2_nmu, ck_E1 (ck_S1 p2_s245_s ck_S0) ck_E0⟩
set_option maxRecDepth 100000 in
theorem p2_s1762_g16 : ck_go p2_O none [] p2_s1762_E 237 p2_s1762.1.1 p2_s1762.2.1 p2_s1762.2.2.2.2.1 p2_s1762.2.2.2.2.2 p2_s1762_Z 126 false [] 0 0 41 (p2_s1762_C16.1.set 1 (some (.inl (ck_one 1244)))) [] 245 (p2_s1762_C16.2.1.1, p2_s1762_C16.2.1.2.1, ck_cws [(227, 0, 1243)] p2_s1762_C16.2.1.2.2) = true := by decide +kernel
set_option maxRecDepth 100000 in
theorem p2_s1762_t16 : cp_tc p2_O 227 228 0 0 1244 = true := by decide +kernel
theorem p2_s1762_y16 {X : Int → Int} {LX : Nat} {σ σ0 : Nat → Int} {K0 : gm_K} {R0 : gm_R} {M0 : gm_M} (hσ : ∀ s, s < 100 → σ s = σ0 s) : ck_Hy p2_O X LX 237 p2_s1762.1.1 p2_s1762.2.2.2.2.1 p2_s1762.2.1 K0 R0 M0 (ck_Q p2_O σ0 p2_s1762.2.2.2.2.1 p2_s1762.2.1 K0 R0 M0 p2_s1762.2.2.2.2.2) σ (16, p2_s1762_C16, 0, 0, 245) := by
  refine ck_cpH (v := 1) (A := 227) (B := 228) (N := 1244) (wa := 0) (wb := 1243) (pc' := 41) p2_s1762_u p2_s1762_h hσ ⟨by decide, by decide⟩ (by decide +kernel) (fun bc bs L K R M hS => ?_) p2_s1762_g16 (fun _ h => nomatch h)
  · obtain ⟨hF, hl, -, hf, -⟩ := hS
    obtain ⟨u0, l0, g0⟩ := hl.2 0 (.inr (.inr (.inl 226))) rfl
    cases g0
    obtain ⟨u1, lv, x1, rfl, -, e1, e2, -⟩ := hl.2 1 (.inl (ck_one 0)) rfl
    have e1 : (0 : Int) ≤ x1 := e1
    have e2 : x1 ≤ (0 : Int) := e2
    have e3 : x1 = 0 := by omega
    subst e3
    have kA : (K 227).2 = 2093 := (md_kd hF md_o.1.2).2
    have kB : (K 228).2 = 1244 := (md_kd hF md_o.2.1.1).2
    refine ⟨0, 0, ⟨by omega, by omega⟩, gm_Fx_cpy hF (cp_tc_s hF p2_s1762_t16) (jj_back (K := K) hF.2.2.2.2), fun Q hx => ?_⟩
    exact cp_lp (iv := .iload_n 1) (v := 1) (ixA := 13) (ixB := 17) (jA := 1) (jB := 2) (A := 227) (B := 228) (mo := 226) (p := 16) (qA := 28) (qB := 33) (N := 1244) (offe := 21) (offb := (-22)) (by decide) (md_mo hF) (md_kd hF md_o.1.2).1 (md_kd hF md_o.2.1.1).1 (md_rf hF md_r.1.1) (md_rf hF md_r.1.2) (by decide +kernel) (by decide +kernel) (by decide +kernel) (by decide +kernel) ⟨by omega, ⟨by omega, by omega⟩, ⟨by omega, by omega⟩, by omega, by omega⟩ (fun e => absurd e (by decide)) (by decide) (by decide +kernel) l0 lv ⟨rfl, rfl⟩ ⟨gm_vr 226, l0, by simp [gm_sort]⟩ (by decide +kernel) (by decide +kernel) (by decide +kernel) (by decide) (by decide +kernel) (by decide +kernel) (cp_sg_i (iv := .iload_n 1) lv ⟨rfl, rfl⟩ (by decide +kernel)) (by decide +kernel) (by decide +kernel) (cp_sg_i (iv := .iload_n 1) lv ⟨rfl, rfl⟩ (by decide +kernel)) (by decide +kernel) (by decide +kernel) (by decide +kernel) (by decide +kernel) (by decide) (by decide) hx
theorem p2_s1762_s {X : Int → Int} {LX : Nat} : ck_Ok p2_O X LX 237 p2_s1762 := by
  refine ck_ok_st (cuts := p2_s1762_Z) p2_s1762_u p2_s1762_h p2_s1762_a (fun h hm => ?_)
  rcases List.mem_cons.mp hm with rfl | hm
  · exact ⟨by unfold p2_s1762_Z; exact List.mem_cons_self, fun σ K0 R0 M0 => p2_s1762_y16 (fun _ _ => rfl)⟩
  cases hm
set_option maxRecDepth 100000 in
/-- GlacierMail.count -/
noncomputable def p2_s1763 : ck_Sum := ((0, 0, 0), 245, [.inr (.inr (.inl 1)), .inl ((-2147483648), (-1), [])], ([], [], []), ([], []), [(.inr (some (.inl (ck_one (-1)))), 245, ([], [], []))])
set_option maxRecDepth 100000 in
theorem p2_s1763_s {X : Int → Int} {LX : Nat} : ck_Ok p2_O X LX 63 p2_s1763 := ck_ok_s (O := p2_O) (X := X) (LX := LX) (E := []) (mi := 63) (cuts := []) (f := 78) (S := p2_s1763) (lx := none) (XF := []) ⟨p2_nmu, ck_E0⟩ ck_X0 ck_l0 (by decide +kernel)
set_option maxRecDepth 100000 in
/-- GlacierMail$History.size -/
noncomputable def p2_s1764 : ck_Sum := ((0, 0, 0), 245, [.inr (.inr (.inl 42))], ([], [], []), ([], []), [(.inr (some (.inl (0, 12, []))), 245, ([], [], []))])
set_option maxRecDepth 100000 in
theorem p2_s1764_s {X : Int → Int} {LX : Nat} : ck_Ok p2_O X LX 69 p2_s1764 := ck_ok_s (O := p2_O) (X := X) (LX := LX) (E := []) (mi := 69) (cuts := []) (f := 76) (S := p2_s1764) (lx := none) (XF := []) ⟨p2_nmu, ck_E0⟩ ck_X0 ck_l0 (by decide +kernel)
set_option maxRecDepth 100000 in
/-- GlacierMail$Rows.size -/
noncomputable def p2_s1767 : ck_Sum := ((0, 0, 0), 245, [.inr (.inr (.inl 14))], ([], [], []), ([], []), [(.inr (some (.inl (0, 24, []))), 245, ([], [], []))])
set_option maxRecDepth 100000 in
theorem p2_s1767_s {X : Int → Int} {LX : Nat} : ck_Ok p2_O X LX 9 p2_s1767 := ck_ok_s (O := p2_O) (X := X) (LX := LX) (E := []) (mi := 9) (cuts := []) (f := 76) (S := p2_s1767) (lx := none) (XF := []) ⟨p2_nmu, ck_E0⟩ ck_X0 ck_l0 (by decide +kernel)
set_option maxRecDepth 100000 in
/-- GlacierMail.lawLines -/
noncomputable def p2_s1769 : ck_Sum := ((0, 0, 0), 245, [.inr (.inr (.inl 1))], ([], [(3, 8, 0)], []), ([], []), [(.inr (some (.inl (ck_one (-1)))), 245, ([], [], []))])
set_option maxRecDepth 100000 in
theorem p2_s1769_s {X : Int → Int} {LX : Nat} : ck_Ok p2_O X LX 64 p2_s1769 := ck_ok_s (O := p2_O) (X := X) (LX := LX) (E := []) (mi := 64) (cuts := []) (f := 84) (S := p2_s1769) (lx := none) (XF := []) ⟨p2_nmu, ck_E0⟩ ck_X0 ck_l0 (by decide +kernel)
set_option maxRecDepth 100000 in
/-- GlacierMail.count -/
noncomputable def p2_s1770 : ck_Sum := ((1, 0, 0), 245, [.inr (.inr (.inl 1)), .inl (0, 9, [])], ([], [(3, 8, 0)], [(3, 6, 6, (0, 299, [(10, 0)]))]), ([], []), [(.inr (some (.inl (0, 2147483647, []))), 245, ([], [], [])), (.inr (some (.inl ((-2147483648), (-1), []))), 245, ([], [], []))])
set_option maxRecDepth 100000 in
theorem p2_s1770_s {X : Int → Int} {LX : Nat} : ck_Ok p2_O X LX 63 p2_s1770 := ck_ok_s (O := p2_O) (X := X) (LX := LX) (E := [(64, [p2_s1769]), (9, [p2_s1441, p2_s139, p2_s331, p2_s320, p2_s135])]) (mi := 63) (cuts := []) (f := 84) (S := p2_s1770) (lx := none) (XF := []) ⟨p2_nmu, ck_E1 (ck_S1 p2_s1769_s ck_S0) (ck_E1 (ck_S1 p2_s1441_s (ck_S1 p2_s139_s (ck_S1 p2_s331_s (ck_S1 p2_s320_s (ck_S1 p2_s135_s ck_S0))))) ck_E0)⟩ ck_X0 ck_l0 (by decide +kernel)
set_option maxRecDepth 100000 in
/-- GlacierMailModel.in -/
noncomputable def p2_s1771 : ck_Sum := ((0, 0, 0), 245, [.inl ((-2147483648), (-1), []), .inl (ck_one 0), .inl (ck_one 13)], ([], [], []), ([], []), [(.inr (some (.inl (ck_one 0))), 245, ([], [], []))])
set_option maxRecDepth 100000 in
theorem p2_s1771_s {X : Int → Int} {LX : Nat} : ck_Ok p2_O X LX 286 p2_s1771 := ck_ok_s (O := p2_O) (X := X) (LX := LX) (E := []) (mi := 286) (cuts := []) (f := 80) (S := p2_s1771) (lx := none) (XF := []) ⟨p2_nmu, ck_E0⟩ ck_X0 ck_l0 (by decide +kernel)
set_option maxRecDepth 100000 in
/-- GlacierMailModel.count -/
noncomputable def p2_s1772 : ck_Sum := ((1, 0, 0), 245, [.inr (.inr (.inl 226)), .inl ((-2147483648), (-1), [])], ([], [], []), ([(226, 0, 0)], []), [(.inr (some (.inl (ck_one (-1)))), 245, ([], [], [(226, 0, 0, ck_one 0)]))])
set_option maxRecDepth 100000 in
theorem p2_s1772_s {X : Int → Int} {LX : Nat} : ck_Ok p2_O X LX 368 p2_s1772 := ck_ok_s (O := p2_O) (X := X) (LX := LX) (E := [(286, [p2_s1771])]) (mi := 368) (cuts := []) (f := 98) (S := p2_s1772) (lx := none) (XF := []) ⟨p2_nmu, ck_E1 (ck_S1 p2_s1771_s ck_S0) ck_E0⟩ ck_X0 ck_l0 (by decide +kernel)
set_option maxRecDepth 100000 in
/-- GlacierMailModel.in -/
noncomputable def p2_s1773 : ck_Sum := ((0, 0, 0), 245, [.inl (18, 2147483647, []), .inl (ck_one 0), .inl (ck_one 13)], ([], [], []), ([], []), [(.inr (some (.inl (ck_one 0))), 245, ([], [], []))])
set_option maxRecDepth 100000 in
theorem p2_s1773_s {X : Int → Int} {LX : Nat} : ck_Ok p2_O X LX 286 p2_s1773 := ck_ok_s (O := p2_O) (X := X) (LX := LX) (E := []) (mi := 286) (cuts := []) (f := 86) (S := p2_s1773) (lx := none) (XF := []) ⟨p2_nmu, ck_E0⟩ ck_X0 ck_l0 (by decide +kernel)
set_option maxRecDepth 100000 in
/-- GlacierMailModel.in -/
noncomputable def p2_s1774 : ck_Sum := ((0, 0, 0), 245, [.inl (ck_one 13), .inl (ck_one 0), .inl (ck_one 13)], ([], [], []), ([], []), [(.inr (some (.inl (ck_one 1))), 245, ([], [], []))])
set_option maxRecDepth 100000 in
theorem p2_s1774_s {X : Int → Int} {LX : Nat} : ck_Ok p2_O X LX 286 p2_s1774 := ck_ok_s (O := p2_O) (X := X) (LX := LX) (E := []) (mi := 286) (cuts := []) (f := 88) (S := p2_s1774) (lx := none) (XF := []) ⟨p2_nmu, ck_E0⟩ ck_X0 ck_l0 (by decide +kernel)
set_option maxRecDepth 100000 in
/-- GlacierMailModel.in -/
noncomputable def p2_s1775 : ck_Sum := ((0, 0, 0), 245, [.inl (ck_one 12), .inl (ck_one 0), .inl (ck_one 13)], ([], [], []), ([], []), [(.inr (some (.inl (ck_one 1))), 245, ([], [], []))])
set_option maxRecDepth 100000 in
theorem p2_s1775_s {X : Int → Int} {LX : Nat} : ck_Ok p2_O X LX 286 p2_s1775 := ck_ok_s (O := p2_O) (X := X) (LX := LX) (E := []) (mi := 286) (cuts := []) (f := 88) (S := p2_s1775) (lx := none) (XF := []) ⟨p2_nmu, ck_E0⟩ ck_X0 ck_l0 (by decide +kernel)
set_option maxRecDepth 100000 in
/-- GlacierMailModel.in -/
noncomputable def p2_s1776 : ck_Sum := ((0, 0, 0), 245, [.inl (ck_one 11), .inl (ck_one 0), .inl (ck_one 13)], ([], [], []), ([], []), [(.inr (some (.inl (ck_one 1))), 245, ([], [], []))])
set_option maxRecDepth 100000 in
theorem p2_s1776_s {X : Int → Int} {LX : Nat} : ck_Ok p2_O X LX 286 p2_s1776 := ck_ok_s (O := p2_O) (X := X) (LX := LX) (E := []) (mi := 286) (cuts := []) (f := 88) (S := p2_s1776) (lx := none) (XF := []) ⟨p2_nmu, ck_E0⟩ ck_X0 ck_l0 (by decide +kernel)
set_option maxRecDepth 100000 in
/-- GlacierMailModel.in -/
noncomputable def p2_s1777 : ck_Sum := ((0, 0, 0), 245, [.inl (ck_one 10), .inl (ck_one 0), .inl (ck_one 13)], ([], [], []), ([], []), [(.inr (some (.inl (ck_one 1))), 245, ([], [], []))])
set_option maxRecDepth 100000 in
theorem p2_s1777_s {X : Int → Int} {LX : Nat} : ck_Ok p2_O X LX 286 p2_s1777 := ck_ok_s (O := p2_O) (X := X) (LX := LX) (E := []) (mi := 286) (cuts := []) (f := 88) (S := p2_s1777) (lx := none) (XF := []) ⟨p2_nmu, ck_E0⟩ ck_X0 ck_l0 (by decide +kernel)
set_option maxRecDepth 100000 in
/-- GlacierMailModel.in -/
noncomputable def p2_s1779 : ck_Sum := ((0, 0, 0), 245, [.inl (0, 7, []), .inl (ck_one 0), .inl (ck_one 13)], ([], [], []), ([], []), [(.inr (some (.inl (ck_one 1))), 245, ([], [], []))])
set_option maxRecDepth 100000 in
theorem p2_s1779_s {X : Int → Int} {LX : Nat} : ck_Ok p2_O X LX 286 p2_s1779 := ck_ok_s (O := p2_O) (X := X) (LX := LX) (E := []) (mi := 286) (cuts := []) (f := 88) (S := p2_s1779) (lx := none) (XF := []) ⟨p2_nmu, ck_E0⟩ ck_X0 ck_l0 (by decide +kernel)
set_option maxRecDepth 100000 in
/-- GlacierMailModel.in -/
noncomputable def p2_s1780 : ck_Sum := ((0, 0, 0), 245, [.inl (ck_one 9), .inl (ck_one 0), .inl (ck_one 13)], ([], [], []), ([], []), [(.inr (some (.inl (ck_one 1))), 245, ([], [], []))])
set_option maxRecDepth 100000 in
theorem p2_s1780_s {X : Int → Int} {LX : Nat} : ck_Ok p2_O X LX 286 p2_s1780 := ck_ok_s (O := p2_O) (X := X) (LX := LX) (E := []) (mi := 286) (cuts := []) (f := 88) (S := p2_s1780) (lx := none) (XF := []) ⟨p2_nmu, ck_E0⟩ ck_X0 ck_l0 (by decide +kernel)
set_option maxRecDepth 100000 in
/-- GlacierMailModel.count -/
noncomputable def p2_s1781 : ck_Sum := ((1, 0, 0), 245, [.inr (.inr (.inl 226)), .inl (0, 9, [])], ([], [], [(227, 9, 9, (0, 299, [(11, 0)]))]), ([(226, 0, 0)], []), [(.inr (some (.inl (0, 299, []))), 245, ([], [], [(226, 0, 0, ck_one 0)])), (.inr (some (.inl (ck_one (-1)))), 245, ([], [], [(227, 8, 8, ck_one 0), (226, 0, 0, ck_one 0)]))])
set_option maxRecDepth 100000 in
theorem p2_s1781_s {X : Int → Int} {LX : Nat} : ck_Ok p2_O X LX 368 p2_s1781 := ck_ok_s (O := p2_O) (X := X) (LX := LX) (E := [(286, [p2_s1779, p2_s1780])]) (mi := 368) (cuts := []) (f := 108) (S := p2_s1781) (lx := none) (XF := []) ⟨p2_nmu, ck_E1 (ck_S1 p2_s1779_s (ck_S1 p2_s1780_s ck_S0)) ck_E0⟩ ck_X0 ck_l0 (by decide +kernel)
end
/-! 78r86a00.sl -/
section
/-! EVERY CALL OF THE CLASS ENDS, under a law (laid by wip/am/p2l.py). -/
set_option maxRecDepth 100000 in
/-- GlacierMail.putNumber -/
noncomputable def pl_s0 : ck_Sum := ((0, 0, 0), 249, [.inr (.inr (.inl 1)), .inl ((-2147483648), 2147483647, [])], ([], [], [(1, 1, 1, (0, 380, [(6, 0)]))]), ([(1, 1, 1), (2, 0, 383)], []), [(.inr none, 249, ([], [], [(1, 1, 1, (4, 384, [(6, 4)]))]))])
set_option maxRecDepth 100000 in
theorem pl_s0_s {X : Int → Int} {LX : Nat} : ck_Ok p2_OL X LX 20 pl_s0 := ck_ok_s (O := p2_OL) (X := X) (LX := LX) (E := []) (mi := 20) (cuts := []) (f := 280) (S := pl_s0) (lx := none) (XF := []) ⟨pl_nmu, ck_E0⟩ ck_X0 ck_l0 (by decide +kernel)
set_option maxRecDepth 100000 in
/-- GlacierMail.putNumber -/
noncomputable def pl_s1 : ck_Sum := ((0, 0, 0), 249, [.inr (.inr (.inl 1)), .inl ((-2147483648), 2147483647, [])], ([], [], [(1, 1, 1, (4, 384, [(6, 0)]))]), ([(1, 1, 1), (2, 4, 387)], []), [(.inr none, 249, ([], [], [(1, 1, 1, (8, 388, [(6, 4)]))]))])
set_option maxRecDepth 100000 in
theorem pl_s1_s {X : Int → Int} {LX : Nat} : ck_Ok p2_OL X LX 20 pl_s1 := ck_ok_s (O := p2_OL) (X := X) (LX := LX) (E := []) (mi := 20) (cuts := []) (f := 280) (S := pl_s1) (lx := none) (XF := []) ⟨pl_nmu, ck_E0⟩ ck_X0 ck_l0 (by decide +kernel)
set_option maxRecDepth 100000 in
/-- GlacierMail.putNumber -/
noncomputable def pl_s2 : ck_Sum := ((0, 0, 0), 249, [.inr (.inr (.inl 1)), .inl ((-2147483648), 2147483647, [])], ([], [], [(1, 1, 1, (8, 388, [(6, 0)]))]), ([(1, 1, 1), (2, 8, 391)], []), [(.inr none, 249, ([], [], [(1, 1, 1, (12, 392, [(6, 4)]))]))])
set_option maxRecDepth 100000 in
theorem pl_s2_s {X : Int → Int} {LX : Nat} : ck_Ok p2_OL X LX 20 pl_s2 := ck_ok_s (O := p2_OL) (X := X) (LX := LX) (E := []) (mi := 20) (cuts := []) (f := 280) (S := pl_s2) (lx := none) (XF := []) ⟨pl_nmu, ck_E0⟩ ck_X0 ck_l0 (by decide +kernel)
set_option maxRecDepth 100000 in
/-- GlacierMail.putNumber -/
noncomputable def pl_s3 : ck_Sum := ((0, 0, 0), 249, [.inr (.inr (.inl 1)), .inl ((-2147483648), 2147483647, [])], ([], [], [(1, 1, 1, (12, 392, [(6, 0)]))]), ([(1, 1, 1), (2, 12, 395)], []), [(.inr none, 249, ([], [], [(1, 1, 1, (16, 396, [(6, 4)]))]))])
set_option maxRecDepth 100000 in
theorem pl_s3_s {X : Int → Int} {LX : Nat} : ck_Ok p2_OL X LX 20 pl_s3 := ck_ok_s (O := p2_OL) (X := X) (LX := LX) (E := []) (mi := 20) (cuts := []) (f := 280) (S := pl_s3) (lx := none) (XF := []) ⟨pl_nmu, ck_E0⟩ ck_X0 ck_l0 (by decide +kernel)
set_option maxRecDepth 100000 in
/-- GlacierMail.putNumber -/
noncomputable def pl_s4 : ck_Sum := ((0, 0, 0), 249, [.inr (.inr (.inl 1)), .inl ((-2147483648), 2147483647, [])], ([], [], [(1, 1, 1, (16, 396, [(6, 0)]))]), ([(1, 1, 1), (2, 16, 399)], []), [(.inr none, 249, ([], [], [(1, 1, 1, (20, 400, [(6, 4)]))]))])
set_option maxRecDepth 100000 in
theorem pl_s4_s {X : Int → Int} {LX : Nat} : ck_Ok p2_OL X LX 20 pl_s4 := ck_ok_s (O := p2_OL) (X := X) (LX := LX) (E := []) (mi := 20) (cuts := []) (f := 280) (S := pl_s4) (lx := none) (XF := []) ⟨pl_nmu, ck_E0⟩ ck_X0 ck_l0 (by decide +kernel)
set_option maxRecDepth 100000 in
/-- GlacierMail.feed -/
noncomputable def pl_s5 : ck_Sum := ((1, 0, 0), 249, [.inr (.inr (.inl 1)), .inl ((-2147483648), 2147483647, []), .inl ((-2147483648), 2147483647, []), .inl ((-2147483648), 2147483647, []), .inl ((-2147483648), 2147483647, []), .inl ((-2147483648), 2147483647, [])], ([], [], [(1, 1, 1, (0, 400, [(6, 0)]))]), ([(1, 1, 1), (2, 0, 399)], []), [(.inr (some (.inl (20, 400, [(6, 20)]))), 249, ([], [], [(1, 1, 1, (20, 400, [(6, 20)]))])), (.inr (some (.inl (ck_one (-1)))), 249, ([], [], [(1, 1, 1, (381, 400, [(6, 0)]))]))])
set_option maxRecDepth 100000 in
theorem pl_s5_s {X : Int → Int} {LX : Nat} : ck_Ok p2_OL X LX 19 pl_s5 := ck_ok_s (O := p2_OL) (X := X) (LX := LX) (E := [(20, [pl_s0, pl_s1, pl_s2, pl_s3, pl_s4])]) (mi := 19) (cuts := []) (f := 118) (S := pl_s5) (lx := none) (XF := []) ⟨pl_nmu, ck_E1 (ck_S1 pl_s0_s (ck_S1 pl_s1_s (ck_S1 pl_s2_s (ck_S1 pl_s3_s (ck_S1 pl_s4_s ck_S0))))) ck_E0⟩ ck_X0 ck_l0 (by decide +kernel)
set_option maxRecDepth 100000 in
/-- GlacierMail$Rows.copyFrom -/
noncomputable def pl_s7 : ck_Sum := ((1, 0, 0), 249, [.inr (.inr (.inl 17)), .inr (.inr (.inl 4))], ([], [], []), ([(17, 3, 3), (18, 0, 55)], []), [(.inr none, 249, ([], [], []))])
set_option maxRecDepth 100000 in
theorem pl_s7_s {X : Int → Int} {LX : Nat} : ck_Ok p2_OL X LX 58 pl_s7 := ck_ok_s (O := p2_OL) (X := X) (LX := LX) (E := []) (mi := 58) (cuts := []) (f := 114) (S := pl_s7) (lx := none) (XF := []) ⟨pl_nmu, ck_E0⟩ ck_X0 ck_l0 (by decide +kernel)
set_option maxRecDepth 100000 in
/-- GlacierMail$Rows.copyFrom -/
noncomputable def pl_s8 : ck_Sum := ((1, 0, 0), 249, [.inr (.inr (.inl 19)), .inr (.inr (.inl 6))], ([], [], []), ([(19, 3, 3), (20, 0, 23)], []), [(.inr none, 249, ([], [], []))])
set_option maxRecDepth 100000 in
theorem pl_s8_s {X : Int → Int} {LX : Nat} : ck_Ok p2_OL X LX 58 pl_s8 := ck_ok_s (O := p2_OL) (X := X) (LX := LX) (E := []) (mi := 58) (cuts := []) (f := 114) (S := pl_s8) (lx := none) (XF := []) ⟨pl_nmu, ck_E0⟩ ck_X0 ck_l0 (by decide +kernel)
set_option maxRecDepth 100000 in
/-- GlacierMail$Rows.copyFrom -/
noncomputable def pl_s9 : ck_Sum := ((1, 0, 0), 249, [.inr (.inr (.inl 21)), .inr (.inr (.inl 8))], ([], [], []), ([(21, 3, 3), (22, 0, 23)], []), [(.inr none, 249, ([], [], []))])
set_option maxRecDepth 100000 in
theorem pl_s9_s {X : Int → Int} {LX : Nat} : ck_Ok p2_OL X LX 58 pl_s9 := ck_ok_s (O := p2_OL) (X := X) (LX := LX) (E := []) (mi := 58) (cuts := []) (f := 114) (S := pl_s9) (lx := none) (XF := []) ⟨pl_nmu, ck_E0⟩ ck_X0 ck_l0 (by decide +kernel)
set_option maxRecDepth 100000 in
/-- GlacierMail$Rows.copyFrom -/
noncomputable def pl_s10 : ck_Sum := ((1, 0, 0), 249, [.inr (.inr (.inl 23)), .inr (.inr (.inl 10))], ([], [], []), ([(23, 3, 3), (24, 0, 167)], []), [(.inr none, 249, ([], [], []))])
set_option maxRecDepth 100000 in
theorem pl_s10_s {X : Int → Int} {LX : Nat} : ck_Ok p2_OL X LX 58 pl_s10 := ck_ok_s (O := p2_OL) (X := X) (LX := LX) (E := []) (mi := 58) (cuts := []) (f := 114) (S := pl_s10) (lx := none) (XF := []) ⟨pl_nmu, ck_E0⟩ ck_X0 ck_l0 (by decide +kernel)
set_option maxRecDepth 100000 in
/-- GlacierMail$Rows.copyFrom -/
noncomputable def pl_s11 : ck_Sum := ((1, 0, 0), 249, [.inr (.inr (.inl 25)), .inr (.inr (.inl 12))], ([], [], []), ([(25, 3, 3), (26, 0, 35)], []), [(.inr none, 249, ([], [], []))])
set_option maxRecDepth 100000 in
theorem pl_s11_s {X : Int → Int} {LX : Nat} : ck_Ok p2_OL X LX 58 pl_s11 := ck_ok_s (O := p2_OL) (X := X) (LX := LX) (E := []) (mi := 58) (cuts := []) (f := 114) (S := pl_s11) (lx := none) (XF := []) ⟨pl_nmu, ck_E0⟩ ck_X0 ck_l0 (by decide +kernel)
set_option maxRecDepth 100000 in
/-- GlacierMail$Rows.copyFrom -/
noncomputable def pl_s12 : ck_Sum := ((1, 0, 0), 249, [.inr (.inr (.inl 27)), .inr (.inr (.inl 14))], ([], [], []), ([(27, 3, 3), (28, 0, 71)], []), [(.inr none, 249, ([], [], []))])
set_option maxRecDepth 100000 in
theorem pl_s12_s {X : Int → Int} {LX : Nat} : ck_Ok p2_OL X LX 58 pl_s12 := ck_ok_s (O := p2_OL) (X := X) (LX := LX) (E := []) (mi := 58) (cuts := []) (f := 114) (S := pl_s12) (lx := none) (XF := []) ⟨pl_nmu, ck_E0⟩ ck_X0 ck_l0 (by decide +kernel)
set_option maxRecDepth 100000 in
/-- GlacierMail$State.copyFrom -/
noncomputable def pl_s13 : ck_Sum := ((2, 0, 0), 249, [.inr (.inr (.inl 16)), .inr (.inr (.inl 3))], ([], [(3, 8, 246), (16, 8, 100016)], [(3, 6, 6, (0, 299, [(10, 0)]))]), (zl0, [(16, 8)]), [(.inr none, 249, ([], [(16, 8, 246)], [(16, 6, 6, (0, 299, [(10, 0)]))]))])
set_option maxRecDepth 100000 in
theorem pl_s13_s {X : Int → Int} {LX : Nat} : ck_Ok p2_OL X LX 57 pl_s13 := ck_ok_s (O := p2_OL) (X := X) (LX := LX) (E := [(58, [pl_s7, pl_s8, pl_s9, pl_s10, pl_s11, pl_s12])]) (mi := 57) (cuts := []) (f := 204) (S := pl_s13) (lx := none) (XF := []) ⟨pl_nmu, ck_E1 (ck_S1 pl_s7_s (ck_S1 pl_s8_s (ck_S1 pl_s9_s (ck_S1 pl_s10_s (ck_S1 pl_s11_s (ck_S1 pl_s12_s ck_S0)))))) ck_E0⟩ ck_X0 ck_l0 (by decide +kernel)
set_option maxRecDepth 100000 in
/-- GlacierMail$Rows.copyFrom -/
noncomputable def pl_s14 : ck_Sum := ((1, 0, 0), 249, [.inr (.inr (.inl 4)), .inr (.inr (.inl 17))], ([], [], []), ([(4, 3, 3), (5, 0, 55)], []), [(.inr none, 249, ([], [], []))])
set_option maxRecDepth 100000 in
theorem pl_s14_s {X : Int → Int} {LX : Nat} : ck_Ok p2_OL X LX 58 pl_s14 := ck_ok_s (O := p2_OL) (X := X) (LX := LX) (E := []) (mi := 58) (cuts := []) (f := 114) (S := pl_s14) (lx := none) (XF := []) ⟨pl_nmu, ck_E0⟩ ck_X0 ck_l0 (by decide +kernel)
set_option maxRecDepth 100000 in
/-- GlacierMail$Rows.copyFrom -/
noncomputable def pl_s15 : ck_Sum := ((1, 0, 0), 249, [.inr (.inr (.inl 6)), .inr (.inr (.inl 19))], ([], [], []), ([(6, 3, 3), (7, 0, 23)], []), [(.inr none, 249, ([], [], []))])
set_option maxRecDepth 100000 in
theorem pl_s15_s {X : Int → Int} {LX : Nat} : ck_Ok p2_OL X LX 58 pl_s15 := ck_ok_s (O := p2_OL) (X := X) (LX := LX) (E := []) (mi := 58) (cuts := []) (f := 114) (S := pl_s15) (lx := none) (XF := []) ⟨pl_nmu, ck_E0⟩ ck_X0 ck_l0 (by decide +kernel)
set_option maxRecDepth 100000 in
/-- GlacierMail$Rows.copyFrom -/
noncomputable def pl_s16 : ck_Sum := ((1, 0, 0), 249, [.inr (.inr (.inl 8)), .inr (.inr (.inl 21))], ([], [], []), ([(8, 3, 3), (9, 0, 23)], []), [(.inr none, 249, ([], [], []))])
set_option maxRecDepth 100000 in
theorem pl_s16_s {X : Int → Int} {LX : Nat} : ck_Ok p2_OL X LX 58 pl_s16 := ck_ok_s (O := p2_OL) (X := X) (LX := LX) (E := []) (mi := 58) (cuts := []) (f := 114) (S := pl_s16) (lx := none) (XF := []) ⟨pl_nmu, ck_E0⟩ ck_X0 ck_l0 (by decide +kernel)
set_option maxRecDepth 100000 in
/-- GlacierMail$Rows.copyFrom -/
noncomputable def pl_s17 : ck_Sum := ((1, 0, 0), 249, [.inr (.inr (.inl 10)), .inr (.inr (.inl 23))], ([], [], []), ([(10, 3, 3), (11, 0, 167)], []), [(.inr none, 249, ([], [], []))])
set_option maxRecDepth 100000 in
theorem pl_s17_s {X : Int → Int} {LX : Nat} : ck_Ok p2_OL X LX 58 pl_s17 := ck_ok_s (O := p2_OL) (X := X) (LX := LX) (E := []) (mi := 58) (cuts := []) (f := 114) (S := pl_s17) (lx := none) (XF := []) ⟨pl_nmu, ck_E0⟩ ck_X0 ck_l0 (by decide +kernel)
set_option maxRecDepth 100000 in
/-- GlacierMail$Rows.copyFrom -/
noncomputable def pl_s18 : ck_Sum := ((1, 0, 0), 249, [.inr (.inr (.inl 12)), .inr (.inr (.inl 25))], ([], [], []), ([(12, 3, 3), (13, 0, 35)], []), [(.inr none, 249, ([], [], []))])
set_option maxRecDepth 100000 in
theorem pl_s18_s {X : Int → Int} {LX : Nat} : ck_Ok p2_OL X LX 58 pl_s18 := ck_ok_s (O := p2_OL) (X := X) (LX := LX) (E := []) (mi := 58) (cuts := []) (f := 114) (S := pl_s18) (lx := none) (XF := []) ⟨pl_nmu, ck_E0⟩ ck_X0 ck_l0 (by decide +kernel)
set_option maxRecDepth 100000 in
/-- GlacierMail$Rows.copyFrom -/
noncomputable def pl_s19 : ck_Sum := ((1, 0, 0), 249, [.inr (.inr (.inl 14)), .inr (.inr (.inl 27))], ([], [], []), ([(14, 3, 3), (15, 0, 71)], []), [(.inr none, 249, ([], [], []))])
set_option maxRecDepth 100000 in
theorem pl_s19_s {X : Int → Int} {LX : Nat} : ck_Ok p2_OL X LX 58 pl_s19 := ck_ok_s (O := p2_OL) (X := X) (LX := LX) (E := []) (mi := 58) (cuts := []) (f := 114) (S := pl_s19) (lx := none) (XF := []) ⟨pl_nmu, ck_E0⟩ ck_X0 ck_l0 (by decide +kernel)
set_option maxRecDepth 100000 in
/-- GlacierMail$State.copyFrom -/
noncomputable def pl_s20 : ck_Sum := ((2, 0, 0), 249, [.inr (.inr (.inl 3)), .inr (.inr (.inl 16))], ([], [(3, 8, 246), (16, 8, 246)], []), (zl1, [(3, 8)]), [(.inr none, 249, ([], [(3, 8, 246)], []))])
set_option maxRecDepth 100000 in
theorem pl_s20_s {X : Int → Int} {LX : Nat} : ck_Ok p2_OL X LX 57 pl_s20 := ck_ok_s (O := p2_OL) (X := X) (LX := LX) (E := [(58, [pl_s14, pl_s15, pl_s16, pl_s17, pl_s18, pl_s19])]) (mi := 57) (cuts := []) (f := 204) (S := pl_s20) (lx := none) (XF := []) ⟨pl_nmu, ck_E1 (ck_S1 pl_s14_s (ck_S1 pl_s15_s (ck_S1 pl_s16_s (ck_S1 pl_s17_s (ck_S1 pl_s18_s (ck_S1 pl_s19_s ck_S0)))))) ck_E0⟩ ck_X0 ck_l0 (by decide +kernel)
set_option maxRecDepth 100000 in
/-- GlacierMail$ValleyReader.clear -/
noncomputable def pl_s21 : ck_Sum := ((0, 0, 0), 249, [.inr (.inr (.inl 213))], ([], [], []), ([], []), [(.inr none, 249, ([], [], []))])
set_option maxRecDepth 100000 in
theorem pl_s21_s {X : Int → Int} {LX : Nat} : ck_Ok p2_OL X LX 74 pl_s21 := ck_ok_s (O := p2_OL) (X := X) (LX := LX) (E := []) (mi := 74) (cuts := []) (f := 72) (S := pl_s21) (lx := none) (XF := []) ⟨pl_nmu, ck_E0⟩ ck_X0 ck_l0 (by decide +kernel)
set_option maxRecDepth 100000 in
/-- GlacierMail$Words.isSmall -/
noncomputable def pl_s22 : ck_Sum := ((0, 0, 0), 249, [.inl ((-128), 127, [])], ([], [], []), ([], []), [(.inr (some (.inl (ck_one 0))), 249, ([], [], [])), (.inr (some (.inl (ck_one 1))), 249, ([], [], []))])
set_option maxRecDepth 100000 in
theorem pl_s22_s {X : Int → Int} {LX : Nat} : ck_Ok p2_OL X LX 77 pl_s22 := ck_ok_s (O := p2_OL) (X := X) (LX := LX) (E := []) (mi := 77) (cuts := []) (f := 88) (S := pl_s22) (lx := none) (XF := []) ⟨pl_nmu, ck_E0⟩ ck_X0 ck_l0 (by decide +kernel)
set_option maxRecDepth 100000 in
/-- GlacierMail$Words.isDigit -/
noncomputable def pl_s23 : ck_Sum := ((0, 0, 0), 249, [.inl ((-128), 127, [])], ([], [], []), ([], []), [(.inr (some (.inl (ck_one 0))), 249, ([], [], [])), (.inr (some (.inl (ck_one 1))), 249, ([], [], []))])
set_option maxRecDepth 100000 in
theorem pl_s23_s {X : Int → Int} {LX : Nat} : ck_Ok p2_OL X LX 78 pl_s23 := ck_ok_s (O := p2_OL) (X := X) (LX := LX) (E := []) (mi := 78) (cuts := []) (f := 88) (S := pl_s23) (lx := none) (XF := []) ⟨pl_nmu, ck_E0⟩ ck_X0 ck_l0 (by decide +kernel)
set_option maxRecDepth 100000 in
/-- GlacierMail$Words.next -/
noncomputable def pl_s24 : ck_Sum := ((1, 0, 0), 249, [.inr (.inr (.inl 214))], ([], [], [(214, 3, 3, (0, 400, [(12, 0)]))]), ([(214, 3, 4), (214, 6, 7)], []), [(.inr none, 249, ([], [], [(214, 3, 3, (0, 400, [(1000012, 0)]))]))])
set_option maxRecDepth 100000 in
theorem pl_s24_s {X : Int → Int} {LX : Nat} : ck_Ok p2_OL X LX 76 pl_s24 := ck_ok_s (O := p2_OL) (X := X) (LX := LX) (E := [(77, [pl_s22]), (78, [pl_s23])]) (mi := 76) (cuts := [(0, [some (.inr (.inr (.inl 214))), none], ([], [], [(214, 3, 3, (0, 400, [(1000012, 0)]))]), 100, .inr (214, 3), true), (160, [some (.inr (.inr (.inl 214))), none], ([], [], [(214, 6, 6, ck_one 258), (214, 2, 2, (1, 400, [])), (214, 3, 3, (0, 400, [(1000100, 0), (1000012, 0)])), (214, 4, 4, (0, 400, [(100, 0)]))]), 300, .inr (214, 3), true), (94, [some (.inr (.inr (.inl 214))), none], ([], [], [(214, 6, 6, ck_one 257), (214, 2, 2, (1, 400, [])), (214, 3, 3, (0, 400, [(1000100, 0), (1000012, 0)])), (214, 7, 7, ck_one (-1)), (214, 4, 4, (0, 400, [(100, 0), (1000012, 0)]))]), 500, .inr (214, 3), true)]) (f := 562) (S := pl_s24) (lx := none) (XF := []) ⟨pl_nmu, ck_E1 (ck_S1 pl_s22_s ck_S0) (ck_E1 (ck_S1 pl_s23_s ck_S0) ck_E0)⟩ ck_X0 ck_l0 (by decide +kernel)
set_option maxRecDepth 100000 in
/-- GlacierMail$Words.start -/
noncomputable def pl_s25 : ck_Sum := ((2, 0, 0), 249, [.inr (.inr (.inl 214)), .inl (0, 400, [])], ([], [], [(214, 3, 3, (0, 400, [(12, 0)]))]), ([(214, 2, 7)], []), [(.inr none, 249, ([], [], [(214, 5, 5, ck_one (-1))]))])
set_option maxRecDepth 100000 in
theorem pl_s25_s {X : Int → Int} {LX : Nat} : ck_Ok p2_OL X LX 75 pl_s25 := ck_ok_s (O := p2_OL) (X := X) (LX := LX) (E := [(76, [pl_s24])]) (mi := 75) (cuts := []) (f := 102) (S := pl_s25) (lx := none) (XF := []) ⟨pl_nmu, ck_E1 (ck_S1 pl_s24_s ck_S0) ck_E0⟩ ck_X0 ck_l0 (by decide +kernel)
set_option maxRecDepth 100000 in
/-- GlacierMail$Words.refuse -/
noncomputable def pl_s26 : ck_Sum := ((0, 0, 0), 249, [.inr (.inr (.inl 214))], ([], [], []), ([(214, 5, 5)], []), [(.inr (some (.inl (ck_one 0))), 249, ([], [], [(214, 5, 5, (0, 400, []))]))])
set_option maxRecDepth 100000 in
theorem pl_s26_s {X : Int → Int} {LX : Nat} : ck_Ok p2_OL X LX 93 pl_s26 := ck_ok_s (O := p2_OL) (X := X) (LX := LX) (E := []) (mi := 93) (cuts := []) (f := 90) (S := pl_s26) (lx := none) (XF := []) ⟨pl_nmu, ck_E0⟩ ck_X0 ck_l0 (by decide +kernel)
set_option maxRecDepth 100000 in
/-- GlacierMail$Words.wrong -/
noncomputable def pl_s27 : ck_Sum := ((0, 0, 0), 249, [.inr (.inr (.inl 214))], ([], [], []), ([], []), zl217)
set_option maxRecDepth 100000 in
theorem pl_s27_s {X : Int → Int} {LX : Nat} : ck_Ok p2_OL X LX 121 pl_s27 := ck_ok_s (O := p2_OL) (X := X) (LX := LX) (E := []) (mi := 121) (cuts := []) (f := 76) (S := pl_s27) (lx := none) (XF := []) ⟨pl_nmu, ck_E0⟩ ck_X0 ck_l0 (by decide +kernel)
set_option maxRecDepth 100000 in
/-- GlacierMail$Words.isWord -/
noncomputable def pl_s28 : ck_Sum := ((6, 0, 0), 249, [.inr (.inr (.inl 214)), .inr (.inr (.inr 17))], ([], [], [(214, 3, 3, (0, 400, [(12, 0)]))]), ([], []), zl218)
set_option maxRecDepth 100000 in
theorem pl_s28_s {X : Int → Int} {LX : Nat} : ck_Ok p2_OL X LX 81 pl_s28 := ck_ok_s (O := p2_OL) (X := X) (LX := LX) (E := []) (mi := 81) (cuts := []) (f := 360) (S := pl_s28) (lx := none) (XF := []) ⟨pl_nmu, ck_E0⟩ ck_X0 ck_l0 (by decide +kernel)
set_option maxRecDepth 100000 in
/-- GlacierMail$Words.isWord -/
noncomputable def pl_s29 : ck_Sum := ((6, 0, 0), 249, [.inr (.inr (.inl 214)), .inr (.inr (.inr 18))], ([], [], [(214, 3, 3, (0, 400, [(12, 0)]))]), ([], []), zl219)
set_option maxRecDepth 100000 in
theorem pl_s29_s {X : Int → Int} {LX : Nat} : ck_Ok p2_OL X LX 81 pl_s29 := ck_ok_s (O := p2_OL) (X := X) (LX := LX) (E := []) (mi := 81) (cuts := []) (f := 310) (S := pl_s29) (lx := none) (XF := []) ⟨pl_nmu, ck_E0⟩ ck_X0 ck_l0 (by decide +kernel)
set_option maxRecDepth 100000 in
/-- GlacierMail$Words.isWord -/
noncomputable def pl_s30 : ck_Sum := ((6, 0, 0), 249, [.inr (.inr (.inl 214)), .inr (.inr (.inr 19))], ([], [], [(214, 3, 3, (0, 400, [(12, 0)]))]), ([], []), [(.inr (some (.inl (ck_one 0))), 249, ([], [], [])), (.inr (some (.inl (ck_one 1))), 249, ([], [], zl5))])
set_option maxRecDepth 100000 in
theorem pl_s30_s {X : Int → Int} {LX : Nat} : ck_Ok p2_OL X LX 81 pl_s30 := ck_ok_s (O := p2_OL) (X := X) (LX := LX) (E := []) (mi := 81) (cuts := []) (f := 460) (S := pl_s30) (lx := none) (XF := []) ⟨pl_nmu, ck_E0⟩ ck_X0 ck_l0 (by decide +kernel)
set_option maxRecDepth 100000 in
/-- GlacierMail$Words.isWord -/
noncomputable def pl_s31 : ck_Sum := ((6, 0, 0), 249, [.inr (.inr (.inl 214)), .inr (.inr (.inr 20))], ([], [], [(214, 3, 3, (0, 400, [(12, 0)]))]), ([], []), zl219)
set_option maxRecDepth 100000 in
theorem pl_s31_s {X : Int → Int} {LX : Nat} : ck_Ok p2_OL X LX 81 pl_s31 := ck_ok_s (O := p2_OL) (X := X) (LX := LX) (E := []) (mi := 81) (cuts := []) (f := 310) (S := pl_s31) (lx := none) (XF := []) ⟨pl_nmu, ck_E0⟩ ck_X0 ck_l0 (by decide +kernel)
set_option maxRecDepth 100000 in
/-- GlacierMail$Words.isWord -/
noncomputable def pl_s32 : ck_Sum := ((6, 0, 0), 249, [.inr (.inr (.inl 214)), .inr (.inr (.inr 22))], ([], [], [(214, 3, 3, (0, 400, [(12, 0)]))]), ([], []), zl220)
set_option maxRecDepth 100000 in
theorem pl_s32_s {X : Int → Int} {LX : Nat} : ck_Ok p2_OL X LX 81 pl_s32 := ck_ok_s (O := p2_OL) (X := X) (LX := LX) (E := []) (mi := 81) (cuts := []) (f := 410) (S := pl_s32) (lx := none) (XF := []) ⟨pl_nmu, ck_E0⟩ ck_X0 ck_l0 (by decide +kernel)
set_option maxRecDepth 100000 in
/-- GlacierMail$Words.isWord -/
noncomputable def pl_s33 : ck_Sum := ((6, 0, 0), 249, [.inr (.inr (.inl 214)), .inr (.inr (.inr 23))], ([], [], [(214, 3, 3, (0, 400, [(12, 0)]))]), ([], []), zl219)
set_option maxRecDepth 100000 in
theorem pl_s33_s {X : Int → Int} {LX : Nat} : ck_Ok p2_OL X LX 81 pl_s33 := ck_ok_s (O := p2_OL) (X := X) (LX := LX) (E := []) (mi := 81) (cuts := []) (f := 310) (S := pl_s33) (lx := none) (XF := []) ⟨pl_nmu, ck_E0⟩ ck_X0 ck_l0 (by decide +kernel)
set_option maxRecDepth 100000 in
/-- GlacierMail$Words.isWord -/
noncomputable def pl_s34 : ck_Sum := ((6, 0, 0), 249, [.inr (.inr (.inl 214)), .inr (.inr (.inr 24))], ([], [], [(214, 3, 3, (0, 400, [(12, 0)]))]), ([], []), zl218)
set_option maxRecDepth 100000 in
theorem pl_s34_s {X : Int → Int} {LX : Nat} : ck_Ok p2_OL X LX 81 pl_s34 := ck_ok_s (O := p2_OL) (X := X) (LX := LX) (E := []) (mi := 81) (cuts := []) (f := 360) (S := pl_s34) (lx := none) (XF := []) ⟨pl_nmu, ck_E0⟩ ck_X0 ck_l0 (by decide +kernel)
set_option maxRecDepth 100000 in
/-- GlacierMail$Words.isWord -/
noncomputable def pl_s35 : ck_Sum := ((6, 0, 0), 249, [.inr (.inr (.inl 214)), .inr (.inr (.inr 25))], ([], [], [(214, 3, 3, (0, 400, [(12, 0)]))]), ([], []), zl220)
set_option maxRecDepth 100000 in
theorem pl_s35_s {X : Int → Int} {LX : Nat} : ck_Ok p2_OL X LX 81 pl_s35 := ck_ok_s (O := p2_OL) (X := X) (LX := LX) (E := []) (mi := 81) (cuts := []) (f := 410) (S := pl_s35) (lx := none) (XF := []) ⟨pl_nmu, ck_E0⟩ ck_X0 ck_l0 (by decide +kernel)
set_option maxRecDepth 100000 in
/-- GlacierMail$Words.isWord -/
noncomputable def pl_s36 : ck_Sum := ((6, 0, 0), 249, [.inr (.inr (.inl 214)), .inr (.inr (.inr 27))], ([], [], [(214, 3, 3, (0, 400, [(12, 0)]))]), ([], []), zl219)
set_option maxRecDepth 100000 in
theorem pl_s36_s {X : Int → Int} {LX : Nat} : ck_Ok p2_OL X LX 81 pl_s36 := ck_ok_s (O := p2_OL) (X := X) (LX := LX) (E := []) (mi := 81) (cuts := []) (f := 310) (S := pl_s36) (lx := none) (XF := []) ⟨pl_nmu, ck_E0⟩ ck_X0 ck_l0 (by decide +kernel)
set_option maxRecDepth 100000 in
/-- GlacierMail$Words.isWord -/
noncomputable def pl_s37 : ck_Sum := ((6, 0, 0), 249, [.inr (.inr (.inl 214)), .inr (.inr (.inr 28))], ([], [], [(214, 3, 3, (0, 400, [(12, 0)]))]), ([], []), zl218)
set_option maxRecDepth 100000 in
theorem pl_s37_s {X : Int → Int} {LX : Nat} : ck_Ok p2_OL X LX 81 pl_s37 := ck_ok_s (O := p2_OL) (X := X) (LX := LX) (E := []) (mi := 81) (cuts := []) (f := 360) (S := pl_s37) (lx := none) (XF := []) ⟨pl_nmu, ck_E0⟩ ck_X0 ck_l0 (by decide +kernel)
set_option maxRecDepth 100000 in
/-- GlacierMail$Rows.isFull -/
noncomputable def pl_s38 : ck_Sum := ((0, 0, 0), 249, [.inr (.inr (.inl 25))], ([], [], []), ([], []), [(.inr (some (.inl (ck_one 0))), 249, ([], [], [(25, 3, 3, (0, 5, []))])), (.inr (some (.inl (ck_one 1))), 249, ([], [], [(25, 3, 3, ck_one 6)]))])
set_option maxRecDepth 100000 in
theorem pl_s38_s {X : Int → Int} {LX : Nat} : ck_Ok p2_OL X LX 108 pl_s38 := ck_ok_s (O := p2_OL) (X := X) (LX := LX) (E := []) (mi := 108) (cuts := []) (f := 86) (S := pl_s38) (lx := none) (XF := []) ⟨pl_nmu, ck_E0⟩ ck_X0 ck_l0 (by decide +kernel)
set_option maxRecDepth 100000 in
/-- GlacierMail$Rows.add -/
noncomputable def pl_s39 : ck_Sum := ((0, 0, 0), 249, [.inr (.inr (.inl 25))], ([], [], []), ([(25, 3, 3)], []), [(.inr (some (.inl (0, 5, []))), 249, ([], [], [(25, 3, 3, (1, 6, []))])), (.inr (some (.inl (ck_one (-1)))), 249, ([], [], [(25, 3, 3, ck_one 6)]))])
set_option maxRecDepth 100000 in
theorem pl_s39_s {X : Int → Int} {LX : Nat} : ck_Ok p2_OL X LX 102 pl_s39 := ck_ok_s (O := p2_OL) (X := X) (LX := LX) (E := []) (mi := 102) (cuts := []) (f := 102) (S := pl_s39) (lx := none) (XF := []) ⟨pl_nmu, ck_E0⟩ ck_X0 ck_l0 (by decide +kernel)
set_option maxRecDepth 100000 in
/-- GlacierMail$Words.needNumber -/
noncomputable def pl_s40 : ck_Sum := ((2, 0, 0), 249, [.inr (.inr (.inl 214)), .inl (ck_one 0), .inl (ck_one 20)], ([], [], [(214, 3, 3, (0, 400, [(12, 0)]))]), ([(214, 3, 7)], []), [(.inr (some (.inl (ck_one (-1)))), 249, ([], [], zl7)), (.inr (some (.inl (0, 20, []))), 249, ([], [], [(214, 3, 3, (0, 400, [(1000012, 0)]))]))])
set_option maxRecDepth 100000 in
theorem pl_s40_s {X : Int → Int} {LX : Nat} : ck_Ok p2_OL X LX 94 pl_s40 := ck_ok_s (O := p2_OL) (X := X) (LX := LX) (E := [(93, [pl_s26]), (76, [pl_s24])]) (mi := 94) (cuts := []) (f := 106) (S := pl_s40) (lx := none) (XF := []) ⟨pl_nmu, ck_E1 (ck_S1 pl_s26_s ck_S0) (ck_E1 (ck_S1 pl_s24_s ck_S0) ck_E0)⟩ ck_X0 ck_l0 (by decide +kernel)
set_option maxRecDepth 100000 in
/-- GlacierMail$Rows.put -/
noncomputable def pl_s41 : ck_Sum := ((0, 0, 0), 249, [.inr (.inr (.inl 25)), .inl (0, 5, []), .inl (0, 5, []), .inl (0, 20, [])], ([], [], []), ([(26, 0, 35)], []), [(.inr none, 249, ([], [], []))])
set_option maxRecDepth 100000 in
theorem pl_s41_s {X : Int → Int} {LX : Nat} : ck_Ok p2_OL X LX 45 pl_s41 := ck_ok_s (O := p2_OL) (X := X) (LX := LX) (E := []) (mi := 45) (cuts := []) (f := 116) (S := pl_s41) (lx := none) (XF := []) ⟨pl_nmu, ck_E0⟩ ck_X0 ck_l0 (by decide +kernel)
set_option maxRecDepth 100000 in
/-- GlacierMail$ValleyReader.readSpeeds -/
noncomputable def pl_s42 : ck_Sum := ((3, 0, 0), 249, [.inr (.inr (.inl 213)), .inr (.inr (.inl 25)), .inl (0, 5, []), .inl (ck_one 0)], ([], [], [(214, 3, 3, (0, 400, [(12, 0)]))]), ([(26, 0, 35), (214, 3, 7)], []), zl221)
set_option maxRecDepth 100000 in
theorem pl_s42_s {X : Int → Int} {LX : Nat} : ck_Ok p2_OL X LX 109 pl_s42 := ck_ok_s (O := p2_OL) (X := X) (LX := LX) (E := [(94, [pl_s40]), (45, [pl_s41])]) (mi := 109) (cuts := [(3, [some (.inr (.inr (.inl 213))), some (.inr (.inr (.inl 25))), some (.inl (0, 5, [])), some (.inl (ck_one 0)), some (.inl (0, 6, [])), none], ([], [], [(214, 3, 3, (0, 400, [(1000012, 0)]))]), 100, .inl 4, true)]) (f := 186) (S := pl_s42) (lx := none) (XF := []) ⟨pl_nmu, ck_E1 (ck_S1 pl_s40_s ck_S0) (ck_E1 (ck_S1 pl_s41_s ck_S0) ck_E0)⟩ ck_X0 ck_l0 (by decide +kernel)
set_option maxRecDepth 100000 in
/-- GlacierMail$Rows.put -/
noncomputable def pl_s43 : ck_Sum := ((0, 0, 0), 249, [.inr (.inr (.inl 25)), .inl (ck_one (-1)), .inl (0, 5, []), .inl (0, 20, [])], ([], [], []), ([], []), [(.inr none, 249, ([], [], []))])
set_option maxRecDepth 100000 in
theorem pl_s43_s {X : Int → Int} {LX : Nat} : ck_Ok p2_OL X LX 45 pl_s43 := ck_ok_s (O := p2_OL) (X := X) (LX := LX) (E := []) (mi := 45) (cuts := []) (f := 76) (S := pl_s43) (lx := none) (XF := []) ⟨pl_nmu, ck_E0⟩ ck_X0 ck_l0 (by decide +kernel)
set_option maxRecDepth 100000 in
/-- GlacierMail$ValleyReader.readSpeeds -/
noncomputable def pl_s44 : ck_Sum := ((3, 0, 0), 249, [.inr (.inr (.inl 213)), .inr (.inr (.inl 25)), .inl (ck_one (-1)), .inl (ck_one 0)], ([], [], [(214, 3, 3, (0, 400, [(12, 0)]))]), ([(214, 3, 7)], []), zl221)
set_option maxRecDepth 100000 in
theorem pl_s44_s {X : Int → Int} {LX : Nat} : ck_Ok p2_OL X LX 109 pl_s44 := ck_ok_s (O := p2_OL) (X := X) (LX := LX) (E := [(94, [pl_s40]), (45, [pl_s43])]) (mi := 109) (cuts := [(3, [some (.inr (.inr (.inl 213))), some (.inr (.inr (.inl 25))), some (.inl (ck_one (-1))), some (.inl (ck_one 0)), some (.inl (0, 6, [])), none], ([], [], [(214, 3, 3, (0, 400, [(1000012, 0)]))]), 100, .inl 4, true)]) (f := 186) (S := pl_s44) (lx := none) (XF := []) ⟨pl_nmu, ck_E1 (ck_S1 pl_s40_s ck_S0) (ck_E1 (ck_S1 pl_s43_s ck_S0) ck_E0)⟩ ck_X0 ck_l0 (by decide +kernel)
set_option maxRecDepth 100000 in
/-- GlacierMail$ValleyReader.readTable -/
noncomputable def pl_s45 : ck_Sum := ((4, 0, 0), 249, [.inr (.inr (.inl 213))], ([], [], [(214, 3, 3, (0, 400, [(12, 0)]))]), ([(25, 3, 3), (26, 0, 35), (214, 3, 7)], []), [(.inr (some (.inl (ck_one 1))), 249, ([], [], zl9)), (.inr (some (.inl (ck_one 0))), 249, ([], [], zl10))])
set_option maxRecDepth 100000 in
theorem pl_s45_s {X : Int → Int} {LX : Nat} : ck_Ok p2_OL X LX 120 pl_s45 := ck_ok_s (O := p2_OL) (X := X) (LX := LX) (E := [(108, [pl_s38]), (76, [pl_s24]), (102, [pl_s39]), (109, [pl_s42, pl_s44]), (93, [pl_s26])]) (mi := 120) (cuts := []) (f := 108) (S := pl_s45) (lx := none) (XF := []) ⟨pl_nmu, ck_E1 (ck_S1 pl_s38_s ck_S0) (ck_E1 (ck_S1 pl_s24_s ck_S0) (ck_E1 (ck_S1 pl_s39_s ck_S0) (ck_E1 (ck_S1 pl_s42_s (ck_S1 pl_s44_s ck_S0)) (ck_E1 (ck_S1 pl_s26_s ck_S0) ck_E0))))⟩ ck_X0 ck_l0 (by decide +kernel)
set_option maxRecDepth 100000 in
/-- GlacierMail$Rows.isFull -/
noncomputable def pl_s46 : ck_Sum := ((0, 0, 0), 249, [.inr (.inr (.inl 23))], ([], [], []), ([], []), [(.inr (some (.inl (ck_one 0))), 249, ([], [], [(23, 3, 3, (0, 23, []))])), (.inr (some (.inl (ck_one 1))), 249, ([], [], [(23, 3, 3, ck_one 24)]))])
set_option maxRecDepth 100000 in
theorem pl_s46_s {X : Int → Int} {LX : Nat} : ck_Ok p2_OL X LX 108 pl_s46 := ck_ok_s (O := p2_OL) (X := X) (LX := LX) (E := []) (mi := 108) (cuts := []) (f := 86) (S := pl_s46) (lx := none) (XF := []) ⟨pl_nmu, ck_E0⟩ ck_X0 ck_l0 (by decide +kernel)
set_option maxRecDepth 100000 in
/-- GlacierMail$Words.needNumber -/
noncomputable def pl_s47 : ck_Sum := ((2, 0, 0), 249, [.inr (.inr (.inl 214)), .inl (ck_one 0), .inl (0, 5, [])], ([], [], [(214, 3, 3, (0, 400, [(12, 0)]))]), ([(214, 3, 7)], []), zl222)
set_option maxRecDepth 100000 in
theorem pl_s47_s {X : Int → Int} {LX : Nat} : ck_Ok p2_OL X LX 94 pl_s47 := ck_ok_s (O := p2_OL) (X := X) (LX := LX) (E := [(93, [pl_s26]), (76, [pl_s24])]) (mi := 94) (cuts := []) (f := 106) (S := pl_s47) (lx := none) (XF := []) ⟨pl_nmu, ck_E1 (ck_S1 pl_s26_s ck_S0) (ck_E1 (ck_S1 pl_s24_s ck_S0) ck_E0)⟩ ck_X0 ck_l0 (by decide +kernel)
set_option maxRecDepth 100000 in
/-- GlacierMail$ValleyReader.readLane -/
noncomputable def pl_s48 : ck_Sum := ((3, 0, 0), 249, [.inr (.inr (.inl 213))], ([], [], [(214, 3, 3, (0, 400, [(12, 0)]))]), ([(214, 3, 7)], []), zl222)
set_option maxRecDepth 100000 in
theorem pl_s48_s {X : Int → Int} {LX : Nat} : ck_Ok p2_OL X LX 117 pl_s48 := ck_ok_s (O := p2_OL) (X := X) (LX := LX) (E := [(94, [pl_s47])]) (mi := 117) (cuts := []) (f := 90) (S := pl_s48) (lx := none) (XF := []) ⟨pl_nmu, ck_E1 (ck_S1 pl_s47_s ck_S0) ck_E0⟩ ck_X0 ck_l0 (by decide +kernel)
set_option maxRecDepth 100000 in
/-- GlacierMail$Words.needNumber -/
noncomputable def pl_s49 : ck_Sum := ((2, 0, 0), 249, [.inr (.inr (.inl 214)), .inl (ck_one 0), .inl (9, 98, [])], ([], [], [(214, 3, 3, (0, 400, [(12, 0)]))]), ([(214, 3, 7)], []), zl223)
set_option maxRecDepth 100000 in
theorem pl_s49_s {X : Int → Int} {LX : Nat} : ck_Ok p2_OL X LX 94 pl_s49 := ck_ok_s (O := p2_OL) (X := X) (LX := LX) (E := [(93, [pl_s26]), (76, [pl_s24])]) (mi := 94) (cuts := []) (f := 106) (S := pl_s49) (lx := none) (XF := []) ⟨pl_nmu, ck_E1 (ck_S1 pl_s26_s ck_S0) (ck_E1 (ck_S1 pl_s24_s ck_S0) ck_E0)⟩ ck_X0 ck_l0 (by decide +kernel)
set_option maxRecDepth 100000 in
/-- GlacierMail$ValleyReader.readRow -/
noncomputable def pl_s50 : ck_Sum := ((3, 0, 0), 249, [.inr (.inr (.inl 213))], ([], [], [(214, 3, 3, (0, 400, [(12, 0)]))]), ([(214, 3, 7)], []), zl223)
set_option maxRecDepth 100000 in
theorem pl_s50_s {X : Int → Int} {LX : Nat} : ck_Ok p2_OL X LX 111 pl_s50 := ck_ok_s (O := p2_OL) (X := X) (LX := LX) (E := [(94, [pl_s49])]) (mi := 111) (cuts := []) (f := 90) (S := pl_s50) (lx := none) (XF := []) ⟨pl_nmu, ck_E1 (ck_S1 pl_s49_s ck_S0) ck_E0⟩ ck_X0 ck_l0 (by decide +kernel)
set_option maxRecDepth 100000 in
/-- GlacierMail$Rows.add -/
noncomputable def pl_s51 : ck_Sum := ((0, 0, 0), 249, [.inr (.inr (.inl 23))], ([], [], []), ([(23, 3, 3)], []), zl224)
set_option maxRecDepth 100000 in
theorem pl_s51_s {X : Int → Int} {LX : Nat} : ck_Ok p2_OL X LX 102 pl_s51 := ck_ok_s (O := p2_OL) (X := X) (LX := LX) (E := []) (mi := 102) (cuts := []) (f := 102) (S := pl_s51) (lx := none) (XF := []) ⟨pl_nmu, ck_E0⟩ ck_X0 ck_l0 (by decide +kernel)
set_option maxRecDepth 100000 in
/-- GlacierMail$Rows.put -/
noncomputable def pl_s52 : ck_Sum := ((0, 0, 0), 249, [.inr (.inr (.inl 23)), .inl (0, 23, []), .inl (ck_one 0), .inl (ck_one (-1))], ([], [], []), (zl14, []), [(.inr none, 249, ([], [], []))])
set_option maxRecDepth 100000 in
theorem pl_s52_s {X : Int → Int} {LX : Nat} : ck_Ok p2_OL X LX 45 pl_s52 := ck_ok_s (O := p2_OL) (X := X) (LX := LX) (E := []) (mi := 45) (cuts := []) (f := 116) (S := pl_s52) (lx := none) (XF := []) ⟨pl_nmu, ck_E0⟩ ck_X0 ck_l0 (by decide +kernel)
set_option maxRecDepth 100000 in
/-- GlacierMail$Rows.put -/
noncomputable def pl_s53 : ck_Sum := ((0, 0, 0), 249, [.inr (.inr (.inl 23)), .inl (0, 23, []), .inl (ck_one 1), .inl (ck_one (-1))], ([], [], []), (zl15, []), [(.inr none, 249, ([], [], []))])
set_option maxRecDepth 100000 in
theorem pl_s53_s {X : Int → Int} {LX : Nat} : ck_Ok p2_OL X LX 45 pl_s53 := ck_ok_s (O := p2_OL) (X := X) (LX := LX) (E := []) (mi := 45) (cuts := []) (f := 116) (S := pl_s53) (lx := none) (XF := []) ⟨pl_nmu, ck_E0⟩ ck_X0 ck_l0 (by decide +kernel)
set_option maxRecDepth 100000 in
/-- GlacierMail$Rows.put -/
noncomputable def pl_s54 : ck_Sum := ((0, 0, 0), 249, [.inr (.inr (.inl 23)), .inl (0, 23, []), .inl (ck_one 2), .inl (0, 5, [])], ([], [], []), (zl16, []), [(.inr none, 249, ([], [], []))])
set_option maxRecDepth 100000 in
theorem pl_s54_s {X : Int → Int} {LX : Nat} : ck_Ok p2_OL X LX 45 pl_s54 := ck_ok_s (O := p2_OL) (X := X) (LX := LX) (E := []) (mi := 45) (cuts := []) (f := 116) (S := pl_s54) (lx := none) (XF := []) ⟨pl_nmu, ck_E0⟩ ck_X0 ck_l0 (by decide +kernel)
set_option maxRecDepth 100000 in
/-- GlacierMail$Rows.put -/
noncomputable def pl_s55 : ck_Sum := ((0, 0, 0), 249, [.inr (.inr (.inl 23)), .inl (0, 23, []), .inl (ck_one 3), .inl (0, 299, [])], ([], [], []), (zl17, []), [(.inr none, 249, ([], [], []))])
set_option maxRecDepth 100000 in
theorem pl_s55_s {X : Int → Int} {LX : Nat} : ck_Ok p2_OL X LX 45 pl_s55 := ck_ok_s (O := p2_OL) (X := X) (LX := LX) (E := []) (mi := 45) (cuts := []) (f := 116) (S := pl_s55) (lx := none) (XF := []) ⟨pl_nmu, ck_E0⟩ ck_X0 ck_l0 (by decide +kernel)
set_option maxRecDepth 100000 in
/-- GlacierMail$Rows.put -/
noncomputable def pl_s56 : ck_Sum := ((0, 0, 0), 249, [.inr (.inr (.inl 23)), .inl (0, 23, []), .inl (ck_one 4), .inl (0, 98, [])], ([], [], []), (zl18, []), [(.inr none, 249, ([], [], []))])
set_option maxRecDepth 100000 in
theorem pl_s56_s {X : Int → Int} {LX : Nat} : ck_Ok p2_OL X LX 45 pl_s56 := ck_ok_s (O := p2_OL) (X := X) (LX := LX) (E := []) (mi := 45) (cuts := []) (f := 116) (S := pl_s56) (lx := none) (XF := []) ⟨pl_nmu, ck_E0⟩ ck_X0 ck_l0 (by decide +kernel)
set_option maxRecDepth 100000 in
/-- GlacierMail$Rows.put -/
noncomputable def pl_s57 : ck_Sum := ((0, 0, 0), 249, [.inr (.inr (.inl 23)), .inl (0, 23, []), .inl (ck_one 5), .inl (ck_one (-1))], ([], [], []), (zl19, []), [(.inr none, 249, ([], [], []))])
set_option maxRecDepth 100000 in
theorem pl_s57_s {X : Int → Int} {LX : Nat} : ck_Ok p2_OL X LX 45 pl_s57 := ck_ok_s (O := p2_OL) (X := X) (LX := LX) (E := []) (mi := 45) (cuts := []) (f := 116) (S := pl_s57) (lx := none) (XF := []) ⟨pl_nmu, ck_E0⟩ ck_X0 ck_l0 (by decide +kernel)
set_option maxRecDepth 100000 in
/-- GlacierMail$Rows.put -/
noncomputable def pl_s58 : ck_Sum := ((0, 0, 0), 249, [.inr (.inr (.inl 23)), .inl (0, 23, []), .inl (ck_one 6), .inl (ck_one (-1))], ([], [], []), (zl20, []), [(.inr none, 249, ([], [], []))])
set_option maxRecDepth 100000 in
theorem pl_s58_s {X : Int → Int} {LX : Nat} : ck_Ok p2_OL X LX 45 pl_s58 := ck_ok_s (O := p2_OL) (X := X) (LX := LX) (E := []) (mi := 45) (cuts := []) (f := 116) (S := pl_s58) (lx := none) (XF := []) ⟨pl_nmu, ck_E0⟩ ck_X0 ck_l0 (by decide +kernel)
set_option maxRecDepth 100000 in
/-- GlacierMail$Rows.put -/
noncomputable def pl_s59 : ck_Sum := ((0, 0, 0), 249, [.inr (.inr (.inl 23)), .inl (ck_one (-1)), .inl (ck_one 0), .inl (ck_one (-1))], ([], [], []), ([], []), [(.inr none, 249, ([], [], []))])
set_option maxRecDepth 100000 in
theorem pl_s59_s {X : Int → Int} {LX : Nat} : ck_Ok p2_OL X LX 45 pl_s59 := ck_ok_s (O := p2_OL) (X := X) (LX := LX) (E := []) (mi := 45) (cuts := []) (f := 76) (S := pl_s59) (lx := none) (XF := []) ⟨pl_nmu, ck_E0⟩ ck_X0 ck_l0 (by decide +kernel)
set_option maxRecDepth 100000 in
/-- GlacierMail$Rows.put -/
noncomputable def pl_s60 : ck_Sum := ((0, 0, 0), 249, [.inr (.inr (.inl 23)), .inl (ck_one (-1)), .inl (ck_one 1), .inl (ck_one (-1))], ([], [], []), ([], []), [(.inr none, 249, ([], [], []))])
set_option maxRecDepth 100000 in
theorem pl_s60_s {X : Int → Int} {LX : Nat} : ck_Ok p2_OL X LX 45 pl_s60 := ck_ok_s (O := p2_OL) (X := X) (LX := LX) (E := []) (mi := 45) (cuts := []) (f := 76) (S := pl_s60) (lx := none) (XF := []) ⟨pl_nmu, ck_E0⟩ ck_X0 ck_l0 (by decide +kernel)
set_option maxRecDepth 100000 in
/-- GlacierMail$Rows.put -/
noncomputable def pl_s61 : ck_Sum := ((0, 0, 0), 249, [.inr (.inr (.inl 23)), .inl (ck_one (-1)), .inl (ck_one 2), .inl (0, 5, [])], ([], [], []), ([], []), [(.inr none, 249, ([], [], []))])
set_option maxRecDepth 100000 in
theorem pl_s61_s {X : Int → Int} {LX : Nat} : ck_Ok p2_OL X LX 45 pl_s61 := ck_ok_s (O := p2_OL) (X := X) (LX := LX) (E := []) (mi := 45) (cuts := []) (f := 76) (S := pl_s61) (lx := none) (XF := []) ⟨pl_nmu, ck_E0⟩ ck_X0 ck_l0 (by decide +kernel)
set_option maxRecDepth 100000 in
/-- GlacierMail$Rows.put -/
noncomputable def pl_s62 : ck_Sum := ((0, 0, 0), 249, [.inr (.inr (.inl 23)), .inl (ck_one (-1)), .inl (ck_one 3), .inl (0, 299, [])], ([], [], []), ([], []), [(.inr none, 249, ([], [], []))])
set_option maxRecDepth 100000 in
theorem pl_s62_s {X : Int → Int} {LX : Nat} : ck_Ok p2_OL X LX 45 pl_s62 := ck_ok_s (O := p2_OL) (X := X) (LX := LX) (E := []) (mi := 45) (cuts := []) (f := 76) (S := pl_s62) (lx := none) (XF := []) ⟨pl_nmu, ck_E0⟩ ck_X0 ck_l0 (by decide +kernel)
set_option maxRecDepth 100000 in
/-- GlacierMail$Rows.put -/
noncomputable def pl_s63 : ck_Sum := ((0, 0, 0), 249, [.inr (.inr (.inl 23)), .inl (ck_one (-1)), .inl (ck_one 4), .inl (0, 98, [])], ([], [], []), ([], []), [(.inr none, 249, ([], [], []))])
set_option maxRecDepth 100000 in
theorem pl_s63_s {X : Int → Int} {LX : Nat} : ck_Ok p2_OL X LX 45 pl_s63 := ck_ok_s (O := p2_OL) (X := X) (LX := LX) (E := []) (mi := 45) (cuts := []) (f := 76) (S := pl_s63) (lx := none) (XF := []) ⟨pl_nmu, ck_E0⟩ ck_X0 ck_l0 (by decide +kernel)
set_option maxRecDepth 100000 in
/-- GlacierMail$Rows.put -/
noncomputable def pl_s64 : ck_Sum := ((0, 0, 0), 249, [.inr (.inr (.inl 23)), .inl (ck_one (-1)), .inl (ck_one 5), .inl (ck_one (-1))], ([], [], []), ([], []), [(.inr none, 249, ([], [], []))])
set_option maxRecDepth 100000 in
theorem pl_s64_s {X : Int → Int} {LX : Nat} : ck_Ok p2_OL X LX 45 pl_s64 := ck_ok_s (O := p2_OL) (X := X) (LX := LX) (E := []) (mi := 45) (cuts := []) (f := 76) (S := pl_s64) (lx := none) (XF := []) ⟨pl_nmu, ck_E0⟩ ck_X0 ck_l0 (by decide +kernel)
set_option maxRecDepth 100000 in
/-- GlacierMail$Rows.put -/
noncomputable def pl_s65 : ck_Sum := ((0, 0, 0), 249, [.inr (.inr (.inl 23)), .inl (ck_one (-1)), .inl (ck_one 6), .inl (ck_one (-1))], ([], [], []), ([], []), [(.inr none, 249, ([], [], []))])
set_option maxRecDepth 100000 in
theorem pl_s65_s {X : Int → Int} {LX : Nat} : ck_Ok p2_OL X LX 45 pl_s65 := ck_ok_s (O := p2_OL) (X := X) (LX := LX) (E := []) (mi := 45) (cuts := []) (f := 76) (S := pl_s65) (lx := none) (XF := []) ⟨pl_nmu, ck_E0⟩ ck_X0 ck_l0 (by decide +kernel)
set_option maxRecDepth 100000 in
/-- GlacierMail$State.throwIn -/
noncomputable def pl_s66 : ck_Sum := ((1, 0, 0), 249, [.inr (.inr (.inl 16)), .inl (ck_one (-1)), .inl (ck_one (-1)), .inl (0, 5, []), .inl (0, 98, [])], ([], [], []), ([(23, 3, 3), (24, 0, 167)], []), zl224)
set_option maxRecDepth 100000 in
theorem pl_s66_s {X : Int → Int} {LX : Nat} : ck_Ok p2_OL X LX 119 pl_s66 := ck_ok_s (O := p2_OL) (X := X) (LX := LX) (E := [(102, [pl_s51]), (45, [pl_s52, pl_s53, pl_s54, pl_s55, pl_s56, pl_s57, pl_s58, pl_s59, pl_s60, pl_s61, pl_s62, pl_s63, pl_s64, pl_s65])]) (mi := 119) (cuts := []) (f := 168) (S := pl_s66) (lx := none) (XF := []) ⟨pl_nmu, ck_E1 (ck_S1 pl_s51_s ck_S0) (ck_E1 (ck_S1 pl_s52_s (ck_S1 pl_s53_s (ck_S1 pl_s54_s (ck_S1 pl_s55_s (ck_S1 pl_s56_s (ck_S1 pl_s57_s (ck_S1 pl_s58_s (ck_S1 pl_s59_s (ck_S1 pl_s60_s (ck_S1 pl_s61_s (ck_S1 pl_s62_s (ck_S1 pl_s63_s (ck_S1 pl_s64_s (ck_S1 pl_s65_s ck_S0)))))))))))))) ck_E0)⟩ ck_X0 ck_l0 (by decide +kernel)
set_option maxRecDepth 100000 in
/-- GlacierMail$ValleyReader.readRock -/
noncomputable def pl_s67 : ck_Sum := ((4, 0, 0), 249, [.inr (.inr (.inl 213))], ([], [], [(214, 3, 3, (0, 400, [(12, 0)]))]), ([(23, 3, 3), (24, 0, 167), (214, 3, 7)], []), [(.inr (some (.inl (ck_one 0))), 249, ([], [], zl21)), (.inr (some (.inl (ck_one 1))), 249, ([], [], zl22))])
set_option maxRecDepth 100000 in
theorem pl_s67_s {X : Int → Int} {LX : Nat} : ck_Ok p2_OL X LX 118 pl_s67 := ck_ok_s (O := p2_OL) (X := X) (LX := LX) (E := [(108, [pl_s46]), (76, [pl_s24]), (117, [pl_s48]), (111, [pl_s50]), (119, [pl_s66]), (93, [pl_s26])]) (mi := 118) (cuts := []) (f := 130) (S := pl_s67) (lx := none) (XF := []) ⟨pl_nmu, ck_E1 (ck_S1 pl_s46_s ck_S0) (ck_E1 (ck_S1 pl_s24_s ck_S0) (ck_E1 (ck_S1 pl_s48_s ck_S0) (ck_E1 (ck_S1 pl_s50_s ck_S0) (ck_E1 (ck_S1 pl_s66_s ck_S0) (ck_E1 (ck_S1 pl_s26_s ck_S0) ck_E0)))))⟩ ck_X0 ck_l0 (by decide +kernel)
set_option maxRecDepth 100000 in
/-- GlacierMail$Rows.isFull -/
noncomputable def pl_s68 : ck_Sum := ((0, 0, 0), 249, [.inr (.inr (.inl 21))], ([], [], []), ([], []), [(.inr (some (.inl (ck_one 0))), 249, ([], [], [(21, 3, 3, (0, 7, []))])), (.inr (some (.inl (ck_one 1))), 249, ([], [], [(21, 3, 3, ck_one 8)]))])
set_option maxRecDepth 100000 in
theorem pl_s68_s {X : Int → Int} {LX : Nat} : ck_Ok p2_OL X LX 108 pl_s68 := ck_ok_s (O := p2_OL) (X := X) (LX := LX) (E := []) (mi := 108) (cuts := []) (f := 86) (S := pl_s68) (lx := none) (XF := []) ⟨pl_nmu, ck_E0⟩ ck_X0 ck_l0 (by decide +kernel)
set_option maxRecDepth 100000 in
/-- GlacierMail$Words.isWord -/
noncomputable def pl_s69 : ck_Sum := ((6, 0, 0), 249, [.inr (.inr (.inl 214)), .inr (.inr (.inr 26))], ([], [], [(214, 3, 3, (0, 400, [(12, 0)]))]), ([], []), zl218)
set_option maxRecDepth 100000 in
theorem pl_s69_s {X : Int → Int} {LX : Nat} : ck_Ok p2_OL X LX 81 pl_s69 := ck_ok_s (O := p2_OL) (X := X) (LX := LX) (E := []) (mi := 81) (cuts := []) (f := 360) (S := pl_s69) (lx := none) (XF := []) ⟨pl_nmu, ck_E0⟩ ck_X0 ck_l0 (by decide +kernel)
set_option maxRecDepth 100000 in
/-- GlacierMail$Words.takeWord -/
noncomputable def pl_s70 : ck_Sum := ((7, 0, 0), 249, [.inr (.inr (.inl 214)), .inr (.inr (.inr 26))], ([], [], [(214, 3, 3, (0, 400, [(12, 0)]))]), ([(214, 3, 4), (214, 6, 7)], []), [(.inr (some (.inl (ck_one 0))), 249, ([], [], [(214, 3, 3, (0, 400, [(12, 0)]))])), (.inr (some (.inl (ck_one 1))), 249, ([], [], [(214, 3, 3, (5, 400, [(1000012, 0)]))]))])
set_option maxRecDepth 100000 in
theorem pl_s70_s {X : Int → Int} {LX : Nat} : ck_Ok p2_OL X LX 95 pl_s70 := ck_ok_s (O := p2_OL) (X := X) (LX := LX) (E := [(81, [pl_s69]), (76, [pl_s24])]) (mi := 95) (cuts := []) (f := 90) (S := pl_s70) (lx := none) (XF := []) ⟨pl_nmu, ck_E1 (ck_S1 pl_s69_s ck_S0) (ck_E1 (ck_S1 pl_s24_s ck_S0) ck_E0)⟩ ck_X0 ck_l0 (by decide +kernel)
set_option maxRecDepth 100000 in
/-- GlacierMail$Rows.add -/
noncomputable def pl_s71 : ck_Sum := ((0, 0, 0), 249, [.inr (.inr (.inl 21))], ([], [], []), ([(21, 3, 3)], []), [(.inr (some (.inl (0, 7, []))), 249, ([], [], [(21, 3, 3, (1, 8, []))])), (.inr (some (.inl (ck_one (-1)))), 249, ([], [], [(21, 3, 3, ck_one 8)]))])
set_option maxRecDepth 100000 in
theorem pl_s71_s {X : Int → Int} {LX : Nat} : ck_Ok p2_OL X LX 102 pl_s71 := ck_ok_s (O := p2_OL) (X := X) (LX := LX) (E := []) (mi := 102) (cuts := []) (f := 102) (S := pl_s71) (lx := none) (XF := []) ⟨pl_nmu, ck_E0⟩ ck_X0 ck_l0 (by decide +kernel)
set_option maxRecDepth 100000 in
/-- GlacierMail$Rows.put -/
noncomputable def pl_s72 : ck_Sum := ((0, 0, 0), 249, [.inr (.inr (.inl 21)), .inl (0, 7, []), .inl (ck_one 0), .inl (0, 5, [])], ([], [], []), (zl23, []), [(.inr none, 249, ([], [], []))])
set_option maxRecDepth 100000 in
theorem pl_s72_s {X : Int → Int} {LX : Nat} : ck_Ok p2_OL X LX 45 pl_s72 := ck_ok_s (O := p2_OL) (X := X) (LX := LX) (E := []) (mi := 45) (cuts := []) (f := 116) (S := pl_s72) (lx := none) (XF := []) ⟨pl_nmu, ck_E0⟩ ck_X0 ck_l0 (by decide +kernel)
set_option maxRecDepth 100000 in
/-- GlacierMail$Rows.put -/
noncomputable def pl_s73 : ck_Sum := ((0, 0, 0), 249, [.inr (.inr (.inl 21)), .inl (0, 7, []), .inl (ck_one 1), .inl (0, 98, [])], ([], [], []), (zl24, []), [(.inr none, 249, ([], [], []))])
set_option maxRecDepth 100000 in
theorem pl_s73_s {X : Int → Int} {LX : Nat} : ck_Ok p2_OL X LX 45 pl_s73 := ck_ok_s (O := p2_OL) (X := X) (LX := LX) (E := []) (mi := 45) (cuts := []) (f := 116) (S := pl_s73) (lx := none) (XF := []) ⟨pl_nmu, ck_E0⟩ ck_X0 ck_l0 (by decide +kernel)
set_option maxRecDepth 100000 in
/-- GlacierMail$Rows.put -/
noncomputable def pl_s74 : ck_Sum := ((0, 0, 0), 249, [.inr (.inr (.inl 21)), .inl (0, 7, []), .inl (ck_one 2), .inl (ck_one (-1))], ([], [], []), (zl25, []), [(.inr none, 249, ([], [], []))])
set_option maxRecDepth 100000 in
theorem pl_s74_s {X : Int → Int} {LX : Nat} : ck_Ok p2_OL X LX 45 pl_s74 := ck_ok_s (O := p2_OL) (X := X) (LX := LX) (E := []) (mi := 45) (cuts := []) (f := 116) (S := pl_s74) (lx := none) (XF := []) ⟨pl_nmu, ck_E0⟩ ck_X0 ck_l0 (by decide +kernel)
set_option maxRecDepth 100000 in
/-- GlacierMail$Rows.put -/
noncomputable def pl_s75 : ck_Sum := ((0, 0, 0), 249, [.inr (.inr (.inl 21)), .inl (ck_one (-1)), .inl (ck_one 0), .inl (0, 5, [])], ([], [], []), ([], []), [(.inr none, 249, ([], [], []))])
set_option maxRecDepth 100000 in
theorem pl_s75_s {X : Int → Int} {LX : Nat} : ck_Ok p2_OL X LX 45 pl_s75 := ck_ok_s (O := p2_OL) (X := X) (LX := LX) (E := []) (mi := 45) (cuts := []) (f := 76) (S := pl_s75) (lx := none) (XF := []) ⟨pl_nmu, ck_E0⟩ ck_X0 ck_l0 (by decide +kernel)
set_option maxRecDepth 100000 in
/-- GlacierMail$Rows.put -/
noncomputable def pl_s76 : ck_Sum := ((0, 0, 0), 249, [.inr (.inr (.inl 21)), .inl (ck_one (-1)), .inl (ck_one 1), .inl (0, 98, [])], ([], [], []), ([], []), [(.inr none, 249, ([], [], []))])
set_option maxRecDepth 100000 in
theorem pl_s76_s {X : Int → Int} {LX : Nat} : ck_Ok p2_OL X LX 45 pl_s76 := ck_ok_s (O := p2_OL) (X := X) (LX := LX) (E := []) (mi := 45) (cuts := []) (f := 76) (S := pl_s76) (lx := none) (XF := []) ⟨pl_nmu, ck_E0⟩ ck_X0 ck_l0 (by decide +kernel)
set_option maxRecDepth 100000 in
/-- GlacierMail$Rows.put -/
noncomputable def pl_s77 : ck_Sum := ((0, 0, 0), 249, [.inr (.inr (.inl 21)), .inl (ck_one (-1)), .inl (ck_one 2), .inl (ck_one (-1))], ([], [], []), ([], []), [(.inr none, 249, ([], [], []))])
set_option maxRecDepth 100000 in
theorem pl_s77_s {X : Int → Int} {LX : Nat} : ck_Ok p2_OL X LX 45 pl_s77 := ck_ok_s (O := p2_OL) (X := X) (LX := LX) (E := []) (mi := 45) (cuts := []) (f := 76) (S := pl_s77) (lx := none) (XF := []) ⟨pl_nmu, ck_E0⟩ ck_X0 ck_l0 (by decide +kernel)
set_option maxRecDepth 100000 in
/-- GlacierMail$Rows.put -/
noncomputable def pl_s78 : ck_Sum := ((0, 0, 0), 249, [.inr (.inr (.inl 21)), .inl (0, 7, []), .inl (ck_one 2), .inl (0, 5, [])], ([], [], []), (zl25, []), [(.inr none, 249, ([], [], []))])
set_option maxRecDepth 100000 in
theorem pl_s78_s {X : Int → Int} {LX : Nat} : ck_Ok p2_OL X LX 45 pl_s78 := ck_ok_s (O := p2_OL) (X := X) (LX := LX) (E := []) (mi := 45) (cuts := []) (f := 116) (S := pl_s78) (lx := none) (XF := []) ⟨pl_nmu, ck_E0⟩ ck_X0 ck_l0 (by decide +kernel)
set_option maxRecDepth 100000 in
/-- GlacierMail$Rows.put -/
noncomputable def pl_s79 : ck_Sum := ((0, 0, 0), 249, [.inr (.inr (.inl 21)), .inl (ck_one (-1)), .inl (ck_one 2), .inl (0, 5, [])], ([], [], []), ([], []), [(.inr none, 249, ([], [], []))])
set_option maxRecDepth 100000 in
theorem pl_s79_s {X : Int → Int} {LX : Nat} : ck_Ok p2_OL X LX 45 pl_s79 := ck_ok_s (O := p2_OL) (X := X) (LX := LX) (E := []) (mi := 45) (cuts := []) (f := 76) (S := pl_s79) (lx := none) (XF := []) ⟨pl_nmu, ck_E0⟩ ck_X0 ck_l0 (by decide +kernel)
set_option maxRecDepth 100000 in
/-- GlacierMail$ValleyReader.readPerson -/
noncomputable def pl_s80 : ck_Sum := ((8, 0, 0), 249, [.inr (.inr (.inl 213))], ([], [], [(214, 3, 3, (0, 400, [(12, 0)]))]), ([(21, 3, 3), (22, 0, 23), (214, 3, 7)], []), [(.inr (some (.inl (ck_one 0))), 249, ([], [], zl21)), (.inr (some (.inl (ck_one 1))), 249, ([], [], zl26))])
set_option maxRecDepth 100000 in
theorem pl_s80_s {X : Int → Int} {LX : Nat} : ck_Ok p2_OL X LX 116 pl_s80 := ck_ok_s (O := p2_OL) (X := X) (LX := LX) (E := [(108, [pl_s68]), (76, [pl_s24]), (117, [pl_s48]), (111, [pl_s50]), (95, [pl_s70]), (102, [pl_s71]), (45, [pl_s72, pl_s73, pl_s74, pl_s75, pl_s76, pl_s77, pl_s78, pl_s79]), (93, [pl_s26])]) (mi := 116) (cuts := []) (f := 192) (S := pl_s80) (lx := none) (XF := []) ⟨pl_nmu, ck_E1 (ck_S1 pl_s68_s ck_S0) (ck_E1 (ck_S1 pl_s24_s ck_S0) (ck_E1 (ck_S1 pl_s48_s ck_S0) (ck_E1 (ck_S1 pl_s50_s ck_S0) (ck_E1 (ck_S1 pl_s70_s ck_S0) (ck_E1 (ck_S1 pl_s71_s ck_S0) (ck_E1 (ck_S1 pl_s72_s (ck_S1 pl_s73_s (ck_S1 pl_s74_s (ck_S1 pl_s75_s (ck_S1 pl_s76_s (ck_S1 pl_s77_s (ck_S1 pl_s78_s (ck_S1 pl_s79_s ck_S0)))))))) (ck_E1 (ck_S1 pl_s26_s ck_S0) ck_E0)))))))⟩ ck_X0 ck_l0 (by decide +kernel)
set_option maxRecDepth 100000 in
/-- GlacierMail$Rows.isFull -/
noncomputable def pl_s81 : ck_Sum := ((0, 0, 0), 249, [.inr (.inr (.inl 19))], ([], [], []), ([], []), [(.inr (some (.inl (ck_one 0))), 249, ([], [], [(19, 3, 3, (0, 7, []))])), (.inr (some (.inl (ck_one 1))), 249, ([], [], [(19, 3, 3, ck_one 8)]))])
set_option maxRecDepth 100000 in
theorem pl_s81_s {X : Int → Int} {LX : Nat} : ck_Ok p2_OL X LX 108 pl_s81 := ck_ok_s (O := p2_OL) (X := X) (LX := LX) (E := []) (mi := 108) (cuts := []) (f := 86) (S := pl_s81) (lx := none) (XF := []) ⟨pl_nmu, ck_E0⟩ ck_X0 ck_l0 (by decide +kernel)
set_option maxRecDepth 100000 in
/-- GlacierMail$Words.needNumber -/
noncomputable def pl_s82 : ck_Sum := ((2, 0, 0), 249, [.inr (.inr (.inl 214)), .inl (0, 299, []), .inl (ck_one 299)], ([], [], [(214, 3, 3, (0, 400, [(12, 0)]))]), ([(214, 3, 7)], []), [(.inr (some (.inl (ck_one (-1)))), 249, ([], [], zl7)), (.inr (some (.inl (0, 299, []))), 249, ([], [], [(214, 3, 3, (0, 400, [(1000012, 0)]))]))])
set_option maxRecDepth 100000 in
theorem pl_s82_s {X : Int → Int} {LX : Nat} : ck_Ok p2_OL X LX 94 pl_s82 := ck_ok_s (O := p2_OL) (X := X) (LX := LX) (E := [(93, [pl_s26]), (76, [pl_s24])]) (mi := 94) (cuts := []) (f := 106) (S := pl_s82) (lx := none) (XF := []) ⟨pl_nmu, ck_E1 (ck_S1 pl_s26_s ck_S0) (ck_E1 (ck_S1 pl_s24_s ck_S0) ck_E0)⟩ ck_X0 ck_l0 (by decide +kernel)
set_option maxRecDepth 100000 in
/-- GlacierMail$Words.needNumber -/
noncomputable def pl_s83 : ck_Sum := ((2, 0, 0), 249, [.inr (.inr (.inl 214)), .inl (ck_one 1), .inl (ck_one 20)], ([], [], [(214, 3, 3, (0, 400, [(12, 0)]))]), ([(214, 3, 7)], []), [(.inr (some (.inl (ck_one (-1)))), 249, ([], [], zl7)), (.inr (some (.inl (1, 20, []))), 249, ([], [], [(214, 3, 3, (0, 400, [(1000012, 0)]))]))])
set_option maxRecDepth 100000 in
theorem pl_s83_s {X : Int → Int} {LX : Nat} : ck_Ok p2_OL X LX 94 pl_s83 := ck_ok_s (O := p2_OL) (X := X) (LX := LX) (E := [(93, [pl_s26]), (76, [pl_s24])]) (mi := 94) (cuts := []) (f := 106) (S := pl_s83) (lx := none) (XF := []) ⟨pl_nmu, ck_E1 (ck_S1 pl_s26_s ck_S0) (ck_E1 (ck_S1 pl_s24_s ck_S0) ck_E0)⟩ ck_X0 ck_l0 (by decide +kernel)
set_option maxRecDepth 100000 in
/-- GlacierMail$Rows.add -/
noncomputable def pl_s84 : ck_Sum := ((0, 0, 0), 249, [.inr (.inr (.inl 19))], ([], [], []), ([(19, 3, 3)], []), [(.inr (some (.inl (0, 7, []))), 249, ([], [], [(19, 3, 3, (1, 8, []))])), (.inr (some (.inl (ck_one (-1)))), 249, ([], [], [(19, 3, 3, ck_one 8)]))])
set_option maxRecDepth 100000 in
theorem pl_s84_s {X : Int → Int} {LX : Nat} : ck_Ok p2_OL X LX 102 pl_s84 := ck_ok_s (O := p2_OL) (X := X) (LX := LX) (E := []) (mi := 102) (cuts := []) (f := 102) (S := pl_s84) (lx := none) (XF := []) ⟨pl_nmu, ck_E0⟩ ck_X0 ck_l0 (by decide +kernel)
set_option maxRecDepth 100000 in
/-- GlacierMail$Rows.put -/
noncomputable def pl_s85 : ck_Sum := ((0, 0, 0), 249, [.inr (.inr (.inl 19)), .inl (0, 7, []), .inl (ck_one 0), .inl (0, 299, [])], ([], [], []), (zl27, []), [(.inr none, 249, ([], [], []))])
set_option maxRecDepth 100000 in
theorem pl_s85_s {X : Int → Int} {LX : Nat} : ck_Ok p2_OL X LX 45 pl_s85 := ck_ok_s (O := p2_OL) (X := X) (LX := LX) (E := []) (mi := 45) (cuts := []) (f := 116) (S := pl_s85) (lx := none) (XF := []) ⟨pl_nmu, ck_E0⟩ ck_X0 ck_l0 (by decide +kernel)
set_option maxRecDepth 100000 in
/-- GlacierMail$Rows.put -/
noncomputable def pl_s86 : ck_Sum := ((0, 0, 0), 249, [.inr (.inr (.inl 19)), .inl (0, 7, []), .inl (ck_one 1), .inl (0, 98, [])], ([], [], []), (zl28, []), [(.inr none, 249, ([], [], []))])
set_option maxRecDepth 100000 in
theorem pl_s86_s {X : Int → Int} {LX : Nat} : ck_Ok p2_OL X LX 45 pl_s86 := ck_ok_s (O := p2_OL) (X := X) (LX := LX) (E := []) (mi := 45) (cuts := []) (f := 116) (S := pl_s86) (lx := none) (XF := []) ⟨pl_nmu, ck_E0⟩ ck_X0 ck_l0 (by decide +kernel)
set_option maxRecDepth 100000 in
/-- GlacierMail$Rows.put -/
noncomputable def pl_s87 : ck_Sum := ((0, 0, 0), 249, [.inr (.inr (.inl 19)), .inl (0, 7, []), .inl (ck_one 2), .inl (1, 20, [])], ([], [], []), (zl29, []), [(.inr none, 249, ([], [], []))])
set_option maxRecDepth 100000 in
theorem pl_s87_s {X : Int → Int} {LX : Nat} : ck_Ok p2_OL X LX 45 pl_s87 := ck_ok_s (O := p2_OL) (X := X) (LX := LX) (E := []) (mi := 45) (cuts := []) (f := 116) (S := pl_s87) (lx := none) (XF := []) ⟨pl_nmu, ck_E0⟩ ck_X0 ck_l0 (by decide +kernel)
set_option maxRecDepth 100000 in
/-- GlacierMail$Rows.put -/
noncomputable def pl_s88 : ck_Sum := ((0, 0, 0), 249, [.inr (.inr (.inl 19)), .inl (ck_one (-1)), .inl (ck_one 0), .inl (0, 299, [])], ([], [], []), ([], []), [(.inr none, 249, ([], [], []))])
set_option maxRecDepth 100000 in
theorem pl_s88_s {X : Int → Int} {LX : Nat} : ck_Ok p2_OL X LX 45 pl_s88 := ck_ok_s (O := p2_OL) (X := X) (LX := LX) (E := []) (mi := 45) (cuts := []) (f := 76) (S := pl_s88) (lx := none) (XF := []) ⟨pl_nmu, ck_E0⟩ ck_X0 ck_l0 (by decide +kernel)
set_option maxRecDepth 100000 in
/-- GlacierMail$Rows.put -/
noncomputable def pl_s89 : ck_Sum := ((0, 0, 0), 249, [.inr (.inr (.inl 19)), .inl (ck_one (-1)), .inl (ck_one 1), .inl (0, 98, [])], ([], [], []), ([], []), [(.inr none, 249, ([], [], []))])
set_option maxRecDepth 100000 in
theorem pl_s89_s {X : Int → Int} {LX : Nat} : ck_Ok p2_OL X LX 45 pl_s89 := ck_ok_s (O := p2_OL) (X := X) (LX := LX) (E := []) (mi := 45) (cuts := []) (f := 76) (S := pl_s89) (lx := none) (XF := []) ⟨pl_nmu, ck_E0⟩ ck_X0 ck_l0 (by decide +kernel)
end
