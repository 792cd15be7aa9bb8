/-! EVERY CALL ENDS, whatever was done before (laid by wip/am/p2g.py). -/
set_option maxRecDepth 100000 in
/-- GlacierMailModel.outsIn -/
def p2_s1981 : ck_Sum := ((2, 0, 0), 245, [.inr (.inr (.inl 226)), .inl (0, 327, []), .inl (1, 4, []), .inl (ck_one 0)], ([], [], [(227, 4, 4, (0, 24, [(22, 0)]))]), ([], []), [(.inr (some (.inl ((-2147483648), 2147483647, []))), 245, ([], [], []))])
set_option maxRecDepth 100000 in
theorem p2_s1981_e : ck_ok p2_O none [] [(254, [p2_s196]), (301, [p2_s469]), (303, [p2_s473])] 333 [(6, [some (.inr (.inr (.inl 226))), some (.inl (0, 327, [])), some (.inl (1, 4, [])), some (.inl (ck_one 0)), some (.inl ((-2147483648), 2147483647, [])), some (.inl (0, 24, []))], ([], [], [(227, 4, 4, (0, 24, [(22, 0)]))]), 100, .inl 5, true)] 218 p2_s1981 = true := by decide +kernel
theorem p2_s1981_s {X : Int → Int} {LX : Nat} : ck_Ok p2_O X LX 333 p2_s1981 := ck_ok_s ⟨p2_nmu, ck_E1 (ck_S1 p2_s196_s ck_S0) (ck_E1 (ck_S1 p2_s469_s ck_S0) (ck_E1 (ck_S1 p2_s473_s ck_S0) ck_E0))⟩ ck_X0 ck_l0 p2_s1981_e
set_option maxRecDepth 100000 in
/-- GlacierMail.watchman -/
def p2_s1987 : ck_Sum := ((7, 1, 6), 245, [.inr (.inr (.inl 1)), .inl ((-2147483648), (-1), []), .inl (0, 1, [])], ([], [], []), ([], []), [(.inl 0, 245, ([], [], []))])
set_option maxRecDepth 100000 in
theorem p2_s1987_e : ck_ok p2_O none [] [(214, [p2_s1939])] 218 [] 76 p2_s1987 = true := by decide +kernel
theorem p2_s1987_s {X : Int → Int} {LX : Nat} : ck_Ok p2_O X LX 218 p2_s1987 := ck_ok_s ⟨p2_nmu, ck_E1 (ck_S1 p2_s1939_s ck_S0) ck_E0⟩ ck_X0 ck_l0 p2_s1987_e
set_option maxRecDepth 100000 in
/-- GlacierMail.watchman -/
def p2_s1988 : ck_Sum := ((7, 1, 6), 245, [.inr (.inr (.inl 1)), .inl (31, 2147483647, []), .inl (0, 1, [])], ([], [], []), ([], []), [(.inl 0, 245, ([], [], []))])
set_option maxRecDepth 100000 in
theorem p2_s1988_e : ck_ok p2_O none [] [(214, [p2_s1941])] 218 [] 76 p2_s1988 = true := by decide +kernel
theorem p2_s1988_s {X : Int → Int} {LX : Nat} : ck_Ok p2_O X LX 218 p2_s1988 := ck_ok_s ⟨p2_nmu, ck_E1 (ck_S1 p2_s1941_s ck_S0) ck_E0⟩ ck_X0 ck_l0 p2_s1988_e
set_option maxRecDepth 100000 in
/-- GlacierMail.mostBeside -/
def p2_s1998 : ck_Sum := ((1, 0, 0), 245, [.inr (.inr (.inl 1)), .inl (0, 5, []), .inl (0, 30, [])], ([], [], []), ([], []), [(.inr (some (.inl (0, 2147483647, []))), 245, ([], [], []))])
set_option maxRecDepth 100000 in
theorem p2_s1998_e : ck_ok p2_O none [] [(10, [p2_s1946])] 219 [(5, [some (.inr (.inr (.inl 1))), some (.inl (0, 5, [])), some (.inl (0, 30, [])), some (.inl (0, 2147483647, [])), some (.inl (0, 6, [])), none, none], ([], [], []), 100, .inl 4, true), (23, [some (.inr (.inr (.inl 1))), some (.inl (0, 5, [])), some (.inl (0, 30, [])), some (.inl (0, 2147483647, [])), some (.inl (0, 5, [(100, 0)])), some (.inl ((-2147483648), 2147483647, [])), some (.inl (0, 30, []))], ([], [], []), 300, .inl 6, true)] 194 p2_s1998 = true := by decide +kernel
theorem p2_s1998_s {X : Int → Int} {LX : Nat} : ck_Ok p2_O X LX 219 p2_s1998 := ck_ok_s ⟨p2_nmu, ck_E1 (ck_S1 p2_s1946_s ck_S0) ck_E0⟩ ck_X0 ck_l0 p2_s1998_e
set_option maxRecDepth 100000 in
/-- GlacierMail.mostBeside -/
def p2_s1997 : ck_Sum := ((1, 0, 0), 245, [.inr (.inr (.inl 1)), .inl (1, 5, []), .inl (0, 30, [])], ([], [], []), ([], []), [(.inr (some (.inl (0, 2147483647, []))), 245, ([], [], []))])
set_option maxRecDepth 100000 in
theorem p2_s1997_e : ck_ok p2_O none [] [(10, [p2_s1946])] 219 [(5, [some (.inr (.inr (.inl 1))), some (.inl (1, 5, [])), some (.inl (0, 30, [])), some (.inl (0, 2147483647, [])), some (.inl (0, 6, [])), none, none], ([], [], []), 100, .inl 4, true), (23, [some (.inr (.inr (.inl 1))), some (.inl (1, 5, [])), some (.inl (0, 30, [])), some (.inl (0, 2147483647, [])), some (.inl (0, 5, [(100, 0)])), some (.inl ((-2147483648), 2147483647, [])), some (.inl (0, 30, []))], ([], [], []), 300, .inl 6, true)] 194 p2_s1997 = true := by decide +kernel
theorem p2_s1997_s {X : Int → Int} {LX : Nat} : ck_Ok p2_O X LX 219 p2_s1997 := ck_ok_s ⟨p2_nmu, ck_E1 (ck_S1 p2_s1946_s ck_S0) ck_E0⟩ ck_X0 ck_l0 p2_s1997_e
set_option maxRecDepth 100000 in
/-- GlacierMail.watchman -/
def p2_s1999 : ck_Sum := ((7, 1, 6), 245, [.inr (.inr (.inl 1)), .inl (0, 30, []), .inl (0, 1, [])], ([], [(3, 8, 0)], [(3, 6, 6, (0, 299, [(10, 0)]))]), ([(1, 15, 15), (206, 2, 8), (220, 3, 3), (221, 0, 47), (222, 3, 3), (223, 0, 179)], []), [(.inl 0, 245, ([], [], [])), (.inr (some (.inl (0, 2147483647, []))), 245, ([], [], [(1, 15, 15, ck_one 1)]))])
set_option maxRecDepth 100000 in
theorem p2_s1999_e : ck_ok p2_O none [] [(214, [p2_s1943]), (24, [p2_s417]), (215, [p2_s1949]), (219, [p2_s1998, p2_s1997])] 218 [(19, [some (.inr (.inr (.inl 1))), some (.inl (0, 30, [])), some (.inl (0, 1, [])), some (.inl (0, 5, [])), some (.inl (1, 6, []))], ([], [(3, 8, 0)], [(1, 15, 15, ck_one 1), (3, 6, 6, (0, 299, [(10, 0)]))]), 100, .inl 4, true)] 166 p2_s1999 = true := by decide +kernel
theorem p2_s1999_s {X : Int → Int} {LX : Nat} : ck_Ok p2_O X LX 218 p2_s1999 := ck_ok_s ⟨p2_nmu, ck_E1 (ck_S1 p2_s1943_s ck_S0) (ck_E1 (ck_S1 p2_s417_s ck_S0) (ck_E1 (ck_S1 p2_s1949_s ck_S0) (ck_E1 (ck_S1 p2_s1998_s (ck_S1 p2_s1997_s ck_S0)) ck_E0)))⟩ ck_X0 ck_l0 p2_s1999_e
set_option maxRecDepth 100000 in
/-- GlacierMailModel.watchman -/
def p2_s2000 : ck_Sum := ((1, 0, 0), 245, [.inr (.inr (.inl 226)), .inl ((-2147483648), (-1), []), .inl (0, 1, [])], ([], [], []), ([(226, 0, 0)], []), [(.inr (some (.inl (ck_one 0))), 245, ([], [], [(226, 0, 0, ck_one 1)]))])
set_option maxRecDepth 100000 in
theorem p2_s2000_e : ck_ok p2_O none [] [(286, [p2_s1966]), (282, [p2_s268])] 359 [] 102 p2_s2000 = true := by decide +kernel
theorem p2_s2000_s {X : Int → Int} {LX : Nat} : ck_Ok p2_O X LX 359 p2_s2000 := ck_ok_s ⟨p2_nmu, ck_E1 (ck_S1 p2_s1966_s ck_S0) (ck_E1 (ck_S1 p2_s268_s ck_S0) ck_E0)⟩ ck_X0 ck_l0 p2_s2000_e
set_option maxRecDepth 100000 in
/-- GlacierMailModel.watchman -/
def p2_s2001 : ck_Sum := ((1, 0, 0), 245, [.inr (.inr (.inl 226)), .inl (31, 2147483647, []), .inl (0, 1, [])], ([], [], []), ([(226, 0, 0)], []), [(.inr (some (.inl (ck_one 0))), 245, ([], [], [(226, 0, 0, ck_one 1)]))])
set_option maxRecDepth 100000 in
theorem p2_s2001_e : ck_ok p2_O none [] [(286, [p2_s1968]), (282, [p2_s268])] 359 [] 102 p2_s2001 = true := by decide +kernel
theorem p2_s2001_s {X : Int → Int} {LX : Nat} : ck_Ok p2_O X LX 359 p2_s2001 := ck_ok_s ⟨p2_nmu, ck_E1 (ck_S1 p2_s1968_s ck_S0) (ck_E1 (ck_S1 p2_s268_s ck_S0) ck_E0)⟩ ck_X0 ck_l0 p2_s2001_e
set_option maxRecDepth 100000 in
/-- GlacierMail.meeting -/
def p2_s2005 : ck_Sum := ((8, 1, 6), 245, [.inr (.inr (.inl 1)), .inl ((-2147483648), (-1), []), .inl ((-2147483648), 2147483647, [])], ([], [], []), ([], []), [(.inl 3, 245, ([], [], []))])
set_option maxRecDepth 100000 in
theorem p2_s2005_e : ck_ok p2_O none [] [(143, [p2_s525])] 221 [] 76 p2_s2005 = true := by decide +kernel
theorem p2_s2005_s {X : Int → Int} {LX : Nat} : ck_Ok p2_O X LX 221 p2_s2005 := ck_ok_s ⟨p2_nmu, ck_E1 (ck_S1 p2_s525_s ck_S0) ck_E0⟩ ck_X0 ck_l0 p2_s2005_e
set_option maxRecDepth 100000 in
/-- GlacierMail.meeting -/
def p2_s2006 : ck_Sum := ((8, 1, 6), 245, [.inr (.inr (.inl 1)), .inl (24, 2147483647, []), .inl ((-2147483648), 2147483647, [])], ([], [], []), ([], []), [(.inl 3, 245, ([], [], []))])
set_option maxRecDepth 100000 in
theorem p2_s2006_e : ck_ok p2_O none [] [(143, [p2_s528])] 221 [] 76 p2_s2006 = true := by decide +kernel
theorem p2_s2006_s {X : Int → Int} {LX : Nat} : ck_Ok p2_O X LX 221 p2_s2006 := ck_ok_s ⟨p2_nmu, ck_E1 (ck_S1 p2_s528_s ck_S0) ck_E0⟩ ck_X0 ck_l0 p2_s2006_e
set_option maxRecDepth 100000 in
/-- GlacierMail.meeting -/
def p2_s2007 : ck_Sum := ((8, 2, 12), 245, [.inr (.inr (.inl 1)), .inl (0, 23, []), .inl ((-2147483648), (-1), [])], ([], [], []), ([], []), [(.inl 3, 245, ([], [], []))])
set_option maxRecDepth 100000 in
theorem p2_s2007_e : ck_ok p2_O none [] [(143, [p2_s531, p2_s525])] 221 [] 82 p2_s2007 = true := by decide +kernel
theorem p2_s2007_s {X : Int → Int} {LX : Nat} : ck_Ok p2_O X LX 221 p2_s2007 := ck_ok_s ⟨p2_nmu, ck_E1 (ck_S1 p2_s531_s (ck_S1 p2_s525_s ck_S0)) ck_E0⟩ ck_X0 ck_l0 p2_s2007_e
set_option maxRecDepth 100000 in
/-- GlacierMail.meeting -/
def p2_s2008 : ck_Sum := ((8, 2, 12), 245, [.inr (.inr (.inl 1)), .inl (0, 23, []), .inl (24, 2147483647, [])], ([], [], []), ([], []), [(.inl 3, 245, ([], [], []))])
set_option maxRecDepth 100000 in
theorem p2_s2008_e : ck_ok p2_O none [] [(143, [p2_s531, p2_s528])] 221 [] 82 p2_s2008 = true := by decide +kernel
theorem p2_s2008_s {X : Int → Int} {LX : Nat} : ck_Ok p2_O X LX 221 p2_s2008 := ck_ok_s ⟨p2_nmu, ck_E1 (ck_S1 p2_s531_s (ck_S1 p2_s528_s ck_S0)) ck_E0⟩ ck_X0 ck_l0 p2_s2008_e
set_option maxRecDepth 100000 in
/-- GlacierMail.needUnlike -/
def p2_s2009 : ck_Sum := ((6, 1, 6), 245, [.inr (.inr (.inl 1)), .inl (0, 23, []), .inl (0, 23, [])], ([], [], []), ([], []), [(.inr none, 245, ([], [], [])), (.inl 0, 245, ([], [], []))])
set_option maxRecDepth 100000 in
theorem p2_s2009_e : ck_ok p2_O none [] [] 153 [] 78 p2_s2009 = true := by decide +kernel
theorem p2_s2009_s {X : Int → Int} {LX : Nat} : ck_Ok p2_O X LX 153 p2_s2009 := ck_ok_s ⟨p2_nmu, ck_E0⟩ ck_X0 ck_l0 p2_s2009_e
set_option maxRecDepth 100000 in
/-- GlacierMail.startBoth -/
def p2_s2010 : ck_Sum := ((4, 0, 0), 245, [.inr (.inr (.inl 1)), .inl (0, 23, []), .inl (0, 23, []), .inl (0, 299, [])], ([], [(3, 8, 0)], []), ([(206, 2, 8), (207, 2, 8)], []), [(.inr (some (.inl (0, 299, []))), 245, ([], [], [(206, 4, 4, ck_one (-1)), (206, 2, 2, ((-1), 299, []))]))])
set_option maxRecDepth 100000 in
theorem p2_s2010_e : ck_ok p2_O none [] [(27, [p2_s379, p2_s1624]), (148, [p2_s559, p2_s1629])] 182 [] 126 p2_s2010 = true := by decide +kernel
theorem p2_s2010_s {X : Int → Int} {LX : Nat} : ck_Ok p2_O X LX 182 p2_s2010 := ck_ok_s ⟨p2_nmu, ck_E1 (ck_S1 p2_s379_s (ck_S1 p2_s1624_s ck_S0)) (ck_E1 (ck_S1 p2_s559_s (ck_S1 p2_s1629_s ck_S0)) ck_E0)⟩ ck_X0 ck_l0 p2_s2010_e
set_option maxRecDepth 100000 in
/-- GlacierMail.meeting -/
def p2_s2011 : ck_Sum := ((8, 3, 18), 245, [.inr (.inr (.inl 1)), .inl (0, 23, []), .inl (0, 23, [])], ([], [(3, 8, 0)], [(3, 6, 6, (0, 299, [(10, 0)]))]), ([(206, 2, 8), (207, 2, 8)], []), [(.inl 3, 245, ([], [], [])), (.inl 0, 245, ([], [], [])), (.inr (some (.inl (ck_one (-1)))), 245, ([], [], [])), (.inr (some (.inl (0, 299, []))), 245, ([], [], [(207, 5, 5, ((-2147483648), 98, [])), (206, 5, 5, ((-2147483648), 98, [])), (206, 4, 4, ck_one (-1)), (206, 2, 2, ((-1), 299, []))]))])
set_option maxRecDepth 100000 in
theorem p2_s2011_e : ck_ok p2_O none [] [(143, [p2_s531]), (153, [p2_s2009]), (180, [p2_s1673]), (182, [p2_s2010]), (183, [p2_s1631]), (184, [p2_s1632])] 221 [(44, [some (.inr (.inr (.inl 1))), some (.inl (0, 23, [])), some (.inl (0, 23, [])), some (.inl (0, 299, [])), some (.inl (0, 300, []))], ([], [(3, 8, 0)], [(206, 4, 4, ck_one (-1)), (206, 2, 2, ((-1), 299, [])), (3, 6, 6, (0, 299, [(10, 0)]))]), 100, .inl 4, true)] 194 p2_s2011 = true := by decide +kernel
theorem p2_s2011_s {X : Int → Int} {LX : Nat} : ck_Ok p2_O X LX 221 p2_s2011 := ck_ok_s ⟨p2_nmu, ck_E1 (ck_S1 p2_s531_s ck_S0) (ck_E1 (ck_S1 p2_s2009_s ck_S0) (ck_E1 (ck_S1 p2_s1673_s ck_S0) (ck_E1 (ck_S1 p2_s2010_s ck_S0) (ck_E1 (ck_S1 p2_s1631_s ck_S0) (ck_E1 (ck_S1 p2_s1632_s ck_S0) ck_E0)))))⟩ ck_X0 ck_l0 p2_s2011_e
set_option maxRecDepth 100000 in
/-- GlacierMailModel.meeting -/
def p2_s2012 : ck_Sum := ((2, 0, 0), 245, [.inr (.inr (.inl 226)), .inl ((-2147483648), (-1), []), .inl ((-2147483648), 2147483647, [])], ([], [], [(227, 4, 4, (0, 24, [(22, 0)]))]), ([(226, 0, 0)], []), [(.inr (some (.inl (ck_one 0))), 245, ([], [], [(226, 0, 0, ck_one 1)]))])
set_option maxRecDepth 100000 in
theorem p2_s2012_e : ck_ok p2_O none [] [(309, [p2_s538]), (282, [p2_s268])] 360 [] 100 p2_s2012 = true := by decide +kernel
theorem p2_s2012_s {X : Int → Int} {LX : Nat} : ck_Ok p2_O X LX 360 p2_s2012 := ck_ok_s ⟨p2_nmu, ck_E1 (ck_S1 p2_s538_s ck_S0) (ck_E1 (ck_S1 p2_s268_s ck_S0) ck_E0)⟩ ck_X0 ck_l0 p2_s2012_e
set_option maxRecDepth 100000 in
/-- GlacierMailModel.meeting -/
def p2_s2013 : ck_Sum := ((2, 0, 0), 245, [.inr (.inr (.inl 226)), .inl (24, 2147483647, []), .inl ((-2147483648), 2147483647, [])], ([], [], [(227, 4, 4, (0, 24, [(22, 0)]))]), ([(226, 0, 0)], []), [(.inr (some (.inl (ck_one 0))), 245, ([], [], [(226, 0, 0, ck_one 1)]))])
set_option maxRecDepth 100000 in
theorem p2_s2013_e : ck_ok p2_O none [] [(309, [p2_s541]), (282, [p2_s268])] 360 [] 100 p2_s2013 = true := by decide +kernel
theorem p2_s2013_s {X : Int → Int} {LX : Nat} : ck_Ok p2_O X LX 360 p2_s2013 := ck_ok_s ⟨p2_nmu, ck_E1 (ck_S1 p2_s541_s ck_S0) (ck_E1 (ck_S1 p2_s268_s ck_S0) ck_E0)⟩ ck_X0 ck_l0 p2_s2013_e
set_option maxRecDepth 100000 in
/-- GlacierMailModel.meeting -/
def p2_s2014 : ck_Sum := ((2, 0, 0), 245, [.inr (.inr (.inl 226)), .inl (0, 23, []), .inl ((-2147483648), (-1), [])], ([], [], [(227, 4, 4, (0, 24, [(22, 0)]))]), ([(226, 0, 0)], []), [(.inr (some (.inl (ck_one 0))), 245, ([], [], [(226, 0, 0, ck_one 1)]))])
set_option maxRecDepth 100000 in
theorem p2_s2014_e : ck_ok p2_O none [] [(309, [p2_s544, p2_s538]), (282, [p2_s268])] 360 [] 108 p2_s2014 = true := by decide +kernel
theorem p2_s2014_s {X : Int → Int} {LX : Nat} : ck_Ok p2_O X LX 360 p2_s2014 := ck_ok_s ⟨p2_nmu, ck_E1 (ck_S1 p2_s544_s (ck_S1 p2_s538_s ck_S0)) (ck_E1 (ck_S1 p2_s268_s ck_S0) ck_E0)⟩ ck_X0 ck_l0 p2_s2014_e
set_option maxRecDepth 100000 in
/-- GlacierMailModel.meeting -/
def p2_s2015 : ck_Sum := ((2, 0, 0), 245, [.inr (.inr (.inl 226)), .inl (0, 23, []), .inl (24, 2147483647, [])], ([], [], [(227, 4, 4, (0, 24, [(22, 0)]))]), ([(226, 0, 0)], []), [(.inr (some (.inl (ck_one 0))), 245, ([], [], [(226, 0, 0, ck_one 1)]))])
set_option maxRecDepth 100000 in
theorem p2_s2015_e : ck_ok p2_O none [] [(309, [p2_s544, p2_s541]), (282, [p2_s268])] 360 [] 108 p2_s2015 = true := by decide +kernel
theorem p2_s2015_s {X : Int → Int} {LX : Nat} : ck_Ok p2_O X LX 360 p2_s2015 := ck_ok_s ⟨p2_nmu, ck_E1 (ck_S1 p2_s544_s (ck_S1 p2_s541_s ck_S0)) (ck_E1 (ck_S1 p2_s268_s ck_S0) ck_E0)⟩ ck_X0 ck_l0 p2_s2015_e
set_option maxRecDepth 100000 in
/-- GlacierMail.outs -/
def p2_s2017 : ck_Sum := ((7, 1, 6), 245, [.inr (.inr (.inl 1)), .inl ((-2147483648), (-1), [])], ([], [], []), ([], []), [(.inl 0, 245, ([], [], []))])
set_option maxRecDepth 100000 in
theorem p2_s2017_e : ck_ok p2_O none [] [(129, [p2_s276])] 223 [] 76 p2_s2017 = true := by decide +kernel
theorem p2_s2017_s {X : Int → Int} {LX : Nat} : ck_Ok p2_O X LX 223 p2_s2017 := ck_ok_s ⟨p2_nmu, ck_E1 (ck_S1 p2_s276_s ck_S0) ck_E0⟩ ck_X0 ck_l0 p2_s2017_e
set_option maxRecDepth 100000 in
/-- GlacierMail.outs -/
def p2_s2018 : ck_Sum := ((7, 1, 6), 245, [.inr (.inr (.inl 1)), .inl (300, 2147483647, [])], ([], [], []), ([], []), [(.inl 0, 245, ([], [], []))])
set_option maxRecDepth 100000 in
theorem p2_s2018_e : ck_ok p2_O none [] [(129, [p2_s278])] 223 [] 76 p2_s2018 = true := by decide +kernel
theorem p2_s2018_s {X : Int → Int} {LX : Nat} : ck_Ok p2_O X LX 223 p2_s2018 := ck_ok_s ⟨p2_nmu, ck_E1 (ck_S1 p2_s278_s ck_S0) ck_E0⟩ ck_X0 ck_l0 p2_s2018_e
set_option maxRecDepth 100000 in
/-- GlacierMail.outIn -/
def p2_s2019 : ck_Sum := ((1, 0, 0), 245, [.inr (.inr (.inl 1)), .inl (0, 299, []), .inl (ck_one 1)], ([], [], []), ([], []), [(.inr (some (.inl ((-2147483648), 2147483647, []))), 245, ([], [], []))])
set_option maxRecDepth 100000 in
theorem p2_s2019_e : ck_ok p2_O none [] [(9, [p2_s374]), (10, [p2_s419])] 47 [(5, [some (.inr (.inr (.inl 1))), some (.inl (0, 299, [])), some (.inl (ck_one 1)), some (.inl ((-2147483648), 2147483647, [])), some (.inl (0, 24, []))], ([], [], []), 100, .inl 4, true)] 162 p2_s2019 = true := by decide +kernel
theorem p2_s2019_s {X : Int → Int} {LX : Nat} : ck_Ok p2_O X LX 47 p2_s2019 := ck_ok_s ⟨p2_nmu, ck_E1 (ck_S1 p2_s374_s ck_S0) (ck_E1 (ck_S1 p2_s419_s ck_S0) ck_E0)⟩ ck_X0 ck_l0 p2_s2019_e
set_option maxRecDepth 100000 in
/-- GlacierMail.outs -/
def p2_s2020 : ck_Sum := ((5, 0, 0), 245, [.inr (.inr (.inl 1)), .inl (0, 299, [])], ([], [(3, 8, 0)], []), ([(1, 15, 15), (206, 2, 8), (220, 3, 3), (221, 0, 47)], []), [(.inr (some (.inl ((-2147483648), 2147483647, []))), 245, ([], [], [(1, 15, 15, ck_one 1)]))])
set_option maxRecDepth 100000 in
theorem p2_s2020_e : ck_ok p2_O none [] [(129, [p2_s280]), (24, [p2_s417]), (47, [p2_s2019])] 223 [] 90 p2_s2020 = true := by decide +kernel
theorem p2_s2020_s {X : Int → Int} {LX : Nat} : ck_Ok p2_O X LX 223 p2_s2020 := ck_ok_s ⟨p2_nmu, ck_E1 (ck_S1 p2_s280_s ck_S0) (ck_E1 (ck_S1 p2_s417_s ck_S0) (ck_E1 (ck_S1 p2_s2019_s ck_S0) ck_E0))⟩ ck_X0 ck_l0 p2_s2020_e
set_option maxRecDepth 100000 in
/-- GlacierMailModel.outs -/
def p2_s2021 : ck_Sum := ((2, 0, 0), 245, [.inr (.inr (.inl 226)), .inl ((-2147483648), (-1), [])], ([], [], []), ([(226, 0, 0)], []), [(.inr (some (.inl (ck_one 0))), 245, ([], [], [(226, 0, 0, ck_one 1)]))])
set_option maxRecDepth 100000 in
theorem p2_s2021_e : ck_ok p2_O none [] [(285, [p2_s284]), (282, [p2_s268])] 361 [] 92 p2_s2021 = true := by decide +kernel
theorem p2_s2021_s {X : Int → Int} {LX : Nat} : ck_Ok p2_O X LX 361 p2_s2021 := ck_ok_s ⟨p2_nmu, ck_E1 (ck_S1 p2_s284_s ck_S0) (ck_E1 (ck_S1 p2_s268_s ck_S0) ck_E0)⟩ ck_X0 ck_l0 p2_s2021_e
set_option maxRecDepth 100000 in
/-- GlacierMailModel.outs -/
def p2_s2022 : ck_Sum := ((2, 0, 0), 245, [.inr (.inr (.inl 226)), .inl (300, 2147483647, [])], ([], [], []), ([(226, 0, 0)], []), [(.inr (some (.inl (ck_one 0))), 245, ([], [], [(226, 0, 0, ck_one 1)]))])
set_option maxRecDepth 100000 in
theorem p2_s2022_e : ck_ok p2_O none [] [(285, [p2_s287]), (282, [p2_s268])] 361 [] 92 p2_s2022 = true := by decide +kernel
theorem p2_s2022_s {X : Int → Int} {LX : Nat} : ck_Ok p2_O X LX 361 p2_s2022 := ck_ok_s ⟨p2_nmu, ck_E1 (ck_S1 p2_s287_s ck_S0) (ck_E1 (ck_S1 p2_s268_s ck_S0) ck_E0)⟩ ck_X0 ck_l0 p2_s2022_e
set_option maxRecDepth 100000 in
/-- GlacierMail.outAheadOf -/
def p2_s2037 : ck_Sum := ((1, 0, 0), 245, [.inr (.inr (.inl 1)), .inl (0, 23, [])], ([], [], []), ([], []), [(.inr (some (.inl ((-2147483648), 2147483647, []))), 245, ([], [], []))])
set_option maxRecDepth 100000 in
theorem p2_s2037_e : ck_ok p2_O none [] [(10, [p2_s419]), (9, [p2_s374])] 53 [(15, [some (.inr (.inr (.inl 1))), some (.inl (0, 23, [])), some (.inl ((-2147483648), 299, [])), some (.inl ((-2147483648), 2147483647, [])), some (.inl (0, 24, [])), none, none], ([], [], []), 100, .inl 4, true)] 214 p2_s2037 = true := by decide +kernel
theorem p2_s2037_s {X : Int → Int} {LX : Nat} : ck_Ok p2_O X LX 53 p2_s2037 := ck_ok_s ⟨p2_nmu, ck_E1 (ck_S1 p2_s419_s ck_S0) (ck_E1 (ck_S1 p2_s374_s ck_S0) ck_E0)⟩ ck_X0 ck_l0 p2_s2037_e
set_option maxRecDepth 100000 in
/-- GlacierMail.order -/
def p2_s2038 : ck_Sum := ((5, 0, 0), 245, [.inr (.inr (.inl 1)), .inl ((-2147483648), 2147483647, [])], ([], [(3, 8, 0)], []), ([(1, 15, 15), (206, 2, 8), (220, 3, 3), (221, 0, 47)], []), [(.inr (some (.inl (ck_one (-1)))), 245, ([], [], [(1, 15, 15, ck_one 1)])), (.inr (some (.inl (0, 23, []))), 245, ([], [], [(1, 15, 15, ck_one 1)]))])
set_option maxRecDepth 100000 in
theorem p2_s2038_e : ck_ok p2_O none [] [(24, [p2_s417]), (9, [p2_s374]), (10, [p2_s419]), (53, [p2_s2037])] 52 [(6, [some (.inr (.inr (.inl 1))), some (.inl ((-2147483648), 2147483647, [])), some (.inl (0, 24, []))], ([], [(3, 8, 0)], [(1, 15, 15, ck_one 1)]), 100, .inl 2, true)] 170 p2_s2038 = true := by decide +kernel
theorem p2_s2038_s {X : Int → Int} {LX : Nat} : ck_Ok p2_O X LX 52 p2_s2038 := ck_ok_s ⟨p2_nmu, ck_E1 (ck_S1 p2_s417_s ck_S0) (ck_E1 (ck_S1 p2_s374_s ck_S0) (ck_E1 (ck_S1 p2_s419_s ck_S0) (ck_E1 (ck_S1 p2_s2037_s ck_S0) ck_E0)))⟩ ck_X0 ck_l0 p2_s2038_e
set_option maxRecDepth 100000 in
/-- GlacierMail.streams -/
def p2_s2040 : ck_Sum := ((7, 1, 6), 245, [.inr (.inr (.inl 1)), .inl ((-2147483648), (-1), []), .inl (0, 1, [])], ([], [], []), ([], []), [(.inl 0, 245, ([], [], []))])
set_option maxRecDepth 100000 in
theorem p2_s2040_e : ck_ok p2_O none [] [(129, [p2_s276])] 225 [] 76 p2_s2040 = true := by decide +kernel
theorem p2_s2040_s {X : Int → Int} {LX : Nat} : ck_Ok p2_O X LX 225 p2_s2040 := ck_ok_s ⟨p2_nmu, ck_E1 (ck_S1 p2_s276_s ck_S0) ck_E0⟩ ck_X0 ck_l0 p2_s2040_e
set_option maxRecDepth 100000 in
/-- GlacierMail.streams -/
def p2_s2041 : ck_Sum := ((7, 1, 6), 245, [.inr (.inr (.inl 1)), .inl (300, 2147483647, []), .inl (0, 1, [])], ([], [], []), ([], []), [(.inl 0, 245, ([], [], []))])
set_option maxRecDepth 100000 in
theorem p2_s2041_e : ck_ok p2_O none [] [(129, [p2_s278])] 225 [] 76 p2_s2041 = true := by decide +kernel
theorem p2_s2041_s {X : Int → Int} {LX : Nat} : ck_Ok p2_O X LX 225 p2_s2041 := ck_ok_s ⟨p2_nmu, ck_E1 (ck_S1 p2_s278_s ck_S0) ck_E0⟩ ck_X0 ck_l0 p2_s2041_e
set_option maxRecDepth 100000 in
/-- GlacierMail.streams -/
def p2_s2042 : ck_Sum := ((5, 0, 0), 245, [.inr (.inr (.inl 1)), .inl (0, 299, []), .inl (0, 1, [])], ([], [(3, 8, 0)], []), ([(1, 15, 15), (206, 2, 8), (220, 3, 3), (221, 0, 47)], []), [(.inr (some (.inl ((-2147483648), 2147483647, []))), 245, ([], [], [(1, 15, 15, ck_one 1)]))])
set_option maxRecDepth 100000 in
theorem p2_s2042_e : ck_ok p2_O none [] [(129, [p2_s280]), (24, [p2_s417]), (9, [p2_s374]), (10, [p2_s375, p2_s419]), (67, [p2_s420])] 225 [(14, [some (.inr (.inr (.inl 1))), some (.inl (0, 299, [])), some (.inl (0, 1, [])), some (.inl ((-2147483648), 2147483647, [])), some (.inl (0, 24, [])), none], ([], [(3, 8, 0)], [(1, 15, 15, ck_one 1)]), 100, .inl 4, true)] 226 p2_s2042 = true := by decide +kernel
theorem p2_s2042_s {X : Int → Int} {LX : Nat} : ck_Ok p2_O X LX 225 p2_s2042 := ck_ok_s ⟨p2_nmu, ck_E1 (ck_S1 p2_s280_s ck_S0) (ck_E1 (ck_S1 p2_s417_s ck_S0) (ck_E1 (ck_S1 p2_s374_s ck_S0) (ck_E1 (ck_S1 p2_s375_s (ck_S1 p2_s419_s ck_S0)) (ck_E1 (ck_S1 p2_s420_s ck_S0) ck_E0))))⟩ ck_X0 ck_l0 p2_s2042_e
set_option maxRecDepth 100000 in
/-- GlacierMailModel.streams -/
def p2_s2043 : ck_Sum := ((2, 0, 0), 245, [.inr (.inr (.inl 226)), .inl ((-2147483648), (-1), []), .inl (0, 1, [])], ([], [], []), ([(226, 0, 0)], []), [(.inr (some (.inl (ck_one 0))), 245, ([], [], [(226, 0, 0, ck_one 1)]))])
set_option maxRecDepth 100000 in
theorem p2_s2043_e : ck_ok p2_O none [] [(285, [p2_s284]), (282, [p2_s268])] 363 [] 92 p2_s2043 = true := by decide +kernel
theorem p2_s2043_s {X : Int → Int} {LX : Nat} : ck_Ok p2_O X LX 363 p2_s2043 := ck_ok_s ⟨p2_nmu, ck_E1 (ck_S1 p2_s284_s ck_S0) (ck_E1 (ck_S1 p2_s268_s ck_S0) ck_E0)⟩ ck_X0 ck_l0 p2_s2043_e
set_option maxRecDepth 100000 in
/-- GlacierMailModel.streams -/
def p2_s2044 : ck_Sum := ((2, 0, 0), 245, [.inr (.inr (.inl 226)), .inl (300, 2147483647, []), .inl (0, 1, [])], ([], [], []), ([(226, 0, 0)], []), [(.inr (some (.inl (ck_one 0))), 245, ([], [], [(226, 0, 0, ck_one 1)]))])
set_option maxRecDepth 100000 in
theorem p2_s2044_e : ck_ok p2_O none [] [(285, [p2_s287]), (282, [p2_s268])] 363 [] 92 p2_s2044 = true := by decide +kernel
theorem p2_s2044_s {X : Int → Int} {LX : Nat} : ck_Ok p2_O X LX 363 p2_s2044 := ck_ok_s ⟨p2_nmu, ck_E1 (ck_S1 p2_s287_s ck_S0) (ck_E1 (ck_S1 p2_s268_s ck_S0) ck_E0)⟩ ck_X0 ck_l0 p2_s2044_e
set_option maxRecDepth 100000 in
/-- GlacierMail.range -/
def p2_s2046 : ck_Sum := ((8, 1, 6), 245, [.inr (.inr (.inl 1)), .inl ((-2147483648), (-1), []), .inl ((-2147483648), 2147483647, [])], ([], [], []), ([], []), [(.inl 3, 245, ([], [], []))])
set_option maxRecDepth 100000 in
theorem p2_s2046_e : ck_ok p2_O none [] [(132, [p2_s293])] 227 [] 76 p2_s2046 = true := by decide +kernel
theorem p2_s2046_s {X : Int → Int} {LX : Nat} : ck_Ok p2_O X LX 227 p2_s2046 := ck_ok_s ⟨p2_nmu, ck_E1 (ck_S1 p2_s293_s ck_S0) ck_E0⟩ ck_X0 ck_l0 p2_s2046_e
set_option maxRecDepth 100000 in
/-- GlacierMail.range -/
def p2_s2047 : ck_Sum := ((8, 1, 6), 245, [.inr (.inr (.inl 1)), .inl (6, 2147483647, []), .inl ((-2147483648), 2147483647, [])], ([], [], []), ([], []), [(.inl 3, 245, ([], [], []))])
set_option maxRecDepth 100000 in
theorem p2_s2047_e : ck_ok p2_O none [] [(132, [p2_s296])] 227 [] 76 p2_s2047 = true := by decide +kernel
theorem p2_s2047_s {X : Int → Int} {LX : Nat} : ck_Ok p2_O X LX 227 p2_s2047 := ck_ok_s ⟨p2_nmu, ck_E1 (ck_S1 p2_s296_s ck_S0) ck_E0⟩ ck_X0 ck_l0 p2_s2047_e
set_option maxRecDepth 100000 in
/-- GlacierMail.range -/
def p2_s2048 : ck_Sum := ((8, 2, 12), 245, [.inr (.inr (.inl 1)), .inl (0, 5, []), .inl ((-2147483648), (-1), [])], ([], [], []), ([], []), [(.inl 3, 245, ([], [], [])), (.inl 0, 245, ([], [], []))])
set_option maxRecDepth 100000 in
theorem p2_s2048_e : ck_ok p2_O none [] [(132, [p2_s299]), (129, [p2_s276])] 227 [] 82 p2_s2048 = true := by decide +kernel
theorem p2_s2048_s {X : Int → Int} {LX : Nat} : ck_Ok p2_O X LX 227 p2_s2048 := ck_ok_s ⟨p2_nmu, ck_E1 (ck_S1 p2_s299_s ck_S0) (ck_E1 (ck_S1 p2_s276_s ck_S0) ck_E0)⟩ ck_X0 ck_l0 p2_s2048_e
set_option maxRecDepth 100000 in
/-- GlacierMail.range -/
def p2_s2049 : ck_Sum := ((8, 2, 12), 245, [.inr (.inr (.inl 1)), .inl (0, 5, []), .inl (300, 2147483647, [])], ([], [], []), ([], []), [(.inl 3, 245, ([], [], [])), (.inl 0, 245, ([], [], []))])
set_option maxRecDepth 100000 in
theorem p2_s2049_e : ck_ok p2_O none [] [(132, [p2_s299]), (129, [p2_s278])] 227 [] 82 p2_s2049 = true := by decide +kernel
theorem p2_s2049_s {X : Int → Int} {LX : Nat} : ck_Ok p2_O X LX 227 p2_s2049 := ck_ok_s ⟨p2_nmu, ck_E1 (ck_S1 p2_s299_s ck_S0) (ck_E1 (ck_S1 p2_s278_s ck_S0) ck_E0)⟩ ck_X0 ck_l0 p2_s2049_e
set_option maxRecDepth 100000 in
/-- GlacierMail.range -/
def p2_s2050 : ck_Sum := ((8, 1, 6), 245, [.inr (.inr (.inl 1)), .inl (0, 5, []), .inl (0, 299, [])], ([], [(3, 8, 0)], []), ([(206, 2, 8)], []), [(.inl 3, 245, ([], [], [])), (.inr (some (.inl ((-2147483648), 2147483647, []))), 245, ([], [], [(206, 4, 4, ck_one (-1))]))])
set_option maxRecDepth 100000 in
theorem p2_s2050_e : ck_ok p2_O none [] [(132, [p2_s299]), (129, [p2_s280]), (29, [p2_s1530]), (30, [p2_s386])] 227 [] 120 p2_s2050 = true := by decide +kernel
theorem p2_s2050_s {X : Int → Int} {LX : Nat} : ck_Ok p2_O X LX 227 p2_s2050 := ck_ok_s ⟨p2_nmu, ck_E1 (ck_S1 p2_s299_s ck_S0) (ck_E1 (ck_S1 p2_s280_s ck_S0) (ck_E1 (ck_S1 p2_s1530_s ck_S0) (ck_E1 (ck_S1 p2_s386_s ck_S0) ck_E0)))⟩ ck_X0 ck_l0 p2_s2050_e
set_option maxRecDepth 100000 in
/-- GlacierMailModel.range -/
def p2_s2051 : ck_Sum := ((2, 0, 0), 245, [.inr (.inr (.inl 226)), .inl ((-2147483648), (-1), []), .inl ((-2147483648), 2147483647, [])], ([], [], []), ([(226, 0, 0)], []), [(.inr (some (.inl (ck_one 0))), 245, ([], [], [(226, 0, 0, ck_one 1)]))])
set_option maxRecDepth 100000 in
theorem p2_s2051_e : ck_ok p2_O none [] [(288, [p2_s311]), (282, [p2_s268])] 364 [] 94 p2_s2051 = true := by decide +kernel
theorem p2_s2051_s {X : Int → Int} {LX : Nat} : ck_Ok p2_O X LX 364 p2_s2051 := ck_ok_s ⟨p2_nmu, ck_E1 (ck_S1 p2_s311_s ck_S0) (ck_E1 (ck_S1 p2_s268_s ck_S0) ck_E0)⟩ ck_X0 ck_l0 p2_s2051_e
set_option maxRecDepth 100000 in
/-- GlacierMailModel.range -/
def p2_s2052 : ck_Sum := ((2, 0, 0), 245, [.inr (.inr (.inl 226)), .inl (6, 2147483647, []), .inl ((-2147483648), 2147483647, [])], ([], [], []), ([(226, 0, 0)], []), [(.inr (some (.inl (ck_one 0))), 245, ([], [], [(226, 0, 0, ck_one 1)]))])
set_option maxRecDepth 100000 in
theorem p2_s2052_e : ck_ok p2_O none [] [(288, [p2_s314]), (282, [p2_s268])] 364 [] 94 p2_s2052 = true := by decide +kernel
theorem p2_s2052_s {X : Int → Int} {LX : Nat} : ck_Ok p2_O X LX 364 p2_s2052 := ck_ok_s ⟨p2_nmu, ck_E1 (ck_S1 p2_s314_s ck_S0) (ck_E1 (ck_S1 p2_s268_s ck_S0) ck_E0)⟩ ck_X0 ck_l0 p2_s2052_e
set_option maxRecDepth 100000 in
/-- GlacierMailModel.range -/
def p2_s2053 : ck_Sum := ((2, 0, 0), 245, [.inr (.inr (.inl 226)), .inl (0, 5, []), .inl ((-2147483648), (-1), [])], ([], [], []), ([(226, 0, 0)], []), [(.inr (some (.inl (ck_one 0))), 245, ([], [], [(226, 0, 0, (1, 2, []))]))])
set_option maxRecDepth 100000 in
theorem p2_s2053_e : ck_ok p2_O none [] [(288, [p2_s317]), (282, [p2_s268, p2_s269, p2_s272]), (285, [p2_s284])] 364 [] 106 p2_s2053 = true := by decide +kernel
theorem p2_s2053_s {X : Int → Int} {LX : Nat} : ck_Ok p2_O X LX 364 p2_s2053 := ck_ok_s ⟨p2_nmu, ck_E1 (ck_S1 p2_s317_s ck_S0) (ck_E1 (ck_S1 p2_s268_s (ck_S1 p2_s269_s (ck_S1 p2_s272_s ck_S0))) (ck_E1 (ck_S1 p2_s284_s ck_S0) ck_E0))⟩ ck_X0 ck_l0 p2_s2053_e
set_option maxRecDepth 100000 in
/-- GlacierMailModel.range -/
def p2_s2054 : ck_Sum := ((2, 0, 0), 245, [.inr (.inr (.inl 226)), .inl (0, 5, []), .inl (300, 2147483647, [])], ([], [], []), ([(226, 0, 0)], []), [(.inr (some (.inl (ck_one 0))), 245, ([], [], [(226, 0, 0, (1, 2, []))]))])
set_option maxRecDepth 100000 in
theorem p2_s2054_e : ck_ok p2_O none [] [(288, [p2_s317]), (282, [p2_s268, p2_s269, p2_s272]), (285, [p2_s287])] 364 [] 106 p2_s2054 = true := by decide +kernel
theorem p2_s2054_s {X : Int → Int} {LX : Nat} : ck_Ok p2_O X LX 364 p2_s2054 := ck_ok_s ⟨p2_nmu, ck_E1 (ck_S1 p2_s317_s ck_S0) (ck_E1 (ck_S1 p2_s268_s (ck_S1 p2_s269_s (ck_S1 p2_s272_s ck_S0))) (ck_E1 (ck_S1 p2_s287_s ck_S0) ck_E0))⟩ ck_X0 ck_l0 p2_s2054_e
set_option maxRecDepth 100000 in
/-- GlacierMail.swiftest -/
def p2_s2056 : ck_Sum := ((8, 1, 6), 245, [.inr (.inr (.inl 1)), .inl ((-2147483648), (-1), []), .inl ((-2147483648), 2147483647, [])], ([], [], []), ([], []), [(.inl 3, 245, ([], [], []))])
set_option maxRecDepth 100000 in
theorem p2_s2056_e : ck_ok p2_O none [] [(134, [p2_s301])] 229 [] 76 p2_s2056 = true := by decide +kernel
theorem p2_s2056_s {X : Int → Int} {LX : Nat} : ck_Ok p2_O X LX 229 p2_s2056 := ck_ok_s ⟨p2_nmu, ck_E1 (ck_S1 p2_s301_s ck_S0) ck_E0⟩ ck_X0 ck_l0 p2_s2056_e
set_option maxRecDepth 100000 in
/-- GlacierMail.swiftest -/
def p2_s2057 : ck_Sum := ((8, 1, 6), 245, [.inr (.inr (.inl 1)), .inl (99, 2147483647, []), .inl ((-2147483648), 2147483647, [])], ([], [], []), ([], []), [(.inl 3, 245, ([], [], []))])
set_option maxRecDepth 100000 in
theorem p2_s2057_e : ck_ok p2_O none [] [(134, [p2_s304])] 229 [] 76 p2_s2057 = true := by decide +kernel
theorem p2_s2057_s {X : Int → Int} {LX : Nat} : ck_Ok p2_O X LX 229 p2_s2057 := ck_ok_s ⟨p2_nmu, ck_E1 (ck_S1 p2_s304_s ck_S0) ck_E0⟩ ck_X0 ck_l0 p2_s2057_e
set_option maxRecDepth 100000 in
/-- GlacierMail.swiftest -/
def p2_s2058 : ck_Sum := ((8, 2, 12), 245, [.inr (.inr (.inl 1)), .inl (0, 98, []), .inl ((-2147483648), (-1), [])], ([], [], []), ([], []), [(.inl 3, 245, ([], [], [])), (.inl 0, 245, ([], [], []))])
set_option maxRecDepth 100000 in
theorem p2_s2058_e : ck_ok p2_O none [] [(134, [p2_s307]), (129, [p2_s276])] 229 [] 82 p2_s2058 = true := by decide +kernel
theorem p2_s2058_s {X : Int → Int} {LX : Nat} : ck_Ok p2_O X LX 229 p2_s2058 := ck_ok_s ⟨p2_nmu, ck_E1 (ck_S1 p2_s307_s ck_S0) (ck_E1 (ck_S1 p2_s276_s ck_S0) ck_E0)⟩ ck_X0 ck_l0 p2_s2058_e
set_option maxRecDepth 100000 in
/-- GlacierMail.swiftest -/
def p2_s2059 : ck_Sum := ((8, 2, 12), 245, [.inr (.inr (.inl 1)), .inl (0, 98, []), .inl (300, 2147483647, [])], ([], [], []), ([], []), [(.inl 3, 245, ([], [], [])), (.inl 0, 245, ([], [], []))])
set_option maxRecDepth 100000 in
theorem p2_s2059_e : ck_ok p2_O none [] [(134, [p2_s307]), (129, [p2_s278])] 229 [] 82 p2_s2059 = true := by decide +kernel
theorem p2_s2059_s {X : Int → Int} {LX : Nat} : ck_Ok p2_O X LX 229 p2_s2059 := ck_ok_s ⟨p2_nmu, ck_E1 (ck_S1 p2_s307_s ck_S0) (ck_E1 (ck_S1 p2_s278_s ck_S0) ck_E0)⟩ ck_X0 ck_l0 p2_s2059_e
set_option maxRecDepth 100000 in
/-- GlacierMail.swiftest -/
def p2_s2060 : ck_Sum := ((8, 1, 6), 245, [.inr (.inr (.inl 1)), .inl (0, 98, []), .inl (0, 299, [])], ([], [(3, 8, 0)], []), ([(206, 2, 8)], []), [(.inl 3, 245, ([], [], [])), (.inr (some (.inl ((-1), 5, []))), 245, ([], [], []))])
set_option maxRecDepth 100000 in
theorem p2_s2060_e : ck_ok p2_O none [] [(134, [p2_s307]), (129, [p2_s280]), (29, [p2_s1530]), (30, [p2_s386])] 229 [(20, [some (.inr (.inr (.inl 1))), some (.inl (0, 98, [])), some (.inl (0, 299, [])), some (.inl ((-1), 5, [])), some (.inl ((-2147483648), 300, [])), some (.inl (0, 6, [])), none], ([], [(3, 8, 0)], []), 100, .inl 5, true)] 210 p2_s2060 = true := by decide +kernel
theorem p2_s2060_s {X : Int → Int} {LX : Nat} : ck_Ok p2_O X LX 229 p2_s2060 := ck_ok_s ⟨p2_nmu, ck_E1 (ck_S1 p2_s307_s ck_S0) (ck_E1 (ck_S1 p2_s280_s ck_S0) (ck_E1 (ck_S1 p2_s1530_s ck_S0) (ck_E1 (ck_S1 p2_s386_s ck_S0) ck_E0)))⟩ ck_X0 ck_l0 p2_s2060_e
set_option maxRecDepth 100000 in
/-- GlacierMailModel.swiftest -/
def p2_s2061 : ck_Sum := ((2, 0, 0), 245, [.inr (.inr (.inl 226)), .inl ((-2147483648), (-1), []), .inl ((-2147483648), 2147483647, [])], ([], [], []), ([(226, 0, 0)], []), [(.inr (some (.inl (ck_one 0))), 245, ([], [], [(226, 0, 0, ck_one 1)]))])
set_option maxRecDepth 100000 in
theorem p2_s2061_e : ck_ok p2_O none [] [(289, [p2_s319]), (282, [p2_s268])] 365 [] 94 p2_s2061 = true := by decide +kernel
theorem p2_s2061_s {X : Int → Int} {LX : Nat} : ck_Ok p2_O X LX 365 p2_s2061 := ck_ok_s ⟨p2_nmu, ck_E1 (ck_S1 p2_s319_s ck_S0) (ck_E1 (ck_S1 p2_s268_s ck_S0) ck_E0)⟩ ck_X0 ck_l0 p2_s2061_e
set_option maxRecDepth 100000 in
/-- GlacierMailModel.swiftest -/
def p2_s2062 : ck_Sum := ((2, 0, 0), 245, [.inr (.inr (.inl 226)), .inl (99, 2147483647, []), .inl ((-2147483648), 2147483647, [])], ([], [], []), ([(226, 0, 0)], []), [(.inr (some (.inl (ck_one 0))), 245, ([], [], [(226, 0, 0, ck_one 1)]))])
set_option maxRecDepth 100000 in
theorem p2_s2062_e : ck_ok p2_O none [] [(289, [p2_s322]), (282, [p2_s268])] 365 [] 94 p2_s2062 = true := by decide +kernel
theorem p2_s2062_s {X : Int → Int} {LX : Nat} : ck_Ok p2_O X LX 365 p2_s2062 := ck_ok_s ⟨p2_nmu, ck_E1 (ck_S1 p2_s322_s ck_S0) (ck_E1 (ck_S1 p2_s268_s ck_S0) ck_E0)⟩ ck_X0 ck_l0 p2_s2062_e
set_option maxRecDepth 100000 in
/-- GlacierMailModel.swiftest -/
def p2_s2063 : ck_Sum := ((2, 0, 0), 245, [.inr (.inr (.inl 226)), .inl (0, 98, []), .inl ((-2147483648), (-1), [])], ([], [], []), ([(226, 0, 0)], []), [(.inr (some (.inl (ck_one 0))), 245, ([], [], [(226, 0, 0, (1, 2, []))]))])
set_option maxRecDepth 100000 in
theorem p2_s2063_e : ck_ok p2_O none [] [(289, [p2_s325]), (282, [p2_s268, p2_s269, p2_s272]), (285, [p2_s284])] 365 [] 106 p2_s2063 = true := by decide +kernel
theorem p2_s2063_s {X : Int → Int} {LX : Nat} : ck_Ok p2_O X LX 365 p2_s2063 := ck_ok_s ⟨p2_nmu, ck_E1 (ck_S1 p2_s325_s ck_S0) (ck_E1 (ck_S1 p2_s268_s (ck_S1 p2_s269_s (ck_S1 p2_s272_s ck_S0))) (ck_E1 (ck_S1 p2_s284_s ck_S0) ck_E0))⟩ ck_X0 ck_l0 p2_s2063_e
set_option maxRecDepth 100000 in
/-- GlacierMailModel.swiftest -/
def p2_s2064 : ck_Sum := ((2, 0, 0), 245, [.inr (.inr (.inl 226)), .inl (0, 98, []), .inl (300, 2147483647, [])], ([], [], []), ([(226, 0, 0)], []), [(.inr (some (.inl (ck_one 0))), 245, ([], [], [(226, 0, 0, (1, 2, []))]))])
set_option maxRecDepth 100000 in
theorem p2_s2064_e : ck_ok p2_O none [] [(289, [p2_s325]), (282, [p2_s268, p2_s269, p2_s272]), (285, [p2_s287])] 365 [] 106 p2_s2064 = true := by decide +kernel
theorem p2_s2064_s {X : Int → Int} {LX : Nat} : ck_Ok p2_O X LX 365 p2_s2064 := ck_ok_s ⟨p2_nmu, ck_E1 (ck_S1 p2_s325_s ck_S0) (ck_E1 (ck_S1 p2_s268_s (ck_S1 p2_s269_s (ck_S1 p2_s272_s ck_S0))) (ck_E1 (ck_S1 p2_s287_s ck_S0) ck_E0))⟩ ck_X0 ck_l0 p2_s2064_e
set_option maxRecDepth 100000 in
/-- GlacierMail.bare -/
def p2_s2066 : ck_Sum := ((7, 1, 6), 245, [.inr (.inr (.inl 1)), .inl ((-2147483648), (-1), [])], ([], [], []), ([], []), [(.inl 0, 245, ([], [], []))])
set_option maxRecDepth 100000 in
theorem p2_s2066_e : ck_ok p2_O none [] [(129, [p2_s276])] 231 [] 76 p2_s2066 = true := by decide +kernel
theorem p2_s2066_s {X : Int → Int} {LX : Nat} : ck_Ok p2_O X LX 231 p2_s2066 := ck_ok_s ⟨p2_nmu, ck_E1 (ck_S1 p2_s276_s ck_S0) ck_E0⟩ ck_X0 ck_l0 p2_s2066_e
set_option maxRecDepth 100000 in
/-- GlacierMail.bare -/
def p2_s2067 : ck_Sum := ((7, 1, 6), 245, [.inr (.inr (.inl 1)), .inl (300, 2147483647, [])], ([], [], []), ([], []), [(.inl 0, 245, ([], [], []))])
set_option maxRecDepth 100000 in
theorem p2_s2067_e : ck_ok p2_O none [] [(129, [p2_s278])] 231 [] 76 p2_s2067 = true := by decide +kernel
theorem p2_s2067_s {X : Int → Int} {LX : Nat} : ck_Ok p2_O X LX 231 p2_s2067 := ck_ok_s ⟨p2_nmu, ck_E1 (ck_S1 p2_s278_s ck_S0) ck_E0⟩ ck_X0 ck_l0 p2_s2067_e
set_option maxRecDepth 100000 in
/-- GlacierMail.bare -/
def p2_s2068 : ck_Sum := ((4, 0, 0), 245, [.inr (.inr (.inl 1)), .inl (0, 299, [])], ([], [(3, 8, 0)], []), ([(206, 2, 8)], []), [(.inr (some (.inl ((-2147483648), 2147483647, []))), 245, ([], [], []))])
set_option maxRecDepth 100000 in
theorem p2_s2068_e : ck_ok p2_O none [] [(129, [p2_s280]), (9, [p2_s371]), (10, [p2_s375]), (27, [p2_s379]), (148, [p2_s559]), (31, [p2_s380])] 231 [(9, [some (.inr (.inr (.inl 1))), some (.inl (0, 299, [])), some (.inl ((-2147483648), 2147483647, [])), some (.inl (0, 24, []))], ([], [(3, 8, 0)], []), 100, .inl 3, true)] 246 p2_s2068 = true := by decide +kernel
theorem p2_s2068_s {X : Int → Int} {LX : Nat} : ck_Ok p2_O X LX 231 p2_s2068 := ck_ok_s ⟨p2_nmu, ck_E1 (ck_S1 p2_s280_s ck_S0) (ck_E1 (ck_S1 p2_s371_s ck_S0) (ck_E1 (ck_S1 p2_s375_s ck_S0) (ck_E1 (ck_S1 p2_s379_s ck_S0) (ck_E1 (ck_S1 p2_s559_s ck_S0) (ck_E1 (ck_S1 p2_s380_s ck_S0) ck_E0)))))⟩ ck_X0 ck_l0 p2_s2068_e
set_option maxRecDepth 100000 in
/-- GlacierMailModel.bare -/
def p2_s2069 : ck_Sum := ((2, 0, 0), 245, [.inr (.inr (.inl 226)), .inl ((-2147483648), (-1), [])], ([], [], []), ([(226, 0, 0)], []), [(.inr (some (.inl (ck_one 0))), 245, ([], [], [(226, 0, 0, ck_one 1)]))])
set_option maxRecDepth 100000 in
theorem p2_s2069_e : ck_ok p2_O none [] [(285, [p2_s284]), (282, [p2_s268])] 366 [] 92 p2_s2069 = true := by decide +kernel
theorem p2_s2069_s {X : Int → Int} {LX : Nat} : ck_Ok p2_O X LX 366 p2_s2069 := ck_ok_s ⟨p2_nmu, ck_E1 (ck_S1 p2_s284_s ck_S0) (ck_E1 (ck_S1 p2_s268_s ck_S0) ck_E0)⟩ ck_X0 ck_l0 p2_s2069_e
set_option maxRecDepth 100000 in
/-- GlacierMailModel.bare -/
def p2_s2070 : ck_Sum := ((2, 0, 0), 245, [.inr (.inr (.inl 226)), .inl (300, 2147483647, [])], ([], [], []), ([(226, 0, 0)], []), [(.inr (some (.inl (ck_one 0))), 245, ([], [], [(226, 0, 0, ck_one 1)]))])
set_option maxRecDepth 100000 in
theorem p2_s2070_e : ck_ok p2_O none [] [(285, [p2_s287]), (282, [p2_s268])] 366 [] 92 p2_s2070 = true := by decide +kernel
theorem p2_s2070_s {X : Int → Int} {LX : Nat} : ck_Ok p2_O X LX 366 p2_s2070 := ck_ok_s ⟨p2_nmu, ck_E1 (ck_S1 p2_s287_s ck_S0) (ck_E1 (ck_S1 p2_s268_s ck_S0) ck_E0)⟩ ck_X0 ck_l0 p2_s2070_e
set_option maxRecDepth 100000 in
/-- GlacierMail$Rows.get -/
def p2_s2072 : ck_Sum := ((0, 0, 0), 245, [.inr (.inr (.inl 14)), .inl ((-2147483648), 2147483647, []), .inl ((-2147483648), 2147483647, [])], ([], [], []), ([], []), [(.inr (some (.inl ((-1), 299, []))), 245, ([], [], []))])
set_option maxRecDepth 100000 in
theorem p2_s2072_e : ck_ok p2_O none [] [] 10 [] 114 p2_s2072 = true := by decide +kernel
theorem p2_s2072_s {X : Int → Int} {LX : Nat} : ck_Ok p2_O X LX 10 p2_s2072 := ck_ok_s ⟨p2_nmu, ck_E0⟩ ck_X0 ck_l0 p2_s2072_e
set_option maxRecDepth 100000 in
/-- GlacierMail.log -/
def p2_s2073 : ck_Sum := ((6, 1, 6), 245, [.inr (.inr (.inl 1)), .inl ((-2147483648), (-1), []), .inl ((-2147483648), 2147483647, [])], ([], [], []), ([], []), [(.inl 4, 245, ([], [], [])), (.inr (some (.inl ((-1), 299, []))), 245, ([], [], []))])
set_option maxRecDepth 100000 in
theorem p2_s2073_e : ck_ok p2_O none [] [(10, [p2_s2072])] 233 [] 94 p2_s2073 = true := by decide +kernel
theorem p2_s2073_s {X : Int → Int} {LX : Nat} : ck_Ok p2_O X LX 233 p2_s2073 := ck_ok_s ⟨p2_nmu, ck_E1 (ck_S1 p2_s2072_s ck_S0) ck_E0⟩ ck_X0 ck_l0 p2_s2073_e
set_option maxRecDepth 100000 in
/-- GlacierMail.log -/
def p2_s2074 : ck_Sum := ((6, 1, 6), 245, [.inr (.inr (.inl 1)), .inl (24, 2147483647, []), .inl ((-2147483648), 2147483647, [])], ([], [], []), ([], []), [(.inl 4, 245, ([], [], [])), (.inr (some (.inl ((-1), 299, []))), 245, ([], [], []))])
set_option maxRecDepth 100000 in
theorem p2_s2074_e : ck_ok p2_O none [] [(10, [p2_s2072])] 233 [] 94 p2_s2074 = true := by decide +kernel
theorem p2_s2074_s {X : Int → Int} {LX : Nat} : ck_Ok p2_O X LX 233 p2_s2074 := ck_ok_s ⟨p2_nmu, ck_E1 (ck_S1 p2_s2072_s ck_S0) ck_E0⟩ ck_X0 ck_l0 p2_s2074_e
set_option maxRecDepth 100000 in
/-- GlacierMail.log -/
def p2_s2075 : ck_Sum := ((6, 1, 6), 245, [.inr (.inr (.inl 1)), .inl (0, 23, []), .inl ((-2147483648), (-1), [])], ([], [], []), ([], []), [(.inl 4, 245, ([], [], []))])
set_option maxRecDepth 100000 in
theorem p2_s2075_e : ck_ok p2_O none [] [] 233 [] 76 p2_s2075 = true := by decide +kernel
theorem p2_s2075_s {X : Int → Int} {LX : Nat} : ck_Ok p2_O X LX 233 p2_s2075 := ck_ok_s ⟨p2_nmu, ck_E0⟩ ck_X0 ck_l0 p2_s2075_e
set_option maxRecDepth 100000 in
/-- GlacierMail.log -/
def p2_s2076 : ck_Sum := ((6, 1, 6), 245, [.inr (.inr (.inl 1)), .inl (0, 23, []), .inl (10, 2147483647, [])], ([], [], []), ([], []), [(.inl 4, 245, ([], [], []))])
set_option maxRecDepth 100000 in
theorem p2_s2076_e : ck_ok p2_O none [] [] 233 [] 82 p2_s2076 = true := by decide +kernel
theorem p2_s2076_s {X : Int → Int} {LX : Nat} : ck_Ok p2_O X LX 233 p2_s2076 := ck_ok_s ⟨p2_nmu, ck_E0⟩ ck_X0 ck_l0 p2_s2076_e
set_option maxRecDepth 100000 in
/-- GlacierMail.log -/
def p2_s2077 : ck_Sum := ((6, 1, 6), 245, [.inr (.inr (.inl 1)), .inl (0, 23, []), .inl (0, 9, [])], ([], [], []), ([], []), [(.inr (some (.inl ((-1), 299, []))), 245, ([], [], [])), (.inl 4, 245, ([], [], []))])
set_option maxRecDepth 100000 in
theorem p2_s2077_e : ck_ok p2_O none [] [(10, [p2_s2072])] 233 [] 94 p2_s2077 = true := by decide +kernel
theorem p2_s2077_s {X : Int → Int} {LX : Nat} : ck_Ok p2_O X LX 233 p2_s2077 := ck_ok_s ⟨p2_nmu, ck_E1 (ck_S1 p2_s2072_s ck_S0) ck_E0⟩ ck_X0 ck_l0 p2_s2077_e
set_option maxRecDepth 100000 in
/-- GlacierMailModel.in -/
def p2_s2078 : ck_Sum := ((0, 0, 0), 245, [.inl ((-2147483648), 2147483647, []), .inl (ck_one 0), .inl (ck_one 2)], ([], [], []), ([], []), [(.inr (some (.inl (ck_one 0))), 245, ([], [], [])), (.inr (some (.inl (ck_one 1))), 245, ([], [], []))])
set_option maxRecDepth 100000 in
theorem p2_s2078_e : ck_ok p2_O none [] [] 286 [] 88 p2_s2078 = true := by decide +kernel
theorem p2_s2078_s {X : Int → Int} {LX : Nat} : ck_Ok p2_O X LX 286 p2_s2078 := ck_ok_s ⟨p2_nmu, ck_E0⟩ ck_X0 ck_l0 p2_s2078_e
set_option maxRecDepth 100000 in
/-- GlacierMailModel.log -/
def p2_s2079 : ck_Sum := ((1, 0, 0), 245, [.inr (.inr (.inl 226)), .inl ((-2147483648), (-1), []), .inl ((-2147483648), 2147483647, [])], ([], [], [(227, 14, 14, (0, 24, [(26, 0)]))]), ([(226, 0, 0)], []), [(.inr (some (.inl (ck_one 0))), 245, ([], [], [(226, 0, 0, ck_one 1)])), (.inr (some (.inl (ck_one (-1)))), 245, ([], [], [(226, 0, 0, ck_one 0)]))])
set_option maxRecDepth 100000 in
theorem p2_s2079_e : ck_ok p2_O none [] [(286, [p2_s2078, p2_s537]), (282, [p2_s268, p2_s269])] 367 [] 120 p2_s2079 = true := by decide +kernel
theorem p2_s2079_s {X : Int → Int} {LX : Nat} : ck_Ok p2_O X LX 367 p2_s2079 := ck_ok_s ⟨p2_nmu, ck_E1 (ck_S1 p2_s2078_s (ck_S1 p2_s537_s ck_S0)) (ck_E1 (ck_S1 p2_s268_s (ck_S1 p2_s269_s ck_S0)) ck_E0)⟩ ck_X0 ck_l0 p2_s2079_e
set_option maxRecDepth 100000 in
/-- GlacierMailModel.log -/
def p2_s2080 : ck_Sum := ((1, 0, 0), 245, [.inr (.inr (.inl 226)), .inl (24, 2147483647, []), .inl ((-2147483648), 2147483647, [])], ([], [], [(227, 14, 14, (0, 24, [(26, 0)]))]), ([(226, 0, 0)], []), [(.inr (some (.inl (ck_one 0))), 245, ([], [], [(226, 0, 0, ck_one 1)])), (.inr (some (.inl (ck_one (-1)))), 245, ([], [], [(226, 0, 0, ck_one 0)]))])
set_option maxRecDepth 100000 in
theorem p2_s2080_e : ck_ok p2_O none [] [(286, [p2_s2078, p2_s540]), (282, [p2_s268, p2_s269])] 367 [] 120 p2_s2080 = true := by decide +kernel
theorem p2_s2080_s {X : Int → Int} {LX : Nat} : ck_Ok p2_O X LX 367 p2_s2080 := ck_ok_s ⟨p2_nmu, ck_E1 (ck_S1 p2_s2078_s (ck_S1 p2_s540_s ck_S0)) (ck_E1 (ck_S1 p2_s268_s (ck_S1 p2_s269_s ck_S0)) ck_E0)⟩ ck_X0 ck_l0 p2_s2080_e
set_option maxRecDepth 100000 in
/-- GlacierMailModel.log -/
def p2_s2081 : ck_Sum := ((1, 0, 0), 245, [.inr (.inr (.inl 226)), .inl (0, 23, []), .inl ((-2147483648), (-1), [])], ([], [], []), ([(226, 0, 0)], []), [(.inr (some (.inl (ck_one 0))), 245, ([], [], [(226, 0, 0, ck_one 1)]))])
set_option maxRecDepth 100000 in
theorem p2_s2081_e : ck_ok p2_O none [] [(286, [p2_s1538]), (282, [p2_s268])] 367 [] 102 p2_s2081 = true := by decide +kernel
theorem p2_s2081_s {X : Int → Int} {LX : Nat} : ck_Ok p2_O X LX 367 p2_s2081 := ck_ok_s ⟨p2_nmu, ck_E1 (ck_S1 p2_s1538_s ck_S0) (ck_E1 (ck_S1 p2_s268_s ck_S0) ck_E0)⟩ ck_X0 ck_l0 p2_s2081_e
set_option maxRecDepth 100000 in
/-- GlacierMailModel.log -/
def p2_s2082 : ck_Sum := ((1, 0, 0), 245, [.inr (.inr (.inl 226)), .inl (0, 23, []), .inl (10, 2147483647, [])], ([], [], []), ([(226, 0, 0)], []), [(.inr (some (.inl (ck_one 0))), 245, ([], [], [(226, 0, 0, ck_one 1)]))])
set_option maxRecDepth 100000 in
theorem p2_s2082_e : ck_ok p2_O none [] [(286, [p2_s1540]), (282, [p2_s268])] 367 [] 102 p2_s2082 = true := by decide +kernel
theorem p2_s2082_s {X : Int → Int} {LX : Nat} : ck_Ok p2_O X LX 367 p2_s2082 := ck_ok_s ⟨p2_nmu, ck_E1 (ck_S1 p2_s1540_s ck_S0) (ck_E1 (ck_S1 p2_s268_s ck_S0) ck_E0)⟩ ck_X0 ck_l0 p2_s2082_e
set_option maxRecDepth 100000 in
/-- GlacierMailModel.log -/
def p2_s2083 : ck_Sum := ((1, 0, 0), 245, [.inr (.inr (.inl 226)), .inl (0, 23, []), .inl (0, 9, [])], ([], [], [(227, 14, 14, (0, 24, [(26, 0)]))]), ([(226, 0, 0)], []), [(.inr (some (.inl (ck_one 0))), 245, ([], [], [(226, 0, 0, ck_one 1)])), (.inr (some (.inl ((-1), 400, []))), 245, ([], [], [(226, 0, 0, ck_one 0)]))])
set_option maxRecDepth 100000 in
theorem p2_s2083_e : ck_ok p2_O none [] [(286, [p2_s1542, p2_s543]), (282, [p2_s268, p2_s269])] 367 [] 140 p2_s2083 = true := by decide +kernel
theorem p2_s2083_s {X : Int → Int} {LX : Nat} : ck_Ok p2_O X LX 367 p2_s2083 := ck_ok_s ⟨p2_nmu, ck_E1 (ck_S1 p2_s1542_s (ck_S1 p2_s543_s ck_S0)) (ck_E1 (ck_S1 p2_s268_s (ck_S1 p2_s269_s ck_S0)) ck_E0)⟩ ck_X0 ck_l0 p2_s2083_e
set_option maxRecDepth 100000 in
/-- GlacierMail$History.at -/
def p2_s2084 : ck_Sum := ((0, 0, 0), 245, [.inr (.inr (.inl 42)), .inl (0, 11, [])], ([], [], []), ([], []), [(.inr (some (.inr (.inr (.inl 44)))), 245, ([], [], [])), (.inr (some (.inr (.inr (.inl 187)))), 245, ([], [], [])), (.inr (some (.inr (.inr (.inl 174)))), 245, ([], [], [])), (.inr (some (.inr (.inr (.inl 161)))), 245, ([], [], [])), (.inr (some (.inr (.inr (.inl 148)))), 245, ([], [], [])), (.inr (some (.inr (.inr (.inl 135)))), 245, ([], [], [])), (.inr (some (.inr (.inr (.inl 122)))), 245, ([], [], [])), (.inr (some (.inr (.inr (.inl 109)))), 245, ([], [], [])), (.inr (some (.inr (.inr (.inl 96)))), 245, ([], [], [])), (.inr (some (.inr (.inr (.inl 83)))), 245, ([], [], [])), (.inr (some (.inr (.inr (.inl 70)))), 245, ([], [], [])), (.inr (some (.inr (.inr (.inl 57)))), 245, ([], [], []))])
set_option maxRecDepth 100000 in
theorem p2_s2084_e : ck_ok p2_O none [] [] 56 [] 96 p2_s2084 = true := by decide +kernel
theorem p2_s2084_s {X : Int → Int} {LX : Nat} : ck_Ok p2_O X LX 56 p2_s2084 := ck_ok_s ⟨p2_nmu, ck_E0⟩ ck_X0 ck_l0 p2_s2084_e
set_option maxRecDepth 100000 in
/-- GlacierMail$Rows.copyFrom -/
def p2_s2085 : ck_Sum := ((1, 0, 0), 245, [.inr (.inr (.inl 4)), .inr (.inr (.inl 45))], ([], [], []), ([(4, 3, 3), (5, 0, 55)], []), [(.inr none, 245, ([], [], []))])
set_option maxRecDepth 100000 in
theorem p2_s2085_e : ck_ok p2_O none [] [] 58 [] 114 p2_s2085 = true := by decide +kernel
theorem p2_s2085_s {X : Int → Int} {LX : Nat} : ck_Ok p2_O X LX 58 p2_s2085 := ck_ok_s ⟨p2_nmu, ck_E0⟩ ck_X0 ck_l0 p2_s2085_e
set_option maxRecDepth 100000 in
/-- GlacierMail$Rows.copyFrom -/
def p2_s2086 : ck_Sum := ((1, 0, 0), 245, [.inr (.inr (.inl 6)), .inr (.inr (.inl 47))], ([], [], []), ([(6, 3, 3), (7, 0, 23)], []), [(.inr none, 245, ([], [], []))])
set_option maxRecDepth 100000 in
theorem p2_s2086_e : ck_ok p2_O none [] [] 58 [] 114 p2_s2086 = true := by decide +kernel
theorem p2_s2086_s {X : Int → Int} {LX : Nat} : ck_Ok p2_O X LX 58 p2_s2086 := ck_ok_s ⟨p2_nmu, ck_E0⟩ ck_X0 ck_l0 p2_s2086_e
set_option maxRecDepth 100000 in
/-- GlacierMail$Rows.copyFrom -/
def p2_s2087 : ck_Sum := ((1, 0, 0), 245, [.inr (.inr (.inl 8)), .inr (.inr (.inl 49))], ([], [], []), ([(8, 3, 3), (9, 0, 23)], []), [(.inr none, 245, ([], [], []))])
set_option maxRecDepth 100000 in
theorem p2_s2087_e : ck_ok p2_O none [] [] 58 [] 114 p2_s2087 = true := by decide +kernel
theorem p2_s2087_s {X : Int → Int} {LX : Nat} : ck_Ok p2_O X LX 58 p2_s2087 := ck_ok_s ⟨p2_nmu, ck_E0⟩ ck_X0 ck_l0 p2_s2087_e
set_option maxRecDepth 100000 in
/-- GlacierMail$Rows.copyFrom -/
def p2_s2088 : ck_Sum := ((1, 0, 0), 245, [.inr (.inr (.inl 10)), .inr (.inr (.inl 51))], ([], [], []), ([(10, 3, 3), (11, 0, 167)], []), [(.inr none, 245, ([], [], []))])
set_option maxRecDepth 100000 in
theorem p2_s2088_e : ck_ok p2_O none [] [] 58 [] 114 p2_s2088 = true := by decide +kernel
theorem p2_s2088_s {X : Int → Int} {LX : Nat} : ck_Ok p2_O X LX 58 p2_s2088 := ck_ok_s ⟨p2_nmu, ck_E0⟩ ck_X0 ck_l0 p2_s2088_e
set_option maxRecDepth 100000 in
/-- GlacierMail$Rows.copyFrom -/
def p2_s2089 : ck_Sum := ((1, 0, 0), 245, [.inr (.inr (.inl 12)), .inr (.inr (.inl 53))], ([], [], []), ([(12, 3, 3), (13, 0, 35)], []), [(.inr none, 245, ([], [], []))])
set_option maxRecDepth 100000 in
theorem p2_s2089_e : ck_ok p2_O none [] [] 58 [] 114 p2_s2089 = true := by decide +kernel
theorem p2_s2089_s {X : Int → Int} {LX : Nat} : ck_Ok p2_O X LX 58 p2_s2089 := ck_ok_s ⟨p2_nmu, ck_E0⟩ ck_X0 ck_l0 p2_s2089_e
set_option maxRecDepth 100000 in
/-- GlacierMail$Rows.copyFrom -/
def p2_s2090 : ck_Sum := ((1, 0, 0), 245, [.inr (.inr (.inl 14)), .inr (.inr (.inl 55))], ([], [], []), ([(14, 3, 3), (15, 0, 71)], []), [(.inr none, 245, ([], [], []))])
set_option maxRecDepth 100000 in
theorem p2_s2090_e : ck_ok p2_O none [] [] 58 [] 114 p2_s2090 = true := by decide +kernel
theorem p2_s2090_s {X : Int → Int} {LX : Nat} : ck_Ok p2_O X LX 58 p2_s2090 := ck_ok_s ⟨p2_nmu, ck_E0⟩ ck_X0 ck_l0 p2_s2090_e
set_option maxRecDepth 100000 in
/-- GlacierMail$State.copyFrom -/
def p2_s2091 : ck_Sum := ((2, 0, 0), 245, [.inr (.inr (.inl 3)), .inr (.inr (.inl 44))], ([], [(3, 8, 0), (44, 8, 100044)], []), ([(3, 0, 7), (4, 3, 3), (5, 0, 55), (6, 3, 3), (7, 0, 23), (8, 3, 3), (9, 0, 23), (10, 3, 3), (11, 0, 167), (12, 3, 3), (13, 0, 35), (14, 3, 3), (15, 0, 71)], [(3, 8)]), [(.inr none, 245, ([], [(3, 8, 100044)], []))])
set_option maxRecDepth 100000 in
theorem p2_s2091_e : ck_ok p2_O none [] [(58, [p2_s2085, p2_s2086, p2_s2087, p2_s2088, p2_s2089, p2_s2090])] 57 [] 204 p2_s2091 = true := by decide +kernel
theorem p2_s2091_s {X : Int → Int} {LX : Nat} : ck_Ok p2_O X LX 57 p2_s2091 := ck_ok_s ⟨p2_nmu, ck_E1 (ck_S1 p2_s2085_s (ck_S1 p2_s2086_s (ck_S1 p2_s2087_s (ck_S1 p2_s2088_s (ck_S1 p2_s2089_s (ck_S1 p2_s2090_s ck_S0)))))) ck_E0⟩ ck_X0 ck_l0 p2_s2091_e
set_option maxRecDepth 100000 in
/-- GlacierMail$Rows.copyFrom -/
def p2_s2092 : ck_Sum := ((1, 0, 0), 245, [.inr (.inr (.inl 4)), .inr (.inr (.inl 58))], ([], [], []), ([(4, 3, 3), (5, 0, 55)], []), [(.inr none, 245, ([], [], []))])
set_option maxRecDepth 100000 in
theorem p2_s2092_e : ck_ok p2_O none [] [] 58 [] 114 p2_s2092 = true := by decide +kernel
theorem p2_s2092_s {X : Int → Int} {LX : Nat} : ck_Ok p2_O X LX 58 p2_s2092 := ck_ok_s ⟨p2_nmu, ck_E0⟩ ck_X0 ck_l0 p2_s2092_e
set_option maxRecDepth 100000 in
/-- GlacierMail$Rows.copyFrom -/
def p2_s2093 : ck_Sum := ((1, 0, 0), 245, [.inr (.inr (.inl 6)), .inr (.inr (.inl 60))], ([], [], []), ([(6, 3, 3), (7, 0, 23)], []), [(.inr none, 245, ([], [], []))])
set_option maxRecDepth 100000 in
theorem p2_s2093_e : ck_ok p2_O none [] [] 58 [] 114 p2_s2093 = true := by decide +kernel
theorem p2_s2093_s {X : Int → Int} {LX : Nat} : ck_Ok p2_O X LX 58 p2_s2093 := ck_ok_s ⟨p2_nmu, ck_E0⟩ ck_X0 ck_l0 p2_s2093_e
set_option maxRecDepth 100000 in
/-- GlacierMail$Rows.copyFrom -/
def p2_s2094 : ck_Sum := ((1, 0, 0), 245, [.inr (.inr (.inl 8)), .inr (.inr (.inl 62))], ([], [], []), ([(8, 3, 3), (9, 0, 23)], []), [(.inr none, 245, ([], [], []))])
set_option maxRecDepth 100000 in
theorem p2_s2094_e : ck_ok p2_O none [] [] 58 [] 114 p2_s2094 = true := by decide +kernel
theorem p2_s2094_s {X : Int → Int} {LX : Nat} : ck_Ok p2_O X LX 58 p2_s2094 := ck_ok_s ⟨p2_nmu, ck_E0⟩ ck_X0 ck_l0 p2_s2094_e
set_option maxRecDepth 100000 in
/-- GlacierMail$Rows.copyFrom -/
def p2_s2095 : ck_Sum := ((1, 0, 0), 245, [.inr (.inr (.inl 10)), .inr (.inr (.inl 64))], ([], [], []), ([(10, 3, 3), (11, 0, 167)], []), [(.inr none, 245, ([], [], []))])
set_option maxRecDepth 100000 in
theorem p2_s2095_e : ck_ok p2_O none [] [] 58 [] 114 p2_s2095 = true := by decide +kernel
theorem p2_s2095_s {X : Int → Int} {LX : Nat} : ck_Ok p2_O X LX 58 p2_s2095 := ck_ok_s ⟨p2_nmu, ck_E0⟩ ck_X0 ck_l0 p2_s2095_e
set_option maxRecDepth 100000 in
/-- GlacierMail$Rows.copyFrom -/
def p2_s2096 : ck_Sum := ((1, 0, 0), 245, [.inr (.inr (.inl 12)), .inr (.inr (.inl 66))], ([], [], []), ([(12, 3, 3), (13, 0, 35)], []), [(.inr none, 245, ([], [], []))])
set_option maxRecDepth 100000 in
theorem p2_s2096_e : ck_ok p2_O none [] [] 58 [] 114 p2_s2096 = true := by decide +kernel
theorem p2_s2096_s {X : Int → Int} {LX : Nat} : ck_Ok p2_O X LX 58 p2_s2096 := ck_ok_s ⟨p2_nmu, ck_E0⟩ ck_X0 ck_l0 p2_s2096_e
set_option maxRecDepth 100000 in
/-- GlacierMail$Rows.copyFrom -/
def p2_s2097 : ck_Sum := ((1, 0, 0), 245, [.inr (.inr (.inl 14)), .inr (.inr (.inl 68))], ([], [], []), ([(14, 3, 3), (15, 0, 71)], []), [(.inr none, 245, ([], [], []))])
set_option maxRecDepth 100000 in
theorem p2_s2097_e : ck_ok p2_O none [] [] 58 [] 114 p2_s2097 = true := by decide +kernel
theorem p2_s2097_s {X : Int → Int} {LX : Nat} : ck_Ok p2_O X LX 58 p2_s2097 := ck_ok_s ⟨p2_nmu, ck_E0⟩ ck_X0 ck_l0 p2_s2097_e
set_option maxRecDepth 100000 in
/-- GlacierMail$State.copyFrom -/
def p2_s2098 : ck_Sum := ((2, 0, 0), 245, [.inr (.inr (.inl 3)), .inr (.inr (.inl 57))], ([], [(3, 8, 0), (57, 8, 100057)], []), ([(3, 0, 7), (4, 3, 3), (5, 0, 55), (6, 3, 3), (7, 0, 23), (8, 3, 3), (9, 0, 23), (10, 3, 3), (11, 0, 167), (12, 3, 3), (13, 0, 35), (14, 3, 3), (15, 0, 71)], [(3, 8)]), [(.inr none, 245, ([], [(3, 8, 100057)], []))])
set_option maxRecDepth 100000 in
theorem p2_s2098_e : ck_ok p2_O none [] [(58, [p2_s2092, p2_s2093, p2_s2094, p2_s2095, p2_s2096, p2_s2097])] 57 [] 204 p2_s2098 = true := by decide +kernel
theorem p2_s2098_s {X : Int → Int} {LX : Nat} : ck_Ok p2_O X LX 57 p2_s2098 := ck_ok_s ⟨p2_nmu, ck_E1 (ck_S1 p2_s2092_s (ck_S1 p2_s2093_s (ck_S1 p2_s2094_s (ck_S1 p2_s2095_s (ck_S1 p2_s2096_s (ck_S1 p2_s2097_s ck_S0)))))) ck_E0⟩ ck_X0 ck_l0 p2_s2098_e
set_option maxRecDepth 100000 in
/-- GlacierMail$Rows.copyFrom -/
def p2_s2099 : ck_Sum := ((1, 0, 0), 245, [.inr (.inr (.inl 4)), .inr (.inr (.inl 71))], ([], [], []), ([(4, 3, 3), (5, 0, 55)], []), [(.inr none, 245, ([], [], []))])
set_option maxRecDepth 100000 in
theorem p2_s2099_e : ck_ok p2_O none [] [] 58 [] 114 p2_s2099 = true := by decide +kernel
theorem p2_s2099_s {X : Int → Int} {LX : Nat} : ck_Ok p2_O X LX 58 p2_s2099 := ck_ok_s ⟨p2_nmu, ck_E0⟩ ck_X0 ck_l0 p2_s2099_e
set_option maxRecDepth 100000 in
/-- GlacierMail$Rows.copyFrom -/
def p2_s2100 : ck_Sum := ((1, 0, 0), 245, [.inr (.inr (.inl 6)), .inr (.inr (.inl 73))], ([], [], []), ([(6, 3, 3), (7, 0, 23)], []), [(.inr none, 245, ([], [], []))])
set_option maxRecDepth 100000 in
theorem p2_s2100_e : ck_ok p2_O none [] [] 58 [] 114 p2_s2100 = true := by decide +kernel
theorem p2_s2100_s {X : Int → Int} {LX : Nat} : ck_Ok p2_O X LX 58 p2_s2100 := ck_ok_s ⟨p2_nmu, ck_E0⟩ ck_X0 ck_l0 p2_s2100_e
set_option maxRecDepth 100000 in
/-- GlacierMail$Rows.copyFrom -/
def p2_s2101 : ck_Sum := ((1, 0, 0), 245, [.inr (.inr (.inl 8)), .inr (.inr (.inl 75))], ([], [], []), ([(8, 3, 3), (9, 0, 23)], []), [(.inr none, 245, ([], [], []))])
set_option maxRecDepth 100000 in
theorem p2_s2101_e : ck_ok p2_O none [] [] 58 [] 114 p2_s2101 = true := by decide +kernel
theorem p2_s2101_s {X : Int → Int} {LX : Nat} : ck_Ok p2_O X LX 58 p2_s2101 := ck_ok_s ⟨p2_nmu, ck_E0⟩ ck_X0 ck_l0 p2_s2101_e
set_option maxRecDepth 100000 in
/-- GlacierMail$Rows.copyFrom -/
def p2_s2102 : ck_Sum := ((1, 0, 0), 245, [.inr (.inr (.inl 10)), .inr (.inr (.inl 77))], ([], [], []), ([(10, 3, 3), (11, 0, 167)], []), [(.inr none, 245, ([], [], []))])
set_option maxRecDepth 100000 in
theorem p2_s2102_e : ck_ok p2_O none [] [] 58 [] 114 p2_s2102 = true := by decide +kernel
theorem p2_s2102_s {X : Int → Int} {LX : Nat} : ck_Ok p2_O X LX 58 p2_s2102 := ck_ok_s ⟨p2_nmu, ck_E0⟩ ck_X0 ck_l0 p2_s2102_e
set_option maxRecDepth 100000 in
/-- GlacierMail$Rows.copyFrom -/
def p2_s2103 : ck_Sum := ((1, 0, 0), 245, [.inr (.inr (.inl 12)), .inr (.inr (.inl 79))], ([], [], []), ([(12, 3, 3), (13, 0, 35)], []), [(.inr none, 245, ([], [], []))])
set_option maxRecDepth 100000 in
theorem p2_s2103_e : ck_ok p2_O none [] [] 58 [] 114 p2_s2103 = true := by decide +kernel
theorem p2_s2103_s {X : Int → Int} {LX : Nat} : ck_Ok p2_O X LX 58 p2_s2103 := ck_ok_s ⟨p2_nmu, ck_E0⟩ ck_X0 ck_l0 p2_s2103_e
set_option maxRecDepth 100000 in
/-- GlacierMail$Rows.copyFrom -/
def p2_s2104 : ck_Sum := ((1, 0, 0), 245, [.inr (.inr (.inl 14)), .inr (.inr (.inl 81))], ([], [], []), ([(14, 3, 3), (15, 0, 71)], []), [(.inr none, 245, ([], [], []))])
set_option maxRecDepth 100000 in
theorem p2_s2104_e : ck_ok p2_O none [] [] 58 [] 114 p2_s2104 = true := by decide +kernel
theorem p2_s2104_s {X : Int → Int} {LX : Nat} : ck_Ok p2_O X LX 58 p2_s2104 := ck_ok_s ⟨p2_nmu, ck_E0⟩ ck_X0 ck_l0 p2_s2104_e
set_option maxRecDepth 100000 in
/-- GlacierMail$State.copyFrom -/
def p2_s2105 : ck_Sum := ((2, 0, 0), 245, [.inr (.inr (.inl 3)), .inr (.inr (.inl 70))], ([], [(3, 8, 0), (70, 8, 100070)], []), ([(3, 0, 7), (4, 3, 3), (5, 0, 55), (6, 3, 3), (7, 0, 23), (8, 3, 3), (9, 0, 23), (10, 3, 3), (11, 0, 167), (12, 3, 3), (13, 0, 35), (14, 3, 3), (15, 0, 71)], [(3, 8)]), [(.inr none, 245, ([], [(3, 8, 100070)], []))])
set_option maxRecDepth 100000 in
theorem p2_s2105_e : ck_ok p2_O none [] [(58, [p2_s2099, p2_s2100, p2_s2101, p2_s2102, p2_s2103, p2_s2104])] 57 [] 204 p2_s2105 = true := by decide +kernel
theorem p2_s2105_s {X : Int → Int} {LX : Nat} : ck_Ok p2_O X LX 57 p2_s2105 := ck_ok_s ⟨p2_nmu, ck_E1 (ck_S1 p2_s2099_s (ck_S1 p2_s2100_s (ck_S1 p2_s2101_s (ck_S1 p2_s2102_s (ck_S1 p2_s2103_s (ck_S1 p2_s2104_s ck_S0)))))) ck_E0⟩ ck_X0 ck_l0 p2_s2105_e
set_option maxRecDepth 100000 in
/-- GlacierMail$Rows.copyFrom -/
def p2_s2106 : ck_Sum := ((1, 0, 0), 245, [.inr (.inr (.inl 4)), .inr (.inr (.inl 84))], ([], [], []), ([(4, 3, 3), (5, 0, 55)], []), [(.inr none, 245, ([], [], []))])
set_option maxRecDepth 100000 in
theorem p2_s2106_e : ck_ok p2_O none [] [] 58 [] 114 p2_s2106 = true := by decide +kernel
theorem p2_s2106_s {X : Int → Int} {LX : Nat} : ck_Ok p2_O X LX 58 p2_s2106 := ck_ok_s ⟨p2_nmu, ck_E0⟩ ck_X0 ck_l0 p2_s2106_e
set_option maxRecDepth 100000 in
/-- GlacierMail$Rows.copyFrom -/
def p2_s2107 : ck_Sum := ((1, 0, 0), 245, [.inr (.inr (.inl 6)), .inr (.inr (.inl 86))], ([], [], []), ([(6, 3, 3), (7, 0, 23)], []), [(.inr none, 245, ([], [], []))])
set_option maxRecDepth 100000 in
theorem p2_s2107_e : ck_ok p2_O none [] [] 58 [] 114 p2_s2107 = true := by decide +kernel
theorem p2_s2107_s {X : Int → Int} {LX : Nat} : ck_Ok p2_O X LX 58 p2_s2107 := ck_ok_s ⟨p2_nmu, ck_E0⟩ ck_X0 ck_l0 p2_s2107_e
set_option maxRecDepth 100000 in
/-- GlacierMail$Rows.copyFrom -/
def p2_s2108 : ck_Sum := ((1, 0, 0), 245, [.inr (.inr (.inl 8)), .inr (.inr (.inl 88))], ([], [], []), ([(8, 3, 3), (9, 0, 23)], []), [(.inr none, 245, ([], [], []))])
set_option maxRecDepth 100000 in
theorem p2_s2108_e : ck_ok p2_O none [] [] 58 [] 114 p2_s2108 = true := by decide +kernel
theorem p2_s2108_s {X : Int → Int} {LX : Nat} : ck_Ok p2_O X LX 58 p2_s2108 := ck_ok_s ⟨p2_nmu, ck_E0⟩ ck_X0 ck_l0 p2_s2108_e
set_option maxRecDepth 100000 in
/-- GlacierMail$Rows.copyFrom -/
def p2_s2109 : ck_Sum := ((1, 0, 0), 245, [.inr (.inr (.inl 10)), .inr (.inr (.inl 90))], ([], [], []), ([(10, 3, 3), (11, 0, 167)], []), [(.inr none, 245, ([], [], []))])
set_option maxRecDepth 100000 in
theorem p2_s2109_e : ck_ok p2_O none [] [] 58 [] 114 p2_s2109 = true := by decide +kernel
theorem p2_s2109_s {X : Int → Int} {LX : Nat} : ck_Ok p2_O X LX 58 p2_s2109 := ck_ok_s ⟨p2_nmu, ck_E0⟩ ck_X0 ck_l0 p2_s2109_e
set_option maxRecDepth 100000 in
/-- GlacierMail$Rows.copyFrom -/
def p2_s2110 : ck_Sum := ((1, 0, 0), 245, [.inr (.inr (.inl 12)), .inr (.inr (.inl 92))], ([], [], []), ([(12, 3, 3), (13, 0, 35)], []), [(.inr none, 245, ([], [], []))])
set_option maxRecDepth 100000 in
theorem p2_s2110_e : ck_ok p2_O none [] [] 58 [] 114 p2_s2110 = true := by decide +kernel
theorem p2_s2110_s {X : Int → Int} {LX : Nat} : ck_Ok p2_O X LX 58 p2_s2110 := ck_ok_s ⟨p2_nmu, ck_E0⟩ ck_X0 ck_l0 p2_s2110_e
set_option maxRecDepth 100000 in
/-- GlacierMail$Rows.copyFrom -/
def p2_s2111 : ck_Sum := ((1, 0, 0), 245, [.inr (.inr (.inl 14)), .inr (.inr (.inl 94))], ([], [], []), ([(14, 3, 3), (15, 0, 71)], []), [(.inr none, 245, ([], [], []))])
set_option maxRecDepth 100000 in
theorem p2_s2111_e : ck_ok p2_O none [] [] 58 [] 114 p2_s2111 = true := by decide +kernel
theorem p2_s2111_s {X : Int → Int} {LX : Nat} : ck_Ok p2_O X LX 58 p2_s2111 := ck_ok_s ⟨p2_nmu, ck_E0⟩ ck_X0 ck_l0 p2_s2111_e
set_option maxRecDepth 100000 in
/-- GlacierMail$State.copyFrom -/
def p2_s2112 : ck_Sum := ((2, 0, 0), 245, [.inr (.inr (.inl 3)), .inr (.inr (.inl 83))], ([], [(3, 8, 0), (83, 8, 100083)], []), ([(3, 0, 7), (4, 3, 3), (5, 0, 55), (6, 3, 3), (7, 0, 23), (8, 3, 3), (9, 0, 23), (10, 3, 3), (11, 0, 167), (12, 3, 3), (13, 0, 35), (14, 3, 3), (15, 0, 71)], [(3, 8)]), [(.inr none, 245, ([], [(3, 8, 100083)], []))])
set_option maxRecDepth 100000 in
theorem p2_s2112_e : ck_ok p2_O none [] [(58, [p2_s2106, p2_s2107, p2_s2108, p2_s2109, p2_s2110, p2_s2111])] 57 [] 204 p2_s2112 = true := by decide +kernel
theorem p2_s2112_s {X : Int → Int} {LX : Nat} : ck_Ok p2_O X LX 57 p2_s2112 := ck_ok_s ⟨p2_nmu, ck_E1 (ck_S1 p2_s2106_s (ck_S1 p2_s2107_s (ck_S1 p2_s2108_s (ck_S1 p2_s2109_s (ck_S1 p2_s2110_s (ck_S1 p2_s2111_s ck_S0)))))) ck_E0⟩ ck_X0 ck_l0 p2_s2112_e
set_option maxRecDepth 100000 in
/-- GlacierMail$Rows.copyFrom -/
def p2_s2113 : ck_Sum := ((1, 0, 0), 245, [.inr (.inr (.inl 4)), .inr (.inr (.inl 97))], ([], [], []), ([(4, 3, 3), (5, 0, 55)], []), [(.inr none, 245, ([], [], []))])
set_option maxRecDepth 100000 in
theorem p2_s2113_e : ck_ok p2_O none [] [] 58 [] 114 p2_s2113 = true := by decide +kernel
theorem p2_s2113_s {X : Int → Int} {LX : Nat} : ck_Ok p2_O X LX 58 p2_s2113 := ck_ok_s ⟨p2_nmu, ck_E0⟩ ck_X0 ck_l0 p2_s2113_e
set_option maxRecDepth 100000 in
/-- GlacierMail$Rows.copyFrom -/
def p2_s2114 : ck_Sum := ((1, 0, 0), 245, [.inr (.inr (.inl 6)), .inr (.inr (.inl 99))], ([], [], []), ([(6, 3, 3), (7, 0, 23)], []), [(.inr none, 245, ([], [], []))])
set_option maxRecDepth 100000 in
theorem p2_s2114_e : ck_ok p2_O none [] [] 58 [] 114 p2_s2114 = true := by decide +kernel
theorem p2_s2114_s {X : Int → Int} {LX : Nat} : ck_Ok p2_O X LX 58 p2_s2114 := ck_ok_s ⟨p2_nmu, ck_E0⟩ ck_X0 ck_l0 p2_s2114_e
set_option maxRecDepth 100000 in
/-- GlacierMail$Rows.copyFrom -/
def p2_s2115 : ck_Sum := ((1, 0, 0), 245, [.inr (.inr (.inl 8)), .inr (.inr (.inl 101))], ([], [], []), ([(8, 3, 3), (9, 0, 23)], []), [(.inr none, 245, ([], [], []))])
set_option maxRecDepth 100000 in
theorem p2_s2115_e : ck_ok p2_O none [] [] 58 [] 114 p2_s2115 = true := by decide +kernel
theorem p2_s2115_s {X : Int → Int} {LX : Nat} : ck_Ok p2_O X LX 58 p2_s2115 := ck_ok_s ⟨p2_nmu, ck_E0⟩ ck_X0 ck_l0 p2_s2115_e
set_option maxRecDepth 100000 in
/-- GlacierMail$Rows.copyFrom -/
def p2_s2116 : ck_Sum := ((1, 0, 0), 245, [.inr (.inr (.inl 10)), .inr (.inr (.inl 103))], ([], [], []), ([(10, 3, 3), (11, 0, 167)], []), [(.inr none, 245, ([], [], []))])
set_option maxRecDepth 100000 in
theorem p2_s2116_e : ck_ok p2_O none [] [] 58 [] 114 p2_s2116 = true := by decide +kernel
theorem p2_s2116_s {X : Int → Int} {LX : Nat} : ck_Ok p2_O X LX 58 p2_s2116 := ck_ok_s ⟨p2_nmu, ck_E0⟩ ck_X0 ck_l0 p2_s2116_e
