/-! 78r88a04.hp -/
section
/-! THE LAW'S OWN METHODS (laid by wip/am/p2n.py). -/
set_option maxRecDepth 100000 in
/-- GlacierMailLaw.throwsFor -/
def p2_h124 : ck_Sum := ((9, 1, 6), 245, [.inr (.inr (.inl 1)), .inl ((-2147483648), (-1), []), .inl ((-2147483648), 2147483647, []), .inl ((-2147483648), 2147483647, []), .inl ((-2147483648), 2147483647, []), .inr (.inr (.inl 245))], ([], [], []), ([], []), [(.inr (some (.inl (ck_one 1))), 245, ([], [], []))])
set_option maxRecDepth 100000 in
theorem p2_h124_e : ck_ok p2_O none [] [(167, [p2_s1305])] 166 [] 92 p2_h124 = true := by decide +kernel
theorem p2_h124_s {X : Int → Int} {LX : Nat} : ck_Ok p2_O X LX 166 p2_h124 := ck_ok_s ⟨p2_nmu, ck_E1 (ck_S1 p2_s1305_s ck_S0) ck_E0⟩ ck_X0 ck_l0 p2_h124_e
set_option maxRecDepth 100000 in
/-- GlacierMailLaw.throwsFor -/
def p2_h125 : ck_Sum := ((9, 1, 6), 245, [.inr (.inr (.inl 1)), .inl (6, 2147483647, []), .inl ((-2147483648), 2147483647, []), .inl ((-2147483648), 2147483647, []), .inl ((-2147483648), 2147483647, []), .inr (.inr (.inl 245))], ([], [], []), ([], []), [(.inr (some (.inl (ck_one 1))), 245, ([], [], []))])
set_option maxRecDepth 100000 in
theorem p2_h125_e : ck_ok p2_O none [] [(167, [p2_s1306])] 166 [] 92 p2_h125 = true := by decide +kernel
theorem p2_h125_s {X : Int → Int} {LX : Nat} : ck_Ok p2_O X LX 166 p2_h125 := ck_ok_s ⟨p2_nmu, ck_E1 (ck_S1 p2_s1306_s ck_S0) ck_E0⟩ ck_X0 ck_l0 p2_h125_e
set_option maxRecDepth 100000 in
/-- GlacierMailLaw.throwsFor -/
def p2_h126 : ck_Sum := ((9, 2, 12), 245, [.inr (.inr (.inl 1)), .inl (0, 5, []), .inl ((-2147483648), (-1), []), .inl ((-2147483648), 2147483647, []), .inl ((-2147483648), 2147483647, []), .inr (.inr (.inl 245))], ([], [], []), ([], []), [(.inr (some (.inl (ck_one 1))), 245, ([], [], [])), (.inr (some (.inl (ck_one 2))), 245, ([], [], []))])
set_option maxRecDepth 100000 in
theorem p2_h126_e : ck_ok p2_O none [] [(167, [p2_s1307])] 166 [] 92 p2_h126 = true := by decide +kernel
theorem p2_h126_s {X : Int → Int} {LX : Nat} : ck_Ok p2_O X LX 166 p2_h126 := ck_ok_s ⟨p2_nmu, ck_E1 (ck_S1 p2_s1307_s ck_S0) ck_E0⟩ ck_X0 ck_l0 p2_h126_e
set_option maxRecDepth 100000 in
/-- GlacierMailLaw.throwsFor -/
def p2_h127 : ck_Sum := ((9, 2, 12), 245, [.inr (.inr (.inl 1)), .inl (0, 5, []), .inl (300, 2147483647, []), .inl ((-2147483648), 2147483647, []), .inl ((-2147483648), 2147483647, []), .inr (.inr (.inl 245))], ([], [], []), ([], []), [(.inr (some (.inl (ck_one 1))), 245, ([], [], [])), (.inr (some (.inl (ck_one 2))), 245, ([], [], []))])
set_option maxRecDepth 100000 in
theorem p2_h127_e : ck_ok p2_O none [] [(167, [p2_s1308])] 166 [] 92 p2_h127 = true := by decide +kernel
theorem p2_h127_s {X : Int → Int} {LX : Nat} : ck_Ok p2_O X LX 166 p2_h127 := ck_ok_s ⟨p2_nmu, ck_E1 (ck_S1 p2_s1308_s ck_S0) ck_E0⟩ ck_X0 ck_l0 p2_h127_e
set_option maxRecDepth 100000 in
/-- GlacierMailLaw.throwsFor -/
def p2_h128 : ck_Sum := ((9, 2, 12), 245, [.inr (.inr (.inl 1)), .inl (0, 5, []), .inl (0, 299, []), .inl ((-2147483648), (-1), []), .inl ((-2147483648), 2147483647, []), .inr (.inr (.inl 245))], ([], [], []), ([], []), [(.inr (some (.inl (ck_one 1))), 245, ([], [], [])), (.inr (some (.inl (ck_one 2))), 245, ([], [], []))])
set_option maxRecDepth 100000 in
theorem p2_h128_e : ck_ok p2_O none [] [(167, [p2_s1309])] 166 [] 92 p2_h128 = true := by decide +kernel
theorem p2_h128_s {X : Int → Int} {LX : Nat} : ck_Ok p2_O X LX 166 p2_h128 := ck_ok_s ⟨p2_nmu, ck_E1 (ck_S1 p2_s1309_s ck_S0) ck_E0⟩ ck_X0 ck_l0 p2_h128_e
set_option maxRecDepth 100000 in
/-- GlacierMailLaw.throwsFor -/
def p2_h129 : ck_Sum := ((9, 2, 12), 245, [.inr (.inr (.inl 1)), .inl (0, 5, []), .inl (0, 299, []), .inl (300, 2147483647, []), .inl ((-2147483648), 2147483647, []), .inr (.inr (.inl 245))], ([], [], []), ([], []), [(.inr (some (.inl (ck_one 1))), 245, ([], [], [])), (.inr (some (.inl (ck_one 2))), 245, ([], [], []))])
set_option maxRecDepth 100000 in
theorem p2_h129_e : ck_ok p2_O none [] [(167, [p2_s1310])] 166 [] 92 p2_h129 = true := by decide +kernel
theorem p2_h129_s {X : Int → Int} {LX : Nat} : ck_Ok p2_O X LX 166 p2_h129 := ck_ok_s ⟨p2_nmu, ck_E1 (ck_S1 p2_s1310_s ck_S0) ck_E0⟩ ck_X0 ck_l0 p2_h129_e
set_option maxRecDepth 100000 in
/-- GlacierMailLaw.throwsFor -/
def p2_h130 : ck_Sum := ((9, 2, 12), 245, [.inr (.inr (.inl 1)), .inl (0, 5, []), .inl (0, 299, []), .inl (0, 299, []), .inl ((-2147483648), (-1), []), .inr (.inr (.inl 245))], ([], [], [(3, 6, 6, (0, 299, [(10, 0)]))]), ([], []), zl273)
set_option maxRecDepth 100000 in
theorem p2_h130_e : ck_ok p2_O none [] [(167, [p2_s1311])] 166 [] 92 p2_h130 = true := by decide +kernel
theorem p2_h130_s {X : Int → Int} {LX : Nat} : ck_Ok p2_O X LX 166 p2_h130 := ck_ok_s ⟨p2_nmu, ck_E1 (ck_S1 p2_s1311_s ck_S0) ck_E0⟩ ck_X0 ck_l0 p2_h130_e
set_option maxRecDepth 100000 in
/-- GlacierMailLaw.throwsFor -/
def p2_h131 : ck_Sum := ((9, 2, 12), 245, [.inr (.inr (.inl 1)), .inl (0, 5, []), .inl (0, 299, []), .inl (0, 299, []), .inl (10, 2147483647, []), .inr (.inr (.inl 245))], ([], [], [(3, 6, 6, (0, 299, [(10, 0)]))]), ([], []), zl273)
set_option maxRecDepth 100000 in
theorem p2_h131_e : ck_ok p2_O none [] [(167, [p2_s1312])] 166 [] 92 p2_h131 = true := by decide +kernel
theorem p2_h131_s {X : Int → Int} {LX : Nat} : ck_Ok p2_O X LX 166 p2_h131 := ck_ok_s ⟨p2_nmu, ck_E1 (ck_S1 p2_s1312_s ck_S0) ck_E0⟩ ck_X0 ck_l0 p2_h131_e
set_option maxRecDepth 100000 in
/-- GlacierMailLaw.throwsFor -/
def p2_h132 : ck_Sum := ((9, 2, 12), 245, [.inr (.inr (.inl 1)), .inl (0, 5, []), .inl (0, 299, []), .inl (0, 299, []), .inl (0, 9, []), .inr (.inr (.inl 245))], ([], [(3, 8, 0)], [(3, 6, 6, (0, 299, [(10, 0)]))]), ([(206, 2, 8), (245, 0, 0)], []), [(.inr (some (.inl (ck_one 1))), 245, ([], [], [])), (.inr (some (.inl (ck_one 0))), 245, ([], [], [])), (.inr (some (.inl (ck_one 2))), 245, ([], [], [(3, 6, 6, (1, 299, [(10, 0)]))])), (.inr (some (.inl (ck_one 3))), 245, ([], [], []))])
set_option maxRecDepth 100000 in
theorem p2_h132_e : ck_ok p2_O none [] [(167, [p2_s1314])] 166 [] 96 p2_h132 = true := by decide +kernel
theorem p2_h132_s {X : Int → Int} {LX : Nat} : ck_Ok p2_O X LX 166 p2_h132 := ck_ok_s ⟨p2_nmu, ck_E1 (ck_S1 p2_s1314_s ck_S0) ck_E0⟩ ck_X0 ck_l0 p2_h132_e
set_option maxRecDepth 100000 in
/-- GlacierMailLaw.latest -/
def p2_h133 : ck_Sum := ((9, 1, 6), 245, [.inr (.inr (.inl 1)), .inl ((-2147483648), (-1), []), .inl ((-2147483648), 2147483647, []), .inr (.inr (.inl 245))], ([], [], []), ([], []), [(.inr (some (.inl (ck_one 1))), 245, ([], [], []))])
set_option maxRecDepth 100000 in
theorem p2_h133_e : ck_ok p2_O none [] [(169, [p2_s1328])] 168 [] 88 p2_h133 = true := by decide +kernel
theorem p2_h133_s {X : Int → Int} {LX : Nat} : ck_Ok p2_O X LX 168 p2_h133 := ck_ok_s ⟨p2_nmu, ck_E1 (ck_S1 p2_s1328_s ck_S0) ck_E0⟩ ck_X0 ck_l0 p2_h133_e
set_option maxRecDepth 100000 in
/-- GlacierMailLaw.latest -/
def p2_h134 : ck_Sum := ((9, 1, 6), 245, [.inr (.inr (.inl 1)), .inl (8, 2147483647, []), .inl ((-2147483648), 2147483647, []), .inr (.inr (.inl 245))], ([], [], []), ([], []), [(.inr (some (.inl (ck_one 1))), 245, ([], [], []))])
set_option maxRecDepth 100000 in
theorem p2_h134_e : ck_ok p2_O none [] [(169, [p2_s1329])] 168 [] 88 p2_h134 = true := by decide +kernel
theorem p2_h134_s {X : Int → Int} {LX : Nat} : ck_Ok p2_O X LX 168 p2_h134 := ck_ok_s ⟨p2_nmu, ck_E1 (ck_S1 p2_s1329_s ck_S0) ck_E0⟩ ck_X0 ck_l0 p2_h134_e
set_option maxRecDepth 100000 in
/-- GlacierMailLaw.latest -/
def p2_h135 : ck_Sum := ((9, 2, 12), 245, [.inr (.inr (.inl 1)), .inl (0, 7, []), .inl ((-2147483648), (-1), []), .inr (.inr (.inl 245))], ([], [], []), ([], []), [(.inr (some (.inl (ck_one 1))), 245, ([], [], [])), (.inr (some (.inl (ck_one 2))), 245, ([], [], []))])
set_option maxRecDepth 100000 in
theorem p2_h135_e : ck_ok p2_O none [] [(169, [p2_s1330])] 168 [] 88 p2_h135 = true := by decide +kernel
theorem p2_h135_s {X : Int → Int} {LX : Nat} : ck_Ok p2_O X LX 168 p2_h135 := ck_ok_s ⟨p2_nmu, ck_E1 (ck_S1 p2_s1330_s ck_S0) ck_E0⟩ ck_X0 ck_l0 p2_h135_e
set_option maxRecDepth 100000 in
/-- GlacierMailLaw.latest -/
def p2_h136 : ck_Sum := ((9, 2, 12), 245, [.inr (.inr (.inl 1)), .inl (0, 7, []), .inl (300, 2147483647, []), .inr (.inr (.inl 245))], ([], [], []), ([], []), [(.inr (some (.inl (ck_one 1))), 245, ([], [], [])), (.inr (some (.inl (ck_one 2))), 245, ([], [], []))])
set_option maxRecDepth 100000 in
theorem p2_h136_e : ck_ok p2_O none [] [(169, [p2_s1331])] 168 [] 88 p2_h136 = true := by decide +kernel
theorem p2_h136_s {X : Int → Int} {LX : Nat} : ck_Ok p2_O X LX 168 p2_h136 := ck_ok_s ⟨p2_nmu, ck_E1 (ck_S1 p2_s1331_s ck_S0) ck_E0⟩ ck_X0 ck_l0 p2_h136_e
set_option maxRecDepth 100000 in
/-- GlacierMailLaw.latest -/
def p2_h137 : ck_Sum := ((9, 1, 6), 245, [.inr (.inr (.inl 1)), .inl (0, 7, []), .inl (0, 299, []), .inr (.inr (.inl 245))], ([], [(3, 8, 0)], [(3, 6, 6, (0, 299, [(10, 0)]))]), ([(206, 2, 8), (245, 0, 0)], []), [(.inr (some (.inl (ck_one 1))), 245, ([], [], [])), (.inr (some (.inl (ck_one 0))), 245, ([], [], [(245, 0, 0, ((-1), 299, []))]))])
set_option maxRecDepth 100000 in
theorem p2_h137_e : ck_ok p2_O none [] [(169, [p2_s1333])] 168 [] 92 p2_h137 = true := by decide +kernel
theorem p2_h137_s {X : Int → Int} {LX : Nat} : ck_Ok p2_O X LX 168 p2_h137 := ck_ok_s ⟨p2_nmu, ck_E1 (ck_S1 p2_s1333_s ck_S0) ck_E0⟩ ck_X0 ck_l0 p2_h137_e
set_option maxRecDepth 100000 in
/-- GlacierMailLaw.hut -/
def p2_h138 : ck_Sum := ((9, 1, 6), 245, [.inr (.inr (.inl 1)), .inl ((-2147483648), (-1), []), .inl ((-2147483648), 2147483647, []), .inr (.inr (.inl 245))], ([], [], []), ([], []), [(.inr (some (.inl (ck_one 1))), 245, ([], [], []))])
set_option maxRecDepth 100000 in
theorem p2_h138_e : ck_ok p2_O none [] [(172, [p2_s1339])] 171 [] 88 p2_h138 = true := by decide +kernel
theorem p2_h138_s {X : Int → Int} {LX : Nat} : ck_Ok p2_O X LX 171 p2_h138 := ck_ok_s ⟨p2_nmu, ck_E1 (ck_S1 p2_s1339_s ck_S0) ck_E0⟩ ck_X0 ck_l0 p2_h138_e
set_option maxRecDepth 100000 in
/-- GlacierMailLaw.hut -/
def p2_h139 : ck_Sum := ((9, 1, 6), 245, [.inr (.inr (.inl 1)), .inl (6, 2147483647, []), .inl ((-2147483648), 2147483647, []), .inr (.inr (.inl 245))], ([], [], []), ([], []), [(.inr (some (.inl (ck_one 1))), 245, ([], [], []))])
set_option maxRecDepth 100000 in
theorem p2_h139_e : ck_ok p2_O none [] [(172, [p2_s1340])] 171 [] 88 p2_h139 = true := by decide +kernel
theorem p2_h139_s {X : Int → Int} {LX : Nat} : ck_Ok p2_O X LX 171 p2_h139 := ck_ok_s ⟨p2_nmu, ck_E1 (ck_S1 p2_s1340_s ck_S0) ck_E0⟩ ck_X0 ck_l0 p2_h139_e
set_option maxRecDepth 100000 in
/-- GlacierMailLaw.hut -/
def p2_h140 : ck_Sum := ((9, 2, 12), 245, [.inr (.inr (.inl 1)), .inl (0, 5, []), .inl ((-2147483648), (-1), []), .inr (.inr (.inl 245))], ([], [], []), ([], []), [(.inr (some (.inl (ck_one 1))), 245, ([], [], [])), (.inr (some (.inl (ck_one 2))), 245, ([], [], []))])
set_option maxRecDepth 100000 in
theorem p2_h140_e : ck_ok p2_O none [] [(172, [p2_s1341])] 171 [] 88 p2_h140 = true := by decide +kernel
theorem p2_h140_s {X : Int → Int} {LX : Nat} : ck_Ok p2_O X LX 171 p2_h140 := ck_ok_s ⟨p2_nmu, ck_E1 (ck_S1 p2_s1341_s ck_S0) ck_E0⟩ ck_X0 ck_l0 p2_h140_e
set_option maxRecDepth 100000 in
/-- GlacierMailLaw.hut -/
def p2_h141 : ck_Sum := ((9, 2, 12), 245, [.inr (.inr (.inl 1)), .inl (0, 5, []), .inl (300, 2147483647, []), .inr (.inr (.inl 245))], ([], [], []), ([], []), [(.inr (some (.inl (ck_one 1))), 245, ([], [], [])), (.inr (some (.inl (ck_one 2))), 245, ([], [], []))])
set_option maxRecDepth 100000 in
theorem p2_h141_e : ck_ok p2_O none [] [(172, [p2_s1342])] 171 [] 88 p2_h141 = true := by decide +kernel
theorem p2_h141_s {X : Int → Int} {LX : Nat} : ck_Ok p2_O X LX 171 p2_h141 := ck_ok_s ⟨p2_nmu, ck_E1 (ck_S1 p2_s1342_s ck_S0) ck_E0⟩ ck_X0 ck_l0 p2_h141_e
set_option maxRecDepth 100000 in
/-- GlacierMailLaw.hut -/
def p2_h142 : ck_Sum := ((9, 2, 12), 245, [.inr (.inr (.inl 1)), .inl (0, 5, []), .inl (0, 299, []), .inr (.inr (.inl 245))], ([], [(3, 8, 0)], [(3, 6, 6, (0, 299, [(10, 0)]))]), ([(206, 2, 8), (245, 0, 0)], []), [(.inr (some (.inl (ck_one 1))), 245, ([], [], [])), (.inr (some (.inl (ck_one 0))), 245, ([], [], [(245, 0, 0, ((-1), 98, []))])), (.inr (some (.inl (ck_one 2))), 245, ([], [], []))])
set_option maxRecDepth 100000 in
theorem p2_h142_e : ck_ok p2_O none [] [(172, [p2_s1343])] 171 [] 92 p2_h142 = true := by decide +kernel
theorem p2_h142_s {X : Int → Int} {LX : Nat} : ck_Ok p2_O X LX 171 p2_h142 := ck_ok_s ⟨p2_nmu, ck_E1 (ck_S1 p2_s1343_s ck_S0) ck_E0⟩ ck_X0 ck_l0 p2_h142_e
set_option maxRecDepth 100000 in
/-- GlacierMailLaw.without -/
def p2_h143 : ck_Sum := ((9, 1, 6), 245, [.inr (.inr (.inl 1)), .inl ((-2147483648), (-1), []), .inl ((-2147483648), 2147483647, []), .inr (.inr (.inl 245))], ([], [], []), ([], []), [(.inr (some (.inl (ck_one 1))), 245, ([], [], []))])
set_option maxRecDepth 100000 in
theorem p2_h143_e : ck_ok p2_O none [] [(174, [p2_s1352])] 173 [] 88 p2_h143 = true := by decide +kernel
theorem p2_h143_s {X : Int → Int} {LX : Nat} : ck_Ok p2_O X LX 173 p2_h143 := ck_ok_s ⟨p2_nmu, ck_E1 (ck_S1 p2_s1352_s ck_S0) ck_E0⟩ ck_X0 ck_l0 p2_h143_e
set_option maxRecDepth 100000 in
/-- GlacierMailLaw.without -/
def p2_h144 : ck_Sum := ((9, 1, 6), 245, [.inr (.inr (.inl 1)), .inl (24, 2147483647, []), .inl ((-2147483648), 2147483647, []), .inr (.inr (.inl 245))], ([], [], []), ([], []), [(.inr (some (.inl (ck_one 1))), 245, ([], [], []))])
set_option maxRecDepth 100000 in
theorem p2_h144_e : ck_ok p2_O none [] [(174, [p2_s1353])] 173 [] 88 p2_h144 = true := by decide +kernel
theorem p2_h144_s {X : Int → Int} {LX : Nat} : ck_Ok p2_O X LX 173 p2_h144 := ck_ok_s ⟨p2_nmu, ck_E1 (ck_S1 p2_s1353_s ck_S0) ck_E0⟩ ck_X0 ck_l0 p2_h144_e
set_option maxRecDepth 100000 in
/-- GlacierMailLaw.without -/
def p2_h145 : ck_Sum := ((9, 2, 12), 245, [.inr (.inr (.inl 1)), .inl (0, 23, []), .inl ((-2147483648), (-1), []), .inr (.inr (.inl 245))], ([], [], []), ([], []), [(.inr (some (.inl (ck_one 1))), 245, ([], [], []))])
set_option maxRecDepth 100000 in
theorem p2_h145_e : ck_ok p2_O none [] [(174, [p2_s1354])] 173 [] 88 p2_h145 = true := by decide +kernel
theorem p2_h145_s {X : Int → Int} {LX : Nat} : ck_Ok p2_O X LX 173 p2_h145 := ck_ok_s ⟨p2_nmu, ck_E1 (ck_S1 p2_s1354_s ck_S0) ck_E0⟩ ck_X0 ck_l0 p2_h145_e
set_option maxRecDepth 100000 in
/-- GlacierMailLaw.without -/
def p2_h146 : ck_Sum := ((9, 2, 12), 245, [.inr (.inr (.inl 1)), .inl (0, 23, []), .inl (8, 2147483647, []), .inr (.inr (.inl 245))], ([], [], []), ([], []), [(.inr (some (.inl (ck_one 1))), 245, ([], [], []))])
set_option maxRecDepth 100000 in
theorem p2_h146_e : ck_ok p2_O none [] [(174, [p2_s1355])] 173 [] 88 p2_h146 = true := by decide +kernel
theorem p2_h146_s {X : Int → Int} {LX : Nat} : ck_Ok p2_O X LX 173 p2_h146 := ck_ok_s ⟨p2_nmu, ck_E1 (ck_S1 p2_s1355_s ck_S0) ck_E0⟩ ck_X0 ck_l0 p2_h146_e
set_option maxRecDepth 100000 in
/-- GlacierMailLaw.without -/
def p2_h147 : ck_Sum := ((9, 2, 12), 245, [.inr (.inr (.inl 1)), .inl (0, 23, []), .inl (0, 7, []), .inr (.inr (.inl 245))], ([], [(3, 8, 0)], []), ([(206, 2, 8), (245, 0, 0)], []), [(.inr (some (.inl (ck_one 1))), 245, ([], [], [])), (.inr (some (.inl (ck_one 0))), 245, ([], [], zl274))])
set_option maxRecDepth 100000 in
theorem p2_h147_e : ck_ok p2_O none [] [(174, [p2_s1357])] 173 [] 92 p2_h147 = true := by decide +kernel
theorem p2_h147_s {X : Int → Int} {LX : Nat} : ck_Ok p2_O X LX 173 p2_h147 := ck_ok_s ⟨p2_nmu, ck_E1 (ck_S1 p2_s1357_s ck_S0) ck_E0⟩ ck_X0 ck_l0 p2_h147_e
set_option maxRecDepth 100000 in
/-- GlacierMailLaw.moved -/
def p2_h148 : ck_Sum := ((9, 1, 6), 245, [.inr (.inr (.inl 1)), .inl ((-2147483648), (-1), []), .inr (.inr (.inl 245))], ([], [], []), ([], []), [(.inr (some (.inl (ck_one 1))), 245, ([], [], []))])
set_option maxRecDepth 100000 in
theorem p2_h148_e : ck_ok p2_O none [] [(177, [p2_s1363])] 176 [] 86 p2_h148 = true := by decide +kernel
theorem p2_h148_s {X : Int → Int} {LX : Nat} : ck_Ok p2_O X LX 176 p2_h148 := ck_ok_s ⟨p2_nmu, ck_E1 (ck_S1 p2_s1363_s ck_S0) ck_E0⟩ ck_X0 ck_l0 p2_h148_e
set_option maxRecDepth 100000 in
/-- GlacierMailLaw.moved -/
def p2_h149 : ck_Sum := ((9, 1, 6), 245, [.inr (.inr (.inl 1)), .inl (24, 2147483647, []), .inr (.inr (.inl 245))], ([], [], []), ([], []), [(.inr (some (.inl (ck_one 1))), 245, ([], [], []))])
set_option maxRecDepth 100000 in
theorem p2_h149_e : ck_ok p2_O none [] [(177, [p2_s1364])] 176 [] 86 p2_h149 = true := by decide +kernel
theorem p2_h149_s {X : Int → Int} {LX : Nat} : ck_Ok p2_O X LX 176 p2_h149 := ck_ok_s ⟨p2_nmu, ck_E1 (ck_S1 p2_s1364_s ck_S0) ck_E0⟩ ck_X0 ck_l0 p2_h149_e
set_option maxRecDepth 100000 in
/-- GlacierMailLaw.moved -/
def p2_h150 : ck_Sum := ((9, 1, 6), 245, [.inr (.inr (.inl 1)), .inl (0, 23, []), .inr (.inr (.inl 245))], ([], [(3, 8, 0)], []), ([(206, 2, 8), (245, 0, 0)], []), [(.inr (some (.inl (ck_one 1))), 245, ([], [], [])), (.inr (some (.inl (ck_one 0))), 245, ([], [], zl86))])
set_option maxRecDepth 100000 in
theorem p2_h150_e : ck_ok p2_O none [] [(177, [p2_s1365])] 176 [] 90 p2_h150 = true := by decide +kernel
theorem p2_h150_s {X : Int → Int} {LX : Nat} : ck_Ok p2_O X LX 176 p2_h150 := ck_ok_s ⟨p2_nmu, ck_E1 (ck_S1 p2_s1365_s ck_S0) ck_E0⟩ ck_X0 ck_l0 p2_h150_e
set_option maxRecDepth 100000 in
/-- GlacierMailLaw.passes -/
def p2_h151 : ck_Sum := ((9, 1, 6), 245, [.inr (.inr (.inl 1)), .inl ((-2147483648), (-1), []), .inr (.inr (.inl 245))], ([], [], []), ([], []), [(.inr (some (.inl (ck_one 1))), 245, ([], [], []))])
set_option maxRecDepth 100000 in
theorem p2_h151_e : ck_ok p2_O none [] [(179, [p2_s1376])] 178 [] 86 p2_h151 = true := by decide +kernel
theorem p2_h151_s {X : Int → Int} {LX : Nat} : ck_Ok p2_O X LX 178 p2_h151 := ck_ok_s ⟨p2_nmu, ck_E1 (ck_S1 p2_s1376_s ck_S0) ck_E0⟩ ck_X0 ck_l0 p2_h151_e
set_option maxRecDepth 100000 in
/-- GlacierMailLaw.passes -/
def p2_h152 : ck_Sum := ((9, 1, 6), 245, [.inr (.inr (.inl 1)), .inl (24, 2147483647, []), .inr (.inr (.inl 245))], ([], [], []), ([], []), [(.inr (some (.inl (ck_one 1))), 245, ([], [], []))])
set_option maxRecDepth 100000 in
theorem p2_h152_e : ck_ok p2_O none [] [(179, [p2_s1377])] 178 [] 86 p2_h152 = true := by decide +kernel
theorem p2_h152_s {X : Int → Int} {LX : Nat} : ck_Ok p2_O X LX 178 p2_h152 := ck_ok_s ⟨p2_nmu, ck_E1 (ck_S1 p2_s1377_s ck_S0) ck_E0⟩ ck_X0 ck_l0 p2_h152_e
set_option maxRecDepth 100000 in
/-- GlacierMailLaw.passes -/
def p2_h153 : ck_Sum := ((9, 1, 6), 245, [.inr (.inr (.inl 1)), .inl (0, 23, []), .inr (.inr (.inl 245))], ([], [(3, 8, 0)], []), ([(206, 2, 8), (207, 2, 8), (245, 0, 0)], []), [(.inr (some (.inl (ck_one 1))), 245, ([], [], [])), (.inr (some (.inl (ck_one 0))), 245, ([], [], []))])
set_option maxRecDepth 100000 in
theorem p2_h153_e : ck_ok p2_O none [] [(179, [p2_s1391])] 178 [] 90 p2_h153 = true := by decide +kernel
theorem p2_h153_s {X : Int → Int} {LX : Nat} : ck_Ok p2_O X LX 178 p2_h153 := ck_ok_s ⟨p2_nmu, ck_E1 (ck_S1 p2_s1391_s ck_S0) ck_E0⟩ ck_X0 ck_l0 p2_h153_e
set_option maxRecDepth 100000 in
/-- GlacierMailLaw.writers -/
def p2_h154 : ck_Sum := ((9, 1, 6), 245, [.inr (.inr (.inl 1)), .inl ((-2147483648), (-1), []), .inl ((-2147483648), 2147483647, []), .inl ((-2147483648), 2147483647, []), .inr (.inr (.inl 245))], ([], [], []), ([], []), [(.inr (some (.inl (ck_one 1))), 245, ([], [], []))])
set_option maxRecDepth 100000 in
theorem p2_h154_e : ck_ok p2_O none [] [(186, [p2_s1399])] 185 [] 90 p2_h154 = true := by decide +kernel
theorem p2_h154_s {X : Int → Int} {LX : Nat} : ck_Ok p2_O X LX 185 p2_h154 := ck_ok_s ⟨p2_nmu, ck_E1 (ck_S1 p2_s1399_s ck_S0) ck_E0⟩ ck_X0 ck_l0 p2_h154_e
set_option maxRecDepth 100000 in
/-- GlacierMailLaw.writers -/
def p2_h155 : ck_Sum := ((9, 1, 6), 245, [.inr (.inr (.inl 1)), .inl (6, 2147483647, []), .inl ((-2147483648), 2147483647, []), .inl ((-2147483648), 2147483647, []), .inr (.inr (.inl 245))], ([], [], []), ([], []), [(.inr (some (.inl (ck_one 1))), 245, ([], [], []))])
set_option maxRecDepth 100000 in
theorem p2_h155_e : ck_ok p2_O none [] [(186, [p2_s1400])] 185 [] 90 p2_h155 = true := by decide +kernel
theorem p2_h155_s {X : Int → Int} {LX : Nat} : ck_Ok p2_O X LX 185 p2_h155 := ck_ok_s ⟨p2_nmu, ck_E1 (ck_S1 p2_s1400_s ck_S0) ck_E0⟩ ck_X0 ck_l0 p2_h155_e
set_option maxRecDepth 100000 in
/-- GlacierMailLaw.writers -/
def p2_h156 : ck_Sum := ((9, 2, 12), 245, [.inr (.inr (.inl 1)), .inl (0, 5, []), .inl ((-2147483648), (-1), []), .inl ((-2147483648), 2147483647, []), .inr (.inr (.inl 245))], ([], [], []), ([], []), [(.inr (some (.inl (ck_one 1))), 245, ([], [], [])), (.inr (some (.inl (ck_one 2))), 245, ([], [], []))])
set_option maxRecDepth 100000 in
theorem p2_h156_e : ck_ok p2_O none [] [(186, [p2_s1402])] 185 [] 90 p2_h156 = true := by decide +kernel
theorem p2_h156_s {X : Int → Int} {LX : Nat} : ck_Ok p2_O X LX 185 p2_h156 := ck_ok_s ⟨p2_nmu, ck_E1 (ck_S1 p2_s1402_s ck_S0) ck_E0⟩ ck_X0 ck_l0 p2_h156_e
set_option maxRecDepth 100000 in
/-- GlacierMailLaw.writers -/
def p2_h157 : ck_Sum := ((9, 2, 12), 245, [.inr (.inr (.inl 1)), .inl (0, 5, []), .inl (300, 2147483647, []), .inl ((-2147483648), 2147483647, []), .inr (.inr (.inl 245))], ([], [], []), ([], []), [(.inr (some (.inl (ck_one 1))), 245, ([], [], [])), (.inr (some (.inl (ck_one 2))), 245, ([], [], []))])
set_option maxRecDepth 100000 in
theorem p2_h157_e : ck_ok p2_O none [] [(186, [p2_s1404])] 185 [] 90 p2_h157 = true := by decide +kernel
theorem p2_h157_s {X : Int → Int} {LX : Nat} : ck_Ok p2_O X LX 185 p2_h157 := ck_ok_s ⟨p2_nmu, ck_E1 (ck_S1 p2_s1404_s ck_S0) ck_E0⟩ ck_X0 ck_l0 p2_h157_e
set_option maxRecDepth 100000 in
/-- GlacierMailLaw.writers -/
def p2_h158 : ck_Sum := ((9, 2, 12), 245, [.inr (.inr (.inl 1)), .inl (0, 5, []), .inl (0, 299, []), .inl ((-2147483648), (-1), []), .inr (.inr (.inl 245))], ([], [], []), ([], []), [(.inr (some (.inl (ck_one 1))), 245, ([], [], [])), (.inr (some (.inl (ck_one 2))), 245, ([], [], []))])
set_option maxRecDepth 100000 in
theorem p2_h158_e : ck_ok p2_O none [] [(186, [p2_s1406])] 185 [] 90 p2_h158 = true := by decide +kernel
theorem p2_h158_s {X : Int → Int} {LX : Nat} : ck_Ok p2_O X LX 185 p2_h158 := ck_ok_s ⟨p2_nmu, ck_E1 (ck_S1 p2_s1406_s ck_S0) ck_E0⟩ ck_X0 ck_l0 p2_h158_e
set_option maxRecDepth 100000 in
/-- GlacierMailLaw.writers -/
def p2_h159 : ck_Sum := ((9, 2, 12), 245, [.inr (.inr (.inl 1)), .inl (0, 5, []), .inl (0, 299, []), .inl (100, 2147483647, []), .inr (.inr (.inl 245))], ([], [], []), ([], []), [(.inr (some (.inl (ck_one 1))), 245, ([], [], [])), (.inr (some (.inl (ck_one 2))), 245, ([], [], []))])
set_option maxRecDepth 100000 in
theorem p2_h159_e : ck_ok p2_O none [] [(186, [p2_s1408])] 185 [] 90 p2_h159 = true := by decide +kernel
theorem p2_h159_s {X : Int → Int} {LX : Nat} : ck_Ok p2_O X LX 185 p2_h159 := ck_ok_s ⟨p2_nmu, ck_E1 (ck_S1 p2_s1408_s ck_S0) ck_E0⟩ ck_X0 ck_l0 p2_h159_e
set_option maxRecDepth 100000 in
/-- GlacierMailLaw.writers -/
def p2_h160 : ck_Sum := ((9, 1, 6), 245, [.inr (.inr (.inl 1)), .inl (0, 5, []), .inl (0, 299, []), .inl (0, 99, []), .inr (.inr (.inl 245))], ([], [(3, 8, 0)], []), ([(206, 2, 8), (245, 0, 0)], []), [(.inr (some (.inl (ck_one 1))), 245, ([], [], [])), (.inr (some (.inl (ck_one 0))), 245, ([], [], []))])
set_option maxRecDepth 100000 in
theorem p2_h160_e : ck_ok p2_O none [] [(186, [p2_s1411])] 185 [] 94 p2_h160 = true := by decide +kernel
theorem p2_h160_s {X : Int → Int} {LX : Nat} : ck_Ok p2_O X LX 185 p2_h160 := ck_ok_s ⟨p2_nmu, ck_E1 (ck_S1 p2_s1411_s ck_S0) ck_E0⟩ ck_X0 ck_l0 p2_h160_e
set_option maxRecDepth 100000 in
/-- GlacierMailLaw.wrote -/
def p2_h161 : ck_Sum := ((9, 1, 6), 245, [.inr (.inr (.inl 1)), .inl ((-2147483648), (-1), []), .inl ((-2147483648), 2147483647, []), .inl ((-2147483648), 2147483647, []), .inl ((-2147483648), 2147483647, []), .inr (.inr (.inl 245))], ([], [], []), ([], []), [(.inr (some (.inl (ck_one 1))), 245, ([], [], []))])
set_option maxRecDepth 100000 in
theorem p2_h161_e : ck_ok p2_O none [] [(190, [p2_s1423])] 189 [] 92 p2_h161 = true := by decide +kernel
theorem p2_h161_s {X : Int → Int} {LX : Nat} : ck_Ok p2_O X LX 189 p2_h161 := ck_ok_s ⟨p2_nmu, ck_E1 (ck_S1 p2_s1423_s ck_S0) ck_E0⟩ ck_X0 ck_l0 p2_h161_e
set_option maxRecDepth 100000 in
/-- GlacierMailLaw.wrote -/
def p2_h162 : ck_Sum := ((9, 1, 6), 245, [.inr (.inr (.inl 1)), .inl (8, 2147483647, []), .inl ((-2147483648), 2147483647, []), .inl ((-2147483648), 2147483647, []), .inl ((-2147483648), 2147483647, []), .inr (.inr (.inl 245))], ([], [], []), ([], []), [(.inr (some (.inl (ck_one 1))), 245, ([], [], []))])
set_option maxRecDepth 100000 in
theorem p2_h162_e : ck_ok p2_O none [] [(190, [p2_s1424])] 189 [] 92 p2_h162 = true := by decide +kernel
theorem p2_h162_s {X : Int → Int} {LX : Nat} : ck_Ok p2_O X LX 189 p2_h162 := ck_ok_s ⟨p2_nmu, ck_E1 (ck_S1 p2_s1424_s ck_S0) ck_E0⟩ ck_X0 ck_l0 p2_h162_e
set_option maxRecDepth 100000 in
/-- GlacierMailLaw.wrote -/
def p2_h163 : ck_Sum := ((9, 2, 12), 245, [.inr (.inr (.inl 1)), .inl (0, 7, []), .inl ((-2147483648), (-1), []), .inl ((-2147483648), 2147483647, []), .inl ((-2147483648), 2147483647, []), .inr (.inr (.inl 245))], ([], [], []), ([], []), [(.inr (some (.inl (ck_one 1))), 245, ([], [], []))])
set_option maxRecDepth 100000 in
theorem p2_h163_e : ck_ok p2_O none [] [(190, [p2_s1425])] 189 [] 92 p2_h163 = true := by decide +kernel
theorem p2_h163_s {X : Int → Int} {LX : Nat} : ck_Ok p2_O X LX 189 p2_h163 := ck_ok_s ⟨p2_nmu, ck_E1 (ck_S1 p2_s1425_s ck_S0) ck_E0⟩ ck_X0 ck_l0 p2_h163_e
set_option maxRecDepth 100000 in
/-- GlacierMailLaw.wrote -/
def p2_h164 : ck_Sum := ((9, 2, 12), 245, [.inr (.inr (.inl 1)), .inl (0, 7, []), .inl (6, 2147483647, []), .inl ((-2147483648), 2147483647, []), .inl ((-2147483648), 2147483647, []), .inr (.inr (.inl 245))], ([], [], []), ([], []), [(.inr (some (.inl (ck_one 1))), 245, ([], [], []))])
set_option maxRecDepth 100000 in
theorem p2_h164_e : ck_ok p2_O none [] [(190, [p2_s1426])] 189 [] 92 p2_h164 = true := by decide +kernel
theorem p2_h164_s {X : Int → Int} {LX : Nat} : ck_Ok p2_O X LX 189 p2_h164 := ck_ok_s ⟨p2_nmu, ck_E1 (ck_S1 p2_s1426_s ck_S0) ck_E0⟩ ck_X0 ck_l0 p2_h164_e
set_option maxRecDepth 100000 in
/-- GlacierMailLaw.wrote -/
def p2_h165 : ck_Sum := ((9, 3, 18), 245, [.inr (.inr (.inl 1)), .inl (0, 7, []), .inl (0, 5, []), .inl ((-2147483648), (-1), []), .inl ((-2147483648), 2147483647, []), .inr (.inr (.inl 245))], ([], [], []), ([], []), [(.inr (some (.inl (ck_one 1))), 245, ([], [], [])), (.inr (some (.inl (ck_one 2))), 245, ([], [], []))])
set_option maxRecDepth 100000 in
theorem p2_h165_e : ck_ok p2_O none [] [(190, [p2_s1427])] 189 [] 92 p2_h165 = true := by decide +kernel
theorem p2_h165_s {X : Int → Int} {LX : Nat} : ck_Ok p2_O X LX 189 p2_h165 := ck_ok_s ⟨p2_nmu, ck_E1 (ck_S1 p2_s1427_s ck_S0) ck_E0⟩ ck_X0 ck_l0 p2_h165_e
set_option maxRecDepth 100000 in
/-- GlacierMailLaw.wrote -/
def p2_h166 : ck_Sum := ((9, 3, 18), 245, [.inr (.inr (.inl 1)), .inl (0, 7, []), .inl (0, 5, []), .inl (300, 2147483647, []), .inl ((-2147483648), 2147483647, []), .inr (.inr (.inl 245))], ([], [], []), ([], []), [(.inr (some (.inl (ck_one 1))), 245, ([], [], [])), (.inr (some (.inl (ck_one 2))), 245, ([], [], []))])
set_option maxRecDepth 100000 in
theorem p2_h166_e : ck_ok p2_O none [] [(190, [p2_s1428])] 189 [] 92 p2_h166 = true := by decide +kernel
theorem p2_h166_s {X : Int → Int} {LX : Nat} : ck_Ok p2_O X LX 189 p2_h166 := ck_ok_s ⟨p2_nmu, ck_E1 (ck_S1 p2_s1428_s ck_S0) ck_E0⟩ ck_X0 ck_l0 p2_h166_e
set_option maxRecDepth 100000 in
/-- GlacierMailLaw.wrote -/
def p2_h167 : ck_Sum := ((9, 3, 18), 245, [.inr (.inr (.inl 1)), .inl (0, 7, []), .inl (0, 5, []), .inl (0, 299, []), .inl ((-2147483648), (-1), []), .inr (.inr (.inl 245))], ([], [], []), ([], []), [(.inr (some (.inl (ck_one 1))), 245, ([], [], [])), (.inr (some (.inl (ck_one 2))), 245, ([], [], []))])
set_option maxRecDepth 100000 in
theorem p2_h167_e : ck_ok p2_O none [] [(190, [p2_s1429])] 189 [] 92 p2_h167 = true := by decide +kernel
theorem p2_h167_s {X : Int → Int} {LX : Nat} : ck_Ok p2_O X LX 189 p2_h167 := ck_ok_s ⟨p2_nmu, ck_E1 (ck_S1 p2_s1429_s ck_S0) ck_E0⟩ ck_X0 ck_l0 p2_h167_e
set_option maxRecDepth 100000 in
/-- GlacierMailLaw.wrote -/
def p2_h168 : ck_Sum := ((9, 3, 18), 245, [.inr (.inr (.inl 1)), .inl (0, 7, []), .inl (0, 5, []), .inl (0, 299, []), .inl (100, 2147483647, []), .inr (.inr (.inl 245))], ([], [], []), ([], []), [(.inr (some (.inl (ck_one 1))), 245, ([], [], [])), (.inr (some (.inl (ck_one 2))), 245, ([], [], []))])
set_option maxRecDepth 100000 in
theorem p2_h168_e : ck_ok p2_O none [] [(190, [p2_s1430])] 189 [] 92 p2_h168 = true := by decide +kernel
theorem p2_h168_s {X : Int → Int} {LX : Nat} : ck_Ok p2_O X LX 189 p2_h168 := ck_ok_s ⟨p2_nmu, ck_E1 (ck_S1 p2_s1430_s ck_S0) ck_E0⟩ ck_X0 ck_l0 p2_h168_e
set_option maxRecDepth 100000 in
/-- GlacierMailLaw.wrote -/
def p2_h169 : ck_Sum := ((9, 2, 12), 245, [.inr (.inr (.inl 1)), .inl (0, 7, []), .inl (0, 5, []), .inl (0, 299, []), .inl (0, 99, []), .inr (.inr (.inl 245))], ([], [(3, 8, 0)], []), ([(206, 2, 8), (245, 0, 0)], []), [(.inr (some (.inl (ck_one 1))), 245, ([], [], [])), (.inr (some (.inl (ck_one 0))), 245, ([], [], [(245, 0, 0, ((-1), 298, []))]))])
set_option maxRecDepth 100000 in
theorem p2_h169_e : ck_ok p2_O none [] [(190, [p2_s1431])] 189 [] 96 p2_h169 = true := by decide +kernel
theorem p2_h169_s {X : Int → Int} {LX : Nat} : ck_Ok p2_O X LX 189 p2_h169 := ck_ok_s ⟨p2_nmu, ck_E1 (ck_S1 p2_s1431_s ck_S0) ck_E0⟩ ck_X0 ck_l0 p2_h169_e
set_option maxRecDepth 100000 in
/-- GlacierMailLaw.table -/
def p2_h170 : ck_Sum := ((9, 1, 6), 245, [.inr (.inr (.inl 1)), .inl ((-2147483648), (-1), []), .inl ((-2147483648), 2147483647, []), .inr (.inr (.inl 245))], ([], [], []), ([], []), [(.inr (some (.inl (ck_one 1))), 245, ([], [], []))])
set_option maxRecDepth 100000 in
theorem p2_h170_e : ck_ok p2_O none [] [(192, [p2_s1444])] 191 [] 88 p2_h170 = true := by decide +kernel
theorem p2_h170_s {X : Int → Int} {LX : Nat} : ck_Ok p2_O X LX 191 p2_h170 := ck_ok_s ⟨p2_nmu, ck_E1 (ck_S1 p2_s1444_s ck_S0) ck_E0⟩ ck_X0 ck_l0 p2_h170_e
set_option maxRecDepth 100000 in
/-- GlacierMailLaw.table -/
def p2_h171 : ck_Sum := ((9, 1, 6), 245, [.inr (.inr (.inl 1)), .inl (6, 2147483647, []), .inl ((-2147483648), 2147483647, []), .inr (.inr (.inl 245))], ([], [], []), ([], []), [(.inr (some (.inl (ck_one 1))), 245, ([], [], []))])
set_option maxRecDepth 100000 in
theorem p2_h171_e : ck_ok p2_O none [] [(192, [p2_s1447])] 191 [] 88 p2_h171 = true := by decide +kernel
theorem p2_h171_s {X : Int → Int} {LX : Nat} : ck_Ok p2_O X LX 191 p2_h171 := ck_ok_s ⟨p2_nmu, ck_E1 (ck_S1 p2_s1447_s ck_S0) ck_E0⟩ ck_X0 ck_l0 p2_h171_e
set_option maxRecDepth 100000 in
/-- GlacierMailLaw.table -/
def p2_h172 : ck_Sum := ((9, 2, 12), 245, [.inr (.inr (.inl 1)), .inl (0, 5, []), .inl ((-2147483648), (-1), []), .inr (.inr (.inl 245))], ([], [], []), ([], []), [(.inr (some (.inl (ck_one 1))), 245, ([], [], []))])
set_option maxRecDepth 100000 in
theorem p2_h172_e : ck_ok p2_O none [] [(192, [p2_s1450])] 191 [] 88 p2_h172 = true := by decide +kernel
theorem p2_h172_s {X : Int → Int} {LX : Nat} : ck_Ok p2_O X LX 191 p2_h172 := ck_ok_s ⟨p2_nmu, ck_E1 (ck_S1 p2_s1450_s ck_S0) ck_E0⟩ ck_X0 ck_l0 p2_h172_e
set_option maxRecDepth 100000 in
/-- GlacierMailLaw.table -/
def p2_h173 : ck_Sum := ((9, 2, 12), 245, [.inr (.inr (.inl 1)), .inl (0, 5, []), .inl (6, 2147483647, []), .inr (.inr (.inl 245))], ([], [], []), ([], []), [(.inr (some (.inl (ck_one 1))), 245, ([], [], []))])
set_option maxRecDepth 100000 in
theorem p2_h173_e : ck_ok p2_O none [] [(192, [p2_s1451])] 191 [] 88 p2_h173 = true := by decide +kernel
theorem p2_h173_s {X : Int → Int} {LX : Nat} : ck_Ok p2_O X LX 191 p2_h173 := ck_ok_s ⟨p2_nmu, ck_E1 (ck_S1 p2_s1451_s ck_S0) ck_E0⟩ ck_X0 ck_l0 p2_h173_e
set_option maxRecDepth 100000 in
/-- GlacierMailLaw.table -/
def p2_h174 : ck_Sum := ((9, 2, 12), 245, [.inr (.inr (.inl 1)), .inl (0, 5, []), .inl (0, 5, []), .inr (.inr (.inl 245))], ([], [], []), ([(245, 0, 0)], []), [(.inr (some (.inl (ck_one 1))), 245, ([], [], [])), (.inr (some (.inl (ck_one 0))), 245, ([], [], [(245, 0, 0, ((-1), 20, []))]))])
set_option maxRecDepth 100000 in
theorem p2_h174_e : ck_ok p2_O none [] [(192, [p2_s1453])] 191 [] 92 p2_h174 = true := by decide +kernel
theorem p2_h174_s {X : Int → Int} {LX : Nat} : ck_Ok p2_O X LX 191 p2_h174 := ck_ok_s ⟨p2_nmu, ck_E1 (ck_S1 p2_s1453_s ck_S0) ck_E0⟩ ck_X0 ck_l0 p2_h174_e
set_option maxRecDepth 100000 in
/-- GlacierMailLaw.apart -/
def p2_h175 : ck_Sum := ((9, 1, 6), 245, [.inr (.inr (.inl 1)), .inl ((-2147483648), (-1), []), .inl ((-2147483648), 2147483647, []), .inl ((-2147483648), 2147483647, []), .inr (.inr (.inl 245))], ([], [], []), ([], []), [(.inr (some (.inl (ck_one 1))), 245, ([], [], []))])
set_option maxRecDepth 100000 in
theorem p2_h175_e : ck_ok p2_O none [] [(195, [p2_s1463])] 194 [] 90 p2_h175 = true := by decide +kernel
theorem p2_h175_s {X : Int → Int} {LX : Nat} : ck_Ok p2_O X LX 194 p2_h175 := ck_ok_s ⟨p2_nmu, ck_E1 (ck_S1 p2_s1463_s ck_S0) ck_E0⟩ ck_X0 ck_l0 p2_h175_e
set_option maxRecDepth 100000 in
/-- GlacierMailLaw.apart -/
def p2_h176 : ck_Sum := ((9, 1, 6), 245, [.inr (.inr (.inl 1)), .inl (6, 2147483647, []), .inl ((-2147483648), 2147483647, []), .inl ((-2147483648), 2147483647, []), .inr (.inr (.inl 245))], ([], [], []), ([], []), [(.inr (some (.inl (ck_one 1))), 245, ([], [], []))])
set_option maxRecDepth 100000 in
theorem p2_h176_e : ck_ok p2_O none [] [(195, [p2_s1464])] 194 [] 90 p2_h176 = true := by decide +kernel
theorem p2_h176_s {X : Int → Int} {LX : Nat} : ck_Ok p2_O X LX 194 p2_h176 := ck_ok_s ⟨p2_nmu, ck_E1 (ck_S1 p2_s1464_s ck_S0) ck_E0⟩ ck_X0 ck_l0 p2_h176_e
set_option maxRecDepth 100000 in
/-- GlacierMailLaw.apart -/
def p2_h177 : ck_Sum := ((9, 2, 12), 245, [.inr (.inr (.inl 1)), .inl (0, 5, []), .inl ((-2147483648), (-1), []), .inl ((-2147483648), 2147483647, []), .inr (.inr (.inl 245))], ([], [], []), ([], []), [(.inr (some (.inl (ck_one 1))), 245, ([], [], []))])
set_option maxRecDepth 100000 in
theorem p2_h177_e : ck_ok p2_O none [] [(195, [p2_s1465])] 194 [] 90 p2_h177 = true := by decide +kernel
theorem p2_h177_s {X : Int → Int} {LX : Nat} : ck_Ok p2_O X LX 194 p2_h177 := ck_ok_s ⟨p2_nmu, ck_E1 (ck_S1 p2_s1465_s ck_S0) ck_E0⟩ ck_X0 ck_l0 p2_h177_e
set_option maxRecDepth 100000 in
/-- GlacierMailLaw.apart -/
def p2_h178 : ck_Sum := ((9, 2, 12), 245, [.inr (.inr (.inl 1)), .inl (0, 5, []), .inl (6, 2147483647, []), .inl ((-2147483648), 2147483647, []), .inr (.inr (.inl 245))], ([], [], []), ([], []), [(.inr (some (.inl (ck_one 1))), 245, ([], [], []))])
set_option maxRecDepth 100000 in
theorem p2_h178_e : ck_ok p2_O none [] [(195, [p2_s1466])] 194 [] 90 p2_h178 = true := by decide +kernel
theorem p2_h178_s {X : Int → Int} {LX : Nat} : ck_Ok p2_O X LX 194 p2_h178 := ck_ok_s ⟨p2_nmu, ck_E1 (ck_S1 p2_s1466_s ck_S0) ck_E0⟩ ck_X0 ck_l0 p2_h178_e
set_option maxRecDepth 100000 in
/-- GlacierMailLaw.apart -/
def p2_h179 : ck_Sum := ((9, 2, 12), 245, [.inr (.inr (.inl 1)), .inl (0, 5, []), .inl (0, 5, []), .inl ((-2147483648), 2147483647, []), .inr (.inr (.inl 245))], ([], [], []), ([(245, 0, 0)], []), [(.inr (some (.inl (ck_one 1))), 245, ([], [], [])), (.inr (some (.inl (ck_one 0))), 245, ([], [], [(245, 0, 0, (0, 1, []))]))])
set_option maxRecDepth 100000 in
theorem p2_h179_e : ck_ok p2_O none [] [(195, [p2_s1468])] 194 [] 98 p2_h179 = true := by decide +kernel
theorem p2_h179_s {X : Int → Int} {LX : Nat} : ck_Ok p2_O X LX 194 p2_h179 := ck_ok_s ⟨p2_nmu, ck_E1 (ck_S1 p2_s1468_s ck_S0) ck_E0⟩ ck_X0 ck_l0 p2_h179_e
set_option maxRecDepth 100000 in
/-- GlacierMailLaw.fit -/
def p2_h180 : ck_Sum := ((7, 1, 6), 245, [.inr (.inr (.inl 1)), .inr (.inr (.inl 245))], ([], [], [(1, 1, 1, (0, 400, [(6, 0)]))]), ([(1, 1, 1), (245, 0, 0)], []), [(.inr (some (.inl (ck_one 1))), 245, ([], [], [(1, 1, 1, ck_one 0)])), (.inr (some (.inl (ck_one 0))), 245, ([], [], [(1, 1, 1, ck_one 0)]))])
set_option maxRecDepth 100000 in
theorem p2_h180_e : ck_ok p2_O none [] [(197, [p2_s1482])] 196 [] 88 p2_h180 = true := by decide +kernel
theorem p2_h180_s {X : Int → Int} {LX : Nat} : ck_Ok p2_O X LX 196 p2_h180 := ck_ok_s ⟨p2_nmu, ck_E1 (ck_S1 p2_s1482_s ck_S0) ck_E0⟩ ck_X0 ck_l0 p2_h180_e
set_option maxRecDepth 100000 in
/-- GlacierMailLaw.soonest -/
def p2_h181 : ck_Sum := ((9, 1, 6), 245, [.inr (.inr (.inl 1)), .inl ((-2147483648), (-1), []), .inl ((-2147483648), 2147483647, []), .inl (0, 1, []), .inr (.inr (.inl 245))], ([], [], []), ([], []), [(.inr (some (.inl (ck_one 1))), 245, ([], [], []))])
set_option maxRecDepth 100000 in
theorem p2_h181_e : ck_ok p2_O none [] [(201, [p2_s1488])] 200 [] 90 p2_h181 = true := by decide +kernel
theorem p2_h181_s {X : Int → Int} {LX : Nat} : ck_Ok p2_O X LX 200 p2_h181 := ck_ok_s ⟨p2_nmu, ck_E1 (ck_S1 p2_s1488_s ck_S0) ck_E0⟩ ck_X0 ck_l0 p2_h181_e
set_option maxRecDepth 100000 in
/-- GlacierMailLaw.soonest -/
def p2_h182 : ck_Sum := ((9, 1, 6), 245, [.inr (.inr (.inl 1)), .inl (8, 2147483647, []), .inl ((-2147483648), 2147483647, []), .inl (0, 1, []), .inr (.inr (.inl 245))], ([], [], []), ([], []), [(.inr (some (.inl (ck_one 1))), 245, ([], [], []))])
set_option maxRecDepth 100000 in
theorem p2_h182_e : ck_ok p2_O none [] [(201, [p2_s1489])] 200 [] 90 p2_h182 = true := by decide +kernel
theorem p2_h182_s {X : Int → Int} {LX : Nat} : ck_Ok p2_O X LX 200 p2_h182 := ck_ok_s ⟨p2_nmu, ck_E1 (ck_S1 p2_s1489_s ck_S0) ck_E0⟩ ck_X0 ck_l0 p2_h182_e
set_option maxRecDepth 100000 in
/-- GlacierMailLaw.soonest -/
def p2_h183 : ck_Sum := ((9, 2, 12), 245, [.inr (.inr (.inl 1)), .inl (0, 7, []), .inl ((-2147483648), (-1), []), .inl (0, 1, []), .inr (.inr (.inl 245))], ([], [], []), ([], []), [(.inr (some (.inl (ck_one 1))), 245, ([], [], []))])
set_option maxRecDepth 100000 in
theorem p2_h183_e : ck_ok p2_O none [] [(201, [p2_s1490])] 200 [] 90 p2_h183 = true := by decide +kernel
theorem p2_h183_s {X : Int → Int} {LX : Nat} : ck_Ok p2_O X LX 200 p2_h183 := ck_ok_s ⟨p2_nmu, ck_E1 (ck_S1 p2_s1490_s ck_S0) ck_E0⟩ ck_X0 ck_l0 p2_h183_e
set_option maxRecDepth 100000 in
/-- GlacierMailLaw.soonest -/
def p2_h184 : ck_Sum := ((9, 2, 12), 245, [.inr (.inr (.inl 1)), .inl (0, 7, []), .inl (8, 2147483647, []), .inl (0, 1, []), .inr (.inr (.inl 245))], ([], [], []), ([], []), [(.inr (some (.inl (ck_one 1))), 245, ([], [], []))])
set_option maxRecDepth 100000 in
theorem p2_h184_e : ck_ok p2_O none [] [(201, [p2_s1491])] 200 [] 90 p2_h184 = true := by decide +kernel
theorem p2_h184_s {X : Int → Int} {LX : Nat} : ck_Ok p2_O X LX 200 p2_h184 := ck_ok_s ⟨p2_nmu, ck_E1 (ck_S1 p2_s1491_s ck_S0) ck_E0⟩ ck_X0 ck_l0 p2_h184_e
set_option maxRecDepth 100000 in
/-- GlacierMailLaw.soonest -/
def p2_h185 : ck_Sum := ((9, 3, 18), 245, [.inr (.inr (.inl 1)), .inl (0, 7, []), .inl (0, 7, []), .inl (0, 1, []), .inr (.inr (.inl 245))], ([], [(3, 8, 0)], [(3, 6, 6, (0, 299, [(10, 0)]))]), (zl275, []), [(.inr (some (.inl (ck_one 1))), 245, ([], [], [])), (.inr (some (.inl (ck_one 0))), 245, ([], [], [(206, 4, 4, ck_one (-1))])), (.inr (some (.inl (ck_one 2))), 245, ([], [], []))])
set_option maxRecDepth 100000 in
theorem p2_h185_e : ck_ok p2_O none [] [(201, [p2_s1506])] 200 [] 94 p2_h185 = true := by decide +kernel
theorem p2_h185_s {X : Int → Int} {LX : Nat} : ck_Ok p2_O X LX 200 p2_h185 := ck_ok_s ⟨p2_nmu, ck_E1 (ck_S1 p2_s1506_s ck_S0) ck_E0⟩ ck_X0 ck_l0 p2_h185_e
set_option maxRecDepth 100000 in
/-- GlacierMailLaw.chain -/
def p2_h186 : ck_Sum := ((9, 1, 6), 245, [.inr (.inr (.inl 1)), .inl ((-2147483648), (-1), []), .inl ((-2147483648), 2147483647, []), .inl ((-2147483648), 2147483647, []), .inr (.inr (.inl 245))], ([], [], []), ([], []), [(.inr (some (.inl (ck_one 1))), 245, ([], [], []))])
set_option maxRecDepth 100000 in
theorem p2_h186_e : ck_ok p2_O none [] [(207, [p2_s1516])] 206 [] 90 p2_h186 = true := by decide +kernel
theorem p2_h186_s {X : Int → Int} {LX : Nat} : ck_Ok p2_O X LX 206 p2_h186 := ck_ok_s ⟨p2_nmu, ck_E1 (ck_S1 p2_s1516_s ck_S0) ck_E0⟩ ck_X0 ck_l0 p2_h186_e
set_option maxRecDepth 100000 in
/-- GlacierMailLaw.chain -/
def p2_h187 : ck_Sum := ((9, 1, 6), 245, [.inr (.inr (.inl 1)), .inl (8, 2147483647, []), .inl ((-2147483648), 2147483647, []), .inl ((-2147483648), 2147483647, []), .inr (.inr (.inl 245))], ([], [], []), ([], []), [(.inr (some (.inl (ck_one 1))), 245, ([], [], []))])
set_option maxRecDepth 100000 in
theorem p2_h187_e : ck_ok p2_O none [] [(207, [p2_s1517])] 206 [] 90 p2_h187 = true := by decide +kernel
theorem p2_h187_s {X : Int → Int} {LX : Nat} : ck_Ok p2_O X LX 206 p2_h187 := ck_ok_s ⟨p2_nmu, ck_E1 (ck_S1 p2_s1517_s ck_S0) ck_E0⟩ ck_X0 ck_l0 p2_h187_e
set_option maxRecDepth 100000 in
/-- GlacierMailLaw.chain -/
def p2_h188 : ck_Sum := ((9, 2, 12), 245, [.inr (.inr (.inl 1)), .inl (0, 7, []), .inl ((-2147483648), (-1), []), .inl ((-2147483648), 2147483647, []), .inr (.inr (.inl 245))], ([], [], []), ([], []), [(.inr (some (.inl (ck_one 1))), 245, ([], [], []))])
set_option maxRecDepth 100000 in
theorem p2_h188_e : ck_ok p2_O none [] [(207, [p2_s1518])] 206 [] 90 p2_h188 = true := by decide +kernel
theorem p2_h188_s {X : Int → Int} {LX : Nat} : ck_Ok p2_O X LX 206 p2_h188 := ck_ok_s ⟨p2_nmu, ck_E1 (ck_S1 p2_s1518_s ck_S0) ck_E0⟩ ck_X0 ck_l0 p2_h188_e
set_option maxRecDepth 100000 in
/-- GlacierMailLaw.chain -/
def p2_h189 : ck_Sum := ((9, 2, 12), 245, [.inr (.inr (.inl 1)), .inl (0, 7, []), .inl (8, 2147483647, []), .inl ((-2147483648), 2147483647, []), .inr (.inr (.inl 245))], ([], [], []), ([], []), [(.inr (some (.inl (ck_one 1))), 245, ([], [], []))])
set_option maxRecDepth 100000 in
theorem p2_h189_e : ck_ok p2_O none [] [(207, [p2_s1519])] 206 [] 90 p2_h189 = true := by decide +kernel
theorem p2_h189_s {X : Int → Int} {LX : Nat} : ck_Ok p2_O X LX 206 p2_h189 := ck_ok_s ⟨p2_nmu, ck_E1 (ck_S1 p2_s1519_s ck_S0) ck_E0⟩ ck_X0 ck_l0 p2_h189_e
set_option maxRecDepth 100000 in
/-- GlacierMailLaw.chain -/
def p2_h190 : ck_Sum := ((9, 4, 24), 245, [.inr (.inr (.inl 1)), .inl (0, 7, []), .inl (0, 7, []), .inl ((-2147483648), 0, []), .inr (.inr (.inl 245))], ([], [(3, 8, 0)], [(3, 6, 6, (0, 299, [(10, 0)]))]), (zl275, []), [(.inr (some (.inl (ck_one 1))), 245, ([], [], [])), (.inr (some (.inl (ck_one 0))), 245, ([], [], zl276)), (.inr (some (.inl (ck_one 2))), 245, ([], [], []))])
set_option maxRecDepth 100000 in
theorem p2_h190_e : ck_ok p2_O none [] [(207, [p2_s1523])] 206 [] 94 p2_h190 = true := by decide +kernel
theorem p2_h190_s {X : Int → Int} {LX : Nat} : ck_Ok p2_O X LX 206 p2_h190 := ck_ok_s ⟨p2_nmu, ck_E1 (ck_S1 p2_s1523_s ck_S0) ck_E0⟩ ck_X0 ck_l0 p2_h190_e
set_option maxRecDepth 100000 in
/-- GlacierMailLaw.chain -/
def p2_h191 : ck_Sum := ((9, 3, 18), 245, [.inr (.inr (.inl 1)), .inl (0, 7, []), .inl (0, 7, []), .inl (51, 2147483647, []), .inr (.inr (.inl 245))], ([], [(3, 8, 0)], [(3, 6, 6, (0, 299, [(10, 0)]))]), (zl275, []), zl277)
set_option maxRecDepth 100000 in
theorem p2_h191_e : ck_ok p2_O none [] [(207, [p2_s1526])] 206 [] 94 p2_h191 = true := by decide +kernel
theorem p2_h191_s {X : Int → Int} {LX : Nat} : ck_Ok p2_O X LX 206 p2_h191 := ck_ok_s ⟨p2_nmu, ck_E1 (ck_S1 p2_s1526_s ck_S0) ck_E0⟩ ck_X0 ck_l0 p2_h191_e
set_option maxRecDepth 100000 in
/-- GlacierMailLaw.chain -/
def p2_h192 : ck_Sum := ((9, 3, 18), 245, [.inr (.inr (.inl 1)), .inl (0, 7, []), .inl (0, 7, []), .inl (1, 50, []), .inr (.inr (.inl 245))], ([], [(3, 8, 0)], [(3, 6, 6, (0, 299, [(10, 0)]))]), (zl275, []), zl277)
set_option maxRecDepth 100000 in
theorem p2_h192_e : ck_ok p2_O none [] [(207, [p2_s1528])] 206 [] 94 p2_h192 = true := by decide +kernel
theorem p2_h192_s {X : Int → Int} {LX : Nat} : ck_Ok p2_O X LX 206 p2_h192 := ck_ok_s ⟨p2_nmu, ck_E1 (ck_S1 p2_s1528_s ck_S0) ck_E0⟩ ck_X0 ck_l0 p2_h192_e
set_option maxRecDepth 100000 in
/-- GlacierMailLaw.reached -/
def p2_h193 : ck_Sum := ((9, 1, 6), 245, [.inr (.inr (.inl 1)), .inl ((-2147483648), (-1), []), .inl ((-2147483648), 2147483647, []), .inr (.inr (.inl 245))], ([], [], []), ([], []), [(.inr (some (.inl (ck_one 1))), 245, ([], [], []))])
set_option maxRecDepth 100000 in
theorem p2_h193_e : ck_ok p2_O none [] [(211, [p2_s1541])] 210 [] 88 p2_h193 = true := by decide +kernel
theorem p2_h193_s {X : Int → Int} {LX : Nat} : ck_Ok p2_O X LX 210 p2_h193 := ck_ok_s ⟨p2_nmu, ck_E1 (ck_S1 p2_s1541_s ck_S0) ck_E0⟩ ck_X0 ck_l0 p2_h193_e
set_option maxRecDepth 100000 in
/-- GlacierMailLaw.reached -/
def p2_h194 : ck_Sum := ((9, 1, 6), 245, [.inr (.inr (.inl 1)), .inl (8, 2147483647, []), .inl ((-2147483648), 2147483647, []), .inr (.inr (.inl 245))], ([], [], []), ([], []), [(.inr (some (.inl (ck_one 1))), 245, ([], [], []))])
set_option maxRecDepth 100000 in
theorem p2_h194_e : ck_ok p2_O none [] [(211, [p2_s1542])] 210 [] 88 p2_h194 = true := by decide +kernel
theorem p2_h194_s {X : Int → Int} {LX : Nat} : ck_Ok p2_O X LX 210 p2_h194 := ck_ok_s ⟨p2_nmu, ck_E1 (ck_S1 p2_s1542_s ck_S0) ck_E0⟩ ck_X0 ck_l0 p2_h194_e
set_option maxRecDepth 100000 in
/-- GlacierMailLaw.reached -/
def p2_h195 : ck_Sum := ((9, 2, 12), 245, [.inr (.inr (.inl 1)), .inl (0, 7, []), .inl ((-2147483648), (-1), []), .inr (.inr (.inl 245))], ([], [], []), ([], []), [(.inr (some (.inl (ck_one 1))), 245, ([], [], [])), (.inr (some (.inl (ck_one 2))), 245, ([], [], []))])
set_option maxRecDepth 100000 in
theorem p2_h195_e : ck_ok p2_O none [] [(211, [p2_s1543])] 210 [] 88 p2_h195 = true := by decide +kernel
theorem p2_h195_s {X : Int → Int} {LX : Nat} : ck_Ok p2_O X LX 210 p2_h195 := ck_ok_s ⟨p2_nmu, ck_E1 (ck_S1 p2_s1543_s ck_S0) ck_E0⟩ ck_X0 ck_l0 p2_h195_e
set_option maxRecDepth 100000 in
/-- GlacierMailLaw.reached -/
def p2_h196 : ck_Sum := ((9, 2, 12), 245, [.inr (.inr (.inl 1)), .inl (0, 7, []), .inl (300, 2147483647, []), .inr (.inr (.inl 245))], ([], [], []), ([], []), [(.inr (some (.inl (ck_one 1))), 245, ([], [], [])), (.inr (some (.inl (ck_one 2))), 245, ([], [], []))])
set_option maxRecDepth 100000 in
theorem p2_h196_e : ck_ok p2_O none [] [(211, [p2_s1544])] 210 [] 88 p2_h196 = true := by decide +kernel
theorem p2_h196_s {X : Int → Int} {LX : Nat} : ck_Ok p2_O X LX 210 p2_h196 := ck_ok_s ⟨p2_nmu, ck_E1 (ck_S1 p2_s1544_s ck_S0) ck_E0⟩ ck_X0 ck_l0 p2_h196_e
set_option maxRecDepth 100000 in
/-- GlacierMailLaw.reached -/
def p2_h197 : ck_Sum := ((9, 1, 6), 245, [.inr (.inr (.inl 1)), .inl (0, 7, []), .inl (0, 299, []), .inr (.inr (.inl 245))], ([], [(3, 8, 0)], [(3, 6, 6, (0, 299, [(10, 0)]))]), (zl275, []), [(.inr (some (.inl (ck_one 1))), 245, ([], [], [])), (.inr (some (.inl (ck_one 0))), 245, ([], [], [(206, 4, 4, ck_one (-1))]))])
set_option maxRecDepth 100000 in
theorem p2_h197_e : ck_ok p2_O none [] [(211, [p2_s1548])] 210 [] 92 p2_h197 = true := by decide +kernel
theorem p2_h197_s {X : Int → Int} {LX : Nat} : ck_Ok p2_O X LX 210 p2_h197 := ck_ok_s ⟨p2_nmu, ck_E1 (ck_S1 p2_s1548_s ck_S0) ck_E0⟩ ck_X0 ck_l0 p2_h197_e
set_option maxRecDepth 100000 in
/-- GlacierMailLaw.thieves -/
def p2_h198 : ck_Sum := ((8, 1, 6), 245, [.inr (.inr (.inl 1)), .inl ((-2147483648), (-1), []), .inl (0, 1, []), .inr (.inr (.inl 245))], ([], [], []), ([], []), [(.inr (some (.inl (ck_one 1))), 245, ([], [], []))])
set_option maxRecDepth 100000 in
theorem p2_h198_e : ck_ok p2_O none [] [(213, [p2_s1555])] 212 [] 88 p2_h198 = true := by decide +kernel
theorem p2_h198_s {X : Int → Int} {LX : Nat} : ck_Ok p2_O X LX 212 p2_h198 := ck_ok_s ⟨p2_nmu, ck_E1 (ck_S1 p2_s1555_s ck_S0) ck_E0⟩ ck_X0 ck_l0 p2_h198_e
set_option maxRecDepth 100000 in
/-- GlacierMailLaw.thieves -/
def p2_h199 : ck_Sum := ((8, 1, 6), 245, [.inr (.inr (.inl 1)), .inl (31, 2147483647, []), .inl (0, 1, []), .inr (.inr (.inl 245))], ([], [], []), ([], []), [(.inr (some (.inl (ck_one 1))), 245, ([], [], []))])
set_option maxRecDepth 100000 in
theorem p2_h199_e : ck_ok p2_O none [] [(213, [p2_s1557])] 212 [] 88 p2_h199 = true := by decide +kernel
theorem p2_h199_s {X : Int → Int} {LX : Nat} : ck_Ok p2_O X LX 212 p2_h199 := ck_ok_s ⟨p2_nmu, ck_E1 (ck_S1 p2_s1557_s ck_S0) ck_E0⟩ ck_X0 ck_l0 p2_h199_e
set_option maxRecDepth 100000 in
/-- GlacierMailLaw.thieves -/
def p2_h200 : ck_Sum := ((8, 1, 6), 245, [.inr (.inr (.inl 1)), .inl (0, 30, []), .inl (0, 1, []), .inr (.inr (.inl 245))], ([], [(3, 8, 0)], [(3, 6, 6, (0, 299, [(10, 0)]))]), ([(1, 15, 15), (206, 2, 8), (220, 3, 3), (221, 0, 47), (222, 3, 3), (223, 0, 179), (224, 3, 3), (225, 0, 185), (245, 0, 0)], []), [(.inr (some (.inl (ck_one 1))), 245, ([], [], [])), (.inr (some (.inl (ck_one 0))), 245, ([], [], [(224, 3, 3, (1, 31, [])), (1, 15, 15, ck_one 1)]))])
set_option maxRecDepth 100000 in
theorem p2_h200_e : ck_ok p2_O none [] [(213, [p2_s1569])] 212 [] 92 p2_h200 = true := by decide +kernel
theorem p2_h200_s {X : Int → Int} {LX : Nat} : ck_Ok p2_O X LX 212 p2_h200 := ck_ok_s ⟨p2_nmu, ck_E1 (ck_S1 p2_s1569_s ck_S0) ck_E0⟩ ck_X0 ck_l0 p2_h200_e
set_option maxRecDepth 100000 in
/-- GlacierMailLaw.watchman -/
def p2_h201 : ck_Sum := ((8, 1, 6), 245, [.inr (.inr (.inl 1)), .inl ((-2147483648), (-1), []), .inl (0, 1, []), .inr (.inr (.inl 245))], ([], [], []), ([], []), [(.inr (some (.inl (ck_one 1))), 245, ([], [], []))])
set_option maxRecDepth 100000 in
theorem p2_h201_e : ck_ok p2_O none [] [(218, [p2_s1583])] 217 [] 88 p2_h201 = true := by decide +kernel
theorem p2_h201_s {X : Int → Int} {LX : Nat} : ck_Ok p2_O X LX 217 p2_h201 := ck_ok_s ⟨p2_nmu, ck_E1 (ck_S1 p2_s1583_s ck_S0) ck_E0⟩ ck_X0 ck_l0 p2_h201_e
set_option maxRecDepth 100000 in
/-- GlacierMailLaw.watchman -/
def p2_h202 : ck_Sum := ((8, 1, 6), 245, [.inr (.inr (.inl 1)), .inl (31, 2147483647, []), .inl (0, 1, []), .inr (.inr (.inl 245))], ([], [], []), ([], []), [(.inr (some (.inl (ck_one 1))), 245, ([], [], []))])
set_option maxRecDepth 100000 in
theorem p2_h202_e : ck_ok p2_O none [] [(218, [p2_s1584])] 217 [] 88 p2_h202 = true := by decide +kernel
theorem p2_h202_s {X : Int → Int} {LX : Nat} : ck_Ok p2_O X LX 217 p2_h202 := ck_ok_s ⟨p2_nmu, ck_E1 (ck_S1 p2_s1584_s ck_S0) ck_E0⟩ ck_X0 ck_l0 p2_h202_e
set_option maxRecDepth 100000 in
/-- GlacierMailLaw.watchman -/
def p2_h203 : ck_Sum := ((8, 1, 6), 245, [.inr (.inr (.inl 1)), .inl (0, 30, []), .inl (0, 1, []), .inr (.inr (.inl 245))], ([], [(3, 8, 0)], [(3, 6, 6, (0, 299, [(10, 0)]))]), ([(1, 15, 15), (206, 2, 8), (220, 3, 3), (221, 0, 47), (222, 3, 3), (223, 0, 179), (245, 0, 0)], []), [(.inr (some (.inl (ck_one 1))), 245, ([], [], [])), (.inr (some (.inl (ck_one 0))), 245, ([], [], zl278))])
set_option maxRecDepth 100000 in
theorem p2_h203_e : ck_ok p2_O none [] [(218, [p2_s1587])] 217 [] 92 p2_h203 = true := by decide +kernel
theorem p2_h203_s {X : Int → Int} {LX : Nat} : ck_Ok p2_O X LX 217 p2_h203 := ck_ok_s ⟨p2_nmu, ck_E1 (ck_S1 p2_s1587_s ck_S0) ck_E0⟩ ck_X0 ck_l0 p2_h203_e
end
/-! 78r88a05.hp -/
section
/-! THE LAW'S OWN METHODS (laid by wip/am/p2n.py). -/
set_option maxRecDepth 100000 in
/-- GlacierMailLaw.meeting -/
def p2_h204 : ck_Sum := ((9, 1, 6), 245, [.inr (.inr (.inl 1)), .inl ((-2147483648), (-1), []), .inl ((-2147483648), 2147483647, []), .inr (.inr (.inl 245))], ([], [], []), ([], []), [(.inr (some (.inl (ck_one 1))), 245, ([], [], []))])
set_option maxRecDepth 100000 in
theorem p2_h204_e : ck_ok p2_O none [] [(221, [p2_s1591])] 220 [] 88 p2_h204 = true := by decide +kernel
theorem p2_h204_s {X : Int → Int} {LX : Nat} : ck_Ok p2_O X LX 220 p2_h204 := ck_ok_s ⟨p2_nmu, ck_E1 (ck_S1 p2_s1591_s ck_S0) ck_E0⟩ ck_X0 ck_l0 p2_h204_e
set_option maxRecDepth 100000 in
/-- GlacierMailLaw.meeting -/
def p2_h205 : ck_Sum := ((9, 1, 6), 245, [.inr (.inr (.inl 1)), .inl (24, 2147483647, []), .inl ((-2147483648), 2147483647, []), .inr (.inr (.inl 245))], ([], [], []), ([], []), [(.inr (some (.inl (ck_one 1))), 245, ([], [], []))])
set_option maxRecDepth 100000 in
theorem p2_h205_e : ck_ok p2_O none [] [(221, [p2_s1592])] 220 [] 88 p2_h205 = true := by decide +kernel
theorem p2_h205_s {X : Int → Int} {LX : Nat} : ck_Ok p2_O X LX 220 p2_h205 := ck_ok_s ⟨p2_nmu, ck_E1 (ck_S1 p2_s1592_s ck_S0) ck_E0⟩ ck_X0 ck_l0 p2_h205_e
set_option maxRecDepth 100000 in
/-- GlacierMailLaw.meeting -/
def p2_h206 : ck_Sum := ((9, 2, 12), 245, [.inr (.inr (.inl 1)), .inl (0, 23, []), .inl ((-2147483648), (-1), []), .inr (.inr (.inl 245))], ([], [], []), ([], []), [(.inr (some (.inl (ck_one 1))), 245, ([], [], []))])
set_option maxRecDepth 100000 in
theorem p2_h206_e : ck_ok p2_O none [] [(221, [p2_s1593])] 220 [] 88 p2_h206 = true := by decide +kernel
theorem p2_h206_s {X : Int → Int} {LX : Nat} : ck_Ok p2_O X LX 220 p2_h206 := ck_ok_s ⟨p2_nmu, ck_E1 (ck_S1 p2_s1593_s ck_S0) ck_E0⟩ ck_X0 ck_l0 p2_h206_e
set_option maxRecDepth 100000 in
/-- GlacierMailLaw.meeting -/
def p2_h207 : ck_Sum := ((9, 2, 12), 245, [.inr (.inr (.inl 1)), .inl (0, 23, []), .inl (24, 2147483647, []), .inr (.inr (.inl 245))], ([], [], []), ([], []), [(.inr (some (.inl (ck_one 1))), 245, ([], [], []))])
set_option maxRecDepth 100000 in
theorem p2_h207_e : ck_ok p2_O none [] [(221, [p2_s1594])] 220 [] 88 p2_h207 = true := by decide +kernel
theorem p2_h207_s {X : Int → Int} {LX : Nat} : ck_Ok p2_O X LX 220 p2_h207 := ck_ok_s ⟨p2_nmu, ck_E1 (ck_S1 p2_s1594_s ck_S0) ck_E0⟩ ck_X0 ck_l0 p2_h207_e
set_option maxRecDepth 100000 in
/-- GlacierMailLaw.meeting -/
def p2_h208 : ck_Sum := ((9, 3, 18), 245, [.inr (.inr (.inl 1)), .inl (0, 23, []), .inl (0, 23, []), .inr (.inr (.inl 245))], ([], [(3, 8, 0)], [(3, 6, 6, (0, 299, [(10, 0)]))]), ([(206, 2, 8), (207, 2, 8), (245, 0, 0)], []), [(.inr (some (.inl (ck_one 1))), 245, ([], [], [])), (.inr (some (.inl (ck_one 0))), 245, ([], [], [(245, 0, 0, ((-1), 299, []))])), (.inr (some (.inl (ck_one 2))), 245, ([], [], []))])
set_option maxRecDepth 100000 in
theorem p2_h208_e : ck_ok p2_O none [] [(221, [p2_s1597])] 220 [] 92 p2_h208 = true := by decide +kernel
theorem p2_h208_s {X : Int → Int} {LX : Nat} : ck_Ok p2_O X LX 220 p2_h208 := ck_ok_s ⟨p2_nmu, ck_E1 (ck_S1 p2_s1597_s ck_S0) ck_E0⟩ ck_X0 ck_l0 p2_h208_e
set_option maxRecDepth 100000 in
/-- GlacierMailLaw.outs -/
def p2_h209 : ck_Sum := ((8, 1, 6), 245, [.inr (.inr (.inl 1)), .inl ((-2147483648), (-1), []), .inr (.inr (.inl 245))], ([], [], []), ([], []), [(.inr (some (.inl (ck_one 1))), 245, ([], [], []))])
set_option maxRecDepth 100000 in
theorem p2_h209_e : ck_ok p2_O none [] [(223, [p2_s1603])] 222 [] 86 p2_h209 = true := by decide +kernel
theorem p2_h209_s {X : Int → Int} {LX : Nat} : ck_Ok p2_O X LX 222 p2_h209 := ck_ok_s ⟨p2_nmu, ck_E1 (ck_S1 p2_s1603_s ck_S0) ck_E0⟩ ck_X0 ck_l0 p2_h209_e
set_option maxRecDepth 100000 in
/-- GlacierMailLaw.outs -/
def p2_h210 : ck_Sum := ((8, 1, 6), 245, [.inr (.inr (.inl 1)), .inl (300, 2147483647, []), .inr (.inr (.inl 245))], ([], [], []), ([], []), [(.inr (some (.inl (ck_one 1))), 245, ([], [], []))])
set_option maxRecDepth 100000 in
theorem p2_h210_e : ck_ok p2_O none [] [(223, [p2_s1604])] 222 [] 86 p2_h210 = true := by decide +kernel
theorem p2_h210_s {X : Int → Int} {LX : Nat} : ck_Ok p2_O X LX 222 p2_h210 := ck_ok_s ⟨p2_nmu, ck_E1 (ck_S1 p2_s1604_s ck_S0) ck_E0⟩ ck_X0 ck_l0 p2_h210_e
set_option maxRecDepth 100000 in
/-- GlacierMailLaw.outs -/
def p2_h211 : ck_Sum := ((6, 0, 0), 245, [.inr (.inr (.inl 1)), .inl (0, 299, []), .inr (.inr (.inl 245))], ([], [(3, 8, 0)], []), (zl255, []), [(.inr (some (.inl (ck_one 0))), 245, ([], [], [(1, 15, 15, ck_one 1)]))])
set_option maxRecDepth 100000 in
theorem p2_h211_e : ck_ok p2_O none [] [(223, [p2_s1606])] 222 [] 90 p2_h211 = true := by decide +kernel
theorem p2_h211_s {X : Int → Int} {LX : Nat} : ck_Ok p2_O X LX 222 p2_h211 := ck_ok_s ⟨p2_nmu, ck_E1 (ck_S1 p2_s1606_s ck_S0) ck_E0⟩ ck_X0 ck_l0 p2_h211_e
set_option maxRecDepth 100000 in
/-- GlacierMailLaw.streams -/
def p2_h212 : ck_Sum := ((8, 1, 6), 245, [.inr (.inr (.inl 1)), .inl ((-2147483648), (-1), []), .inl (0, 1, []), .inr (.inr (.inl 245))], ([], [], []), ([], []), [(.inr (some (.inl (ck_one 1))), 245, ([], [], []))])
set_option maxRecDepth 100000 in
theorem p2_h212_e : ck_ok p2_O none [] [(225, [p2_s1613])] 224 [] 88 p2_h212 = true := by decide +kernel
theorem p2_h212_s {X : Int → Int} {LX : Nat} : ck_Ok p2_O X LX 224 p2_h212 := ck_ok_s ⟨p2_nmu, ck_E1 (ck_S1 p2_s1613_s ck_S0) ck_E0⟩ ck_X0 ck_l0 p2_h212_e
set_option maxRecDepth 100000 in
/-- GlacierMailLaw.streams -/
def p2_h213 : ck_Sum := ((8, 1, 6), 245, [.inr (.inr (.inl 1)), .inl (300, 2147483647, []), .inl (0, 1, []), .inr (.inr (.inl 245))], ([], [], []), ([], []), [(.inr (some (.inl (ck_one 1))), 245, ([], [], []))])
set_option maxRecDepth 100000 in
theorem p2_h213_e : ck_ok p2_O none [] [(225, [p2_s1614])] 224 [] 88 p2_h213 = true := by decide +kernel
theorem p2_h213_s {X : Int → Int} {LX : Nat} : ck_Ok p2_O X LX 224 p2_h213 := ck_ok_s ⟨p2_nmu, ck_E1 (ck_S1 p2_s1614_s ck_S0) ck_E0⟩ ck_X0 ck_l0 p2_h213_e
set_option maxRecDepth 100000 in
/-- GlacierMailLaw.streams -/
def p2_h214 : ck_Sum := ((6, 0, 0), 245, [.inr (.inr (.inl 1)), .inl (0, 299, []), .inl (0, 1, []), .inr (.inr (.inl 245))], ([], [(3, 8, 0)], []), (zl255, []), [(.inr (some (.inl (ck_one 0))), 245, ([], [], [(1, 15, 15, ck_one 1)]))])
set_option maxRecDepth 100000 in
theorem p2_h214_e : ck_ok p2_O none [] [(225, [p2_s1615])] 224 [] 92 p2_h214 = true := by decide +kernel
theorem p2_h214_s {X : Int → Int} {LX : Nat} : ck_Ok p2_O X LX 224 p2_h214 := ck_ok_s ⟨p2_nmu, ck_E1 (ck_S1 p2_s1615_s ck_S0) ck_E0⟩ ck_X0 ck_l0 p2_h214_e
set_option maxRecDepth 100000 in
/-- GlacierMailLaw.range -/
def p2_h215 : ck_Sum := ((9, 1, 6), 245, [.inr (.inr (.inl 1)), .inl ((-2147483648), (-1), []), .inl ((-2147483648), 2147483647, []), .inr (.inr (.inl 245))], ([], [], []), ([], []), [(.inr (some (.inl (ck_one 1))), 245, ([], [], []))])
set_option maxRecDepth 100000 in
theorem p2_h215_e : ck_ok p2_O none [] [(227, [p2_s1619])] 226 [] 88 p2_h215 = true := by decide +kernel
theorem p2_h215_s {X : Int → Int} {LX : Nat} : ck_Ok p2_O X LX 226 p2_h215 := ck_ok_s ⟨p2_nmu, ck_E1 (ck_S1 p2_s1619_s ck_S0) ck_E0⟩ ck_X0 ck_l0 p2_h215_e
set_option maxRecDepth 100000 in
/-- GlacierMailLaw.range -/
def p2_h216 : ck_Sum := ((9, 1, 6), 245, [.inr (.inr (.inl 1)), .inl (6, 2147483647, []), .inl ((-2147483648), 2147483647, []), .inr (.inr (.inl 245))], ([], [], []), ([], []), [(.inr (some (.inl (ck_one 1))), 245, ([], [], []))])
set_option maxRecDepth 100000 in
theorem p2_h216_e : ck_ok p2_O none [] [(227, [p2_s1620])] 226 [] 88 p2_h216 = true := by decide +kernel
theorem p2_h216_s {X : Int → Int} {LX : Nat} : ck_Ok p2_O X LX 226 p2_h216 := ck_ok_s ⟨p2_nmu, ck_E1 (ck_S1 p2_s1620_s ck_S0) ck_E0⟩ ck_X0 ck_l0 p2_h216_e
set_option maxRecDepth 100000 in
/-- GlacierMailLaw.range -/
def p2_h217 : ck_Sum := ((9, 2, 12), 245, [.inr (.inr (.inl 1)), .inl (0, 5, []), .inl ((-2147483648), (-1), []), .inr (.inr (.inl 245))], ([], [], []), ([], []), [(.inr (some (.inl (ck_one 1))), 245, ([], [], [])), (.inr (some (.inl (ck_one 2))), 245, ([], [], []))])
set_option maxRecDepth 100000 in
theorem p2_h217_e : ck_ok p2_O none [] [(227, [p2_s1621])] 226 [] 88 p2_h217 = true := by decide +kernel
theorem p2_h217_s {X : Int → Int} {LX : Nat} : ck_Ok p2_O X LX 226 p2_h217 := ck_ok_s ⟨p2_nmu, ck_E1 (ck_S1 p2_s1621_s ck_S0) ck_E0⟩ ck_X0 ck_l0 p2_h217_e
set_option maxRecDepth 100000 in
/-- GlacierMailLaw.range -/
def p2_h218 : ck_Sum := ((9, 2, 12), 245, [.inr (.inr (.inl 1)), .inl (0, 5, []), .inl (300, 2147483647, []), .inr (.inr (.inl 245))], ([], [], []), ([], []), [(.inr (some (.inl (ck_one 1))), 245, ([], [], [])), (.inr (some (.inl (ck_one 2))), 245, ([], [], []))])
set_option maxRecDepth 100000 in
theorem p2_h218_e : ck_ok p2_O none [] [(227, [p2_s1622])] 226 [] 88 p2_h218 = true := by decide +kernel
theorem p2_h218_s {X : Int → Int} {LX : Nat} : ck_Ok p2_O X LX 226 p2_h218 := ck_ok_s ⟨p2_nmu, ck_E1 (ck_S1 p2_s1622_s ck_S0) ck_E0⟩ ck_X0 ck_l0 p2_h218_e
set_option maxRecDepth 100000 in
/-- GlacierMailLaw.range -/
def p2_h219 : ck_Sum := ((9, 1, 6), 245, [.inr (.inr (.inl 1)), .inl (0, 5, []), .inl (0, 299, []), .inr (.inr (.inl 245))], ([], [(3, 8, 0)], []), ([(206, 2, 8), (245, 0, 0)], []), [(.inr (some (.inl (ck_one 1))), 245, ([], [], [])), (.inr (some (.inl (ck_one 0))), 245, ([], [], [(206, 4, 4, ck_one (-1))]))])
set_option maxRecDepth 100000 in
theorem p2_h219_e : ck_ok p2_O none [] [(227, [p2_s1623])] 226 [] 92 p2_h219 = true := by decide +kernel
theorem p2_h219_s {X : Int → Int} {LX : Nat} : ck_Ok p2_O X LX 226 p2_h219 := ck_ok_s ⟨p2_nmu, ck_E1 (ck_S1 p2_s1623_s ck_S0) ck_E0⟩ ck_X0 ck_l0 p2_h219_e
set_option maxRecDepth 100000 in
/-- GlacierMailLaw.swiftest -/
def p2_h220 : ck_Sum := ((9, 1, 6), 245, [.inr (.inr (.inl 1)), .inl ((-2147483648), (-1), []), .inl ((-2147483648), 2147483647, []), .inr (.inr (.inl 245))], ([], [], []), ([], []), [(.inr (some (.inl (ck_one 1))), 245, ([], [], []))])
set_option maxRecDepth 100000 in
theorem p2_h220_e : ck_ok p2_O none [] [(229, [p2_s1629])] 228 [] 88 p2_h220 = true := by decide +kernel
theorem p2_h220_s {X : Int → Int} {LX : Nat} : ck_Ok p2_O X LX 228 p2_h220 := ck_ok_s ⟨p2_nmu, ck_E1 (ck_S1 p2_s1629_s ck_S0) ck_E0⟩ ck_X0 ck_l0 p2_h220_e
set_option maxRecDepth 100000 in
/-- GlacierMailLaw.swiftest -/
def p2_h221 : ck_Sum := ((9, 1, 6), 245, [.inr (.inr (.inl 1)), .inl (99, 2147483647, []), .inl ((-2147483648), 2147483647, []), .inr (.inr (.inl 245))], ([], [], []), ([], []), [(.inr (some (.inl (ck_one 1))), 245, ([], [], []))])
set_option maxRecDepth 100000 in
theorem p2_h221_e : ck_ok p2_O none [] [(229, [p2_s1630])] 228 [] 88 p2_h221 = true := by decide +kernel
theorem p2_h221_s {X : Int → Int} {LX : Nat} : ck_Ok p2_O X LX 228 p2_h221 := ck_ok_s ⟨p2_nmu, ck_E1 (ck_S1 p2_s1630_s ck_S0) ck_E0⟩ ck_X0 ck_l0 p2_h221_e
set_option maxRecDepth 100000 in
/-- GlacierMailLaw.swiftest -/
def p2_h222 : ck_Sum := ((9, 2, 12), 245, [.inr (.inr (.inl 1)), .inl (0, 98, []), .inl ((-2147483648), (-1), []), .inr (.inr (.inl 245))], ([], [], []), ([], []), [(.inr (some (.inl (ck_one 1))), 245, ([], [], [])), (.inr (some (.inl (ck_one 2))), 245, ([], [], []))])
set_option maxRecDepth 100000 in
theorem p2_h222_e : ck_ok p2_O none [] [(229, [p2_s1631])] 228 [] 88 p2_h222 = true := by decide +kernel
theorem p2_h222_s {X : Int → Int} {LX : Nat} : ck_Ok p2_O X LX 228 p2_h222 := ck_ok_s ⟨p2_nmu, ck_E1 (ck_S1 p2_s1631_s ck_S0) ck_E0⟩ ck_X0 ck_l0 p2_h222_e
set_option maxRecDepth 100000 in
/-- GlacierMailLaw.swiftest -/
def p2_h223 : ck_Sum := ((9, 2, 12), 245, [.inr (.inr (.inl 1)), .inl (0, 98, []), .inl (300, 2147483647, []), .inr (.inr (.inl 245))], ([], [], []), ([], []), [(.inr (some (.inl (ck_one 1))), 245, ([], [], [])), (.inr (some (.inl (ck_one 2))), 245, ([], [], []))])
set_option maxRecDepth 100000 in
theorem p2_h223_e : ck_ok p2_O none [] [(229, [p2_s1632])] 228 [] 88 p2_h223 = true := by decide +kernel
theorem p2_h223_s {X : Int → Int} {LX : Nat} : ck_Ok p2_O X LX 228 p2_h223 := ck_ok_s ⟨p2_nmu, ck_E1 (ck_S1 p2_s1632_s ck_S0) ck_E0⟩ ck_X0 ck_l0 p2_h223_e
set_option maxRecDepth 100000 in
/-- GlacierMailLaw.swiftest -/
def p2_h224 : ck_Sum := ((9, 1, 6), 245, [.inr (.inr (.inl 1)), .inl (0, 98, []), .inl (0, 299, []), .inr (.inr (.inl 245))], ([], [(3, 8, 0)], []), ([(206, 2, 8), (245, 0, 0)], []), [(.inr (some (.inl (ck_one 1))), 245, ([], [], [])), (.inr (some (.inl (ck_one 0))), 245, ([], [], [(245, 0, 0, ((-1), 5, []))]))])
set_option maxRecDepth 100000 in
theorem p2_h224_e : ck_ok p2_O none [] [(229, [p2_s1633])] 228 [] 92 p2_h224 = true := by decide +kernel
theorem p2_h224_s {X : Int → Int} {LX : Nat} : ck_Ok p2_O X LX 228 p2_h224 := ck_ok_s ⟨p2_nmu, ck_E1 (ck_S1 p2_s1633_s ck_S0) ck_E0⟩ ck_X0 ck_l0 p2_h224_e
set_option maxRecDepth 100000 in
/-- GlacierMailLaw.bare -/
def p2_h225 : ck_Sum := ((8, 1, 6), 245, [.inr (.inr (.inl 1)), .inl ((-2147483648), (-1), []), .inr (.inr (.inl 245))], ([], [], []), ([], []), [(.inr (some (.inl (ck_one 1))), 245, ([], [], []))])
set_option maxRecDepth 100000 in
theorem p2_h225_e : ck_ok p2_O none [] [(231, [p2_s1639])] 230 [] 86 p2_h225 = true := by decide +kernel
theorem p2_h225_s {X : Int → Int} {LX : Nat} : ck_Ok p2_O X LX 230 p2_h225 := ck_ok_s ⟨p2_nmu, ck_E1 (ck_S1 p2_s1639_s ck_S0) ck_E0⟩ ck_X0 ck_l0 p2_h225_e
set_option maxRecDepth 100000 in
/-- GlacierMailLaw.bare -/
def p2_h226 : ck_Sum := ((8, 1, 6), 245, [.inr (.inr (.inl 1)), .inl (300, 2147483647, []), .inr (.inr (.inl 245))], ([], [], []), ([], []), [(.inr (some (.inl (ck_one 1))), 245, ([], [], []))])
set_option maxRecDepth 100000 in
theorem p2_h226_e : ck_ok p2_O none [] [(231, [p2_s1640])] 230 [] 86 p2_h226 = true := by decide +kernel
theorem p2_h226_s {X : Int → Int} {LX : Nat} : ck_Ok p2_O X LX 230 p2_h226 := ck_ok_s ⟨p2_nmu, ck_E1 (ck_S1 p2_s1640_s ck_S0) ck_E0⟩ ck_X0 ck_l0 p2_h226_e
set_option maxRecDepth 100000 in
/-- GlacierMailLaw.bare -/
def p2_h227 : ck_Sum := ((5, 0, 0), 245, [.inr (.inr (.inl 1)), .inl (0, 299, []), .inr (.inr (.inl 245))], ([], [(3, 8, 0)], []), ([(206, 2, 8), (245, 0, 0)], []), [(.inr (some (.inl (ck_one 0))), 245, ([], [], []))])
set_option maxRecDepth 100000 in
theorem p2_h227_e : ck_ok p2_O none [] [(231, [p2_s1641])] 230 [] 90 p2_h227 = true := by decide +kernel
theorem p2_h227_s {X : Int → Int} {LX : Nat} : ck_Ok p2_O X LX 230 p2_h227 := ck_ok_s ⟨p2_nmu, ck_E1 (ck_S1 p2_s1641_s ck_S0) ck_E0⟩ ck_X0 ck_l0 p2_h227_e
set_option maxRecDepth 100000 in
/-- GlacierMailLaw.log -/
def p2_h228 : ck_Sum := ((7, 1, 6), 245, [.inr (.inr (.inl 1)), .inl ((-2147483648), (-1), []), .inl ((-2147483648), 2147483647, []), .inr (.inr (.inl 245))], ([], [], []), ([(245, 0, 0)], []), [(.inr (some (.inl (ck_one 1))), 245, ([], [], [])), (.inr (some (.inl (ck_one 0))), 245, ([], [], [(245, 0, 0, ((-1), 299, []))]))])
set_option maxRecDepth 100000 in
theorem p2_h228_e : ck_ok p2_O none [] [(233, [p2_s1646])] 232 [] 92 p2_h228 = true := by decide +kernel
theorem p2_h228_s {X : Int → Int} {LX : Nat} : ck_Ok p2_O X LX 232 p2_h228 := ck_ok_s ⟨p2_nmu, ck_E1 (ck_S1 p2_s1646_s ck_S0) ck_E0⟩ ck_X0 ck_l0 p2_h228_e
set_option maxRecDepth 100000 in
/-- GlacierMailLaw.log -/
def p2_h229 : ck_Sum := ((7, 1, 6), 245, [.inr (.inr (.inl 1)), .inl (24, 2147483647, []), .inl ((-2147483648), 2147483647, []), .inr (.inr (.inl 245))], ([], [], []), ([(245, 0, 0)], []), [(.inr (some (.inl (ck_one 1))), 245, ([], [], [])), (.inr (some (.inl (ck_one 0))), 245, ([], [], [(245, 0, 0, ((-1), 299, []))]))])
set_option maxRecDepth 100000 in
theorem p2_h229_e : ck_ok p2_O none [] [(233, [p2_s1647])] 232 [] 92 p2_h229 = true := by decide +kernel
theorem p2_h229_s {X : Int → Int} {LX : Nat} : ck_Ok p2_O X LX 232 p2_h229 := ck_ok_s ⟨p2_nmu, ck_E1 (ck_S1 p2_s1647_s ck_S0) ck_E0⟩ ck_X0 ck_l0 p2_h229_e
set_option maxRecDepth 100000 in
/-- GlacierMailLaw.log -/
def p2_h230 : ck_Sum := ((7, 1, 6), 245, [.inr (.inr (.inl 1)), .inl (0, 23, []), .inl ((-2147483648), (-1), []), .inr (.inr (.inl 245))], ([], [], []), ([], []), [(.inr (some (.inl (ck_one 1))), 245, ([], [], []))])
set_option maxRecDepth 100000 in
theorem p2_h230_e : ck_ok p2_O none [] [(233, [p2_s1648])] 232 [] 88 p2_h230 = true := by decide +kernel
theorem p2_h230_s {X : Int → Int} {LX : Nat} : ck_Ok p2_O X LX 232 p2_h230 := ck_ok_s ⟨p2_nmu, ck_E1 (ck_S1 p2_s1648_s ck_S0) ck_E0⟩ ck_X0 ck_l0 p2_h230_e
set_option maxRecDepth 100000 in
/-- GlacierMailLaw.log -/
def p2_h231 : ck_Sum := ((7, 1, 6), 245, [.inr (.inr (.inl 1)), .inl (0, 23, []), .inl (10, 2147483647, []), .inr (.inr (.inl 245))], ([], [], []), ([], []), [(.inr (some (.inl (ck_one 1))), 245, ([], [], []))])
set_option maxRecDepth 100000 in
theorem p2_h231_e : ck_ok p2_O none [] [(233, [p2_s1649])] 232 [] 88 p2_h231 = true := by decide +kernel
theorem p2_h231_s {X : Int → Int} {LX : Nat} : ck_Ok p2_O X LX 232 p2_h231 := ck_ok_s ⟨p2_nmu, ck_E1 (ck_S1 p2_s1649_s ck_S0) ck_E0⟩ ck_X0 ck_l0 p2_h231_e
set_option maxRecDepth 100000 in
/-- GlacierMailLaw.log -/
def p2_h232 : ck_Sum := ((7, 1, 6), 245, [.inr (.inr (.inl 1)), .inl (0, 23, []), .inl (0, 9, []), .inr (.inr (.inl 245))], ([], [], []), ([(245, 0, 0)], []), [(.inr (some (.inl (ck_one 0))), 245, ([], [], [(245, 0, 0, ((-1), 299, []))])), (.inr (some (.inl (ck_one 1))), 245, ([], [], []))])
set_option maxRecDepth 100000 in
theorem p2_h232_e : ck_ok p2_O none [] [(233, [p2_s1650])] 232 [] 92 p2_h232 = true := by decide +kernel
theorem p2_h232_s {X : Int → Int} {LX : Nat} : ck_Ok p2_O X LX 232 p2_h232 := ck_ok_s ⟨p2_nmu, ck_E1 (ck_S1 p2_s1650_s ck_S0) ck_E0⟩ ck_X0 ck_l0 p2_h232_e
end
/-! 78r88l00.hp -/
section
/-! THE LAW'S OWN METHODS (laid by wip/am/p2n.py). -/
set_option maxRecDepth 100000 in
/-- GlacierMailLaw.valley -/
def pl_h0 : ck_Sum := ((13, 1, 6), 249, [.inr (.inr (.inl 1)), .inr (.inr (.inl 245))], ([], [(3, 8, 246), (16, 8, 100016)], zl44), (zl253, [(3, 8), (16, 8)]), [(.inr (some (.inl (ck_one 0))), 249, ([], [(3, 8, 246), (16, 8, 246)], zl254)), (.inr (some (.inl (ck_one 1))), 249, ([], [(3, 8, 246), (16, 8, 246)], zl49)), (.inr (some (.inl (ck_one 2))), 249, ([], [(3, 8, 246), (16, 8, 246)], zl48))])
set_option maxRecDepth 100000 in
theorem pl_h0_e : ck_ok p2_OL none [] [(71, [pl_s143])] 70 [] 88 pl_h0 = true := by decide +kernel
theorem pl_h0_s {X : Int → Int} {LX : Nat} : ck_Ok p2_OL X LX 70 pl_h0 := ck_ok_s ⟨pl_nmu, ck_E1 (ck_S1 pl_s143_s ck_S0) ck_E0⟩ ck_X0 ck_l0 pl_h0_e
set_option maxRecDepth 100000 in
/-- GlacierMailLaw.heat -/
def pl_h1 : ck_Sum := ((8, 1, 6), 249, [.inr (.inr (.inl 1)), .inl ((-2147483648), (-1), []), .inr (.inr (.inl 245))], ([], [], []), ([], []), [(.inr (some (.inl (ck_one 1))), 249, ([], [], []))])
set_option maxRecDepth 100000 in
theorem pl_h1_e : ck_ok p2_OL none [] [(128, [pl_s146])] 127 [] 86 pl_h1 = true := by decide +kernel
theorem pl_h1_s {X : Int → Int} {LX : Nat} : ck_Ok p2_OL X LX 127 pl_h1 := ck_ok_s ⟨pl_nmu, ck_E1 (ck_S1 pl_s146_s ck_S0) ck_E0⟩ ck_X0 ck_l0 pl_h1_e
set_option maxRecDepth 100000 in
/-- GlacierMailLaw.heat -/
def pl_h2 : ck_Sum := ((8, 1, 6), 249, [.inr (.inr (.inl 1)), .inl (300, 2147483647, []), .inr (.inr (.inl 245))], ([], [], []), ([], []), [(.inr (some (.inl (ck_one 1))), 249, ([], [], []))])
set_option maxRecDepth 100000 in
theorem pl_h2_e : ck_ok p2_OL none [] [(128, [pl_s148])] 127 [] 86 pl_h2 = true := by decide +kernel
theorem pl_h2_s {X : Int → Int} {LX : Nat} : ck_Ok p2_OL X LX 127 pl_h2 := ck_ok_s ⟨pl_nmu, ck_E1 (ck_S1 pl_s148_s ck_S0) ck_E0⟩ ck_X0 ck_l0 pl_h2_e
set_option maxRecDepth 100000 in
/-- GlacierMailLaw.heat -/
def pl_h3 : ck_Sum := ((2, 0, 0), 249, [.inr (.inr (.inl 1)), .inl (0, 299, []), .inr (.inr (.inl 245))], ([], [], []), ([(245, 0, 0)], []), [(.inr (some (.inl (ck_one 0))), 249, ([], [], [(245, 0, 0, (0, 9, []))]))])
set_option maxRecDepth 100000 in
theorem pl_h3_e : ck_ok p2_OL none [] [(128, [pl_s151])] 127 [] 90 pl_h3 = true := by decide +kernel
theorem pl_h3_s {X : Int → Int} {LX : Nat} : ck_Ok p2_OL X LX 127 pl_h3 := ck_ok_s ⟨pl_nmu, ck_E1 (ck_S1 pl_s151_s ck_S0) ck_E0⟩ ck_X0 ck_l0 pl_h3_e
set_option maxRecDepth 100000 in
/-- GlacierMailLaw.speed -/
def pl_h4 : ck_Sum := ((9, 1, 6), 249, [.inr (.inr (.inl 1)), .inl ((-2147483648), (-1), []), .inl ((-2147483648), 2147483647, []), .inr (.inr (.inl 245))], ([], [], []), ([], []), [(.inr (some (.inl (ck_one 1))), 249, ([], [], []))])
set_option maxRecDepth 100000 in
theorem pl_h4_e : ck_ok p2_OL none [] [(131, [pl_s154])] 130 [] 88 pl_h4 = true := by decide +kernel
theorem pl_h4_s {X : Int → Int} {LX : Nat} : ck_Ok p2_OL X LX 130 pl_h4 := ck_ok_s ⟨pl_nmu, ck_E1 (ck_S1 pl_s154_s ck_S0) ck_E0⟩ ck_X0 ck_l0 pl_h4_e
set_option maxRecDepth 100000 in
/-- GlacierMailLaw.speed -/
def pl_h5 : ck_Sum := ((9, 1, 6), 249, [.inr (.inr (.inl 1)), .inl (6, 2147483647, []), .inl ((-2147483648), 2147483647, []), .inr (.inr (.inl 245))], ([], [], []), ([], []), [(.inr (some (.inl (ck_one 1))), 249, ([], [], []))])
set_option maxRecDepth 100000 in
theorem pl_h5_e : ck_ok p2_OL none [] [(131, [pl_s157])] 130 [] 88 pl_h5 = true := by decide +kernel
theorem pl_h5_s {X : Int → Int} {LX : Nat} : ck_Ok p2_OL X LX 130 pl_h5 := ck_ok_s ⟨pl_nmu, ck_E1 (ck_S1 pl_s157_s ck_S0) ck_E0⟩ ck_X0 ck_l0 pl_h5_e
set_option maxRecDepth 100000 in
/-- GlacierMailLaw.speed -/
def pl_h6 : ck_Sum := ((9, 2, 12), 249, [.inr (.inr (.inl 1)), .inl (0, 5, []), .inl ((-2147483648), (-1), []), .inr (.inr (.inl 245))], ([], [], []), ([], []), [(.inr (some (.inl (ck_one 1))), 249, ([], [], []))])
set_option maxRecDepth 100000 in
theorem pl_h6_e : ck_ok p2_OL none [] [(131, [pl_s162])] 130 [] 88 pl_h6 = true := by decide +kernel
theorem pl_h6_s {X : Int → Int} {LX : Nat} : ck_Ok p2_OL X LX 130 pl_h6 := ck_ok_s ⟨pl_nmu, ck_E1 (ck_S1 pl_s162_s ck_S0) ck_E0⟩ ck_X0 ck_l0 pl_h6_e
set_option maxRecDepth 100000 in
/-- GlacierMailLaw.speed -/
def pl_h7 : ck_Sum := ((9, 2, 12), 249, [.inr (.inr (.inl 1)), .inl (0, 5, []), .inl (99, 2147483647, []), .inr (.inr (.inl 245))], ([], [], []), ([], []), [(.inr (some (.inl (ck_one 1))), 249, ([], [], []))])
set_option maxRecDepth 100000 in
theorem pl_h7_e : ck_ok p2_OL none [] [(131, [pl_s165])] 130 [] 88 pl_h7 = true := by decide +kernel
theorem pl_h7_s {X : Int → Int} {LX : Nat} : ck_Ok p2_OL X LX 130 pl_h7 := ck_ok_s ⟨pl_nmu, ck_E1 (ck_S1 pl_s165_s ck_S0) ck_E0⟩ ck_X0 ck_l0 pl_h7_e
set_option maxRecDepth 100000 in
/-- GlacierMailLaw.speed -/
def pl_h8 : ck_Sum := ((9, 2, 12), 249, [.inr (.inr (.inl 1)), .inl (0, 5, []), .inl (0, 98, []), .inr (.inr (.inl 245))], ([], [], []), ([(245, 0, 0)], []), [(.inr (some (.inl (ck_one 1))), 249, ([], [], [])), (.inr (some (.inl (ck_one 0))), 249, ([], [], [(245, 0, 0, ((-1), 98, []))]))])
set_option maxRecDepth 100000 in
theorem pl_h8_e : ck_ok p2_OL none [] [(131, [pl_s169])] 130 [] 92 pl_h8 = true := by decide +kernel
theorem pl_h8_s {X : Int → Int} {LX : Nat} : ck_Ok p2_OL X LX 130 pl_h8 := ck_ok_s ⟨pl_nmu, ck_E1 (ck_S1 pl_s169_s ck_S0) ck_E0⟩ ck_X0 ck_l0 pl_h8_e
set_option maxRecDepth 100000 in
/-- GlacierMailLaw.flow -/
def pl_h9 : ck_Sum := ((9, 1, 6), 249, [.inr (.inr (.inl 1)), .inl ((-2147483648), (-1), []), .inl ((-2147483648), 2147483647, []), .inl ((-2147483648), 2147483647, []), .inr (.inr (.inl 245))], ([], [], []), ([], []), [(.inr (some (.inl (ck_one 1))), 249, ([], [], []))])
set_option maxRecDepth 100000 in
theorem pl_h9_e : ck_ok p2_OL none [] [(136, [pl_s170])] 135 [] 90 pl_h9 = true := by decide +kernel
theorem pl_h9_s {X : Int → Int} {LX : Nat} : ck_Ok p2_OL X LX 135 pl_h9 := ck_ok_s ⟨pl_nmu, ck_E1 (ck_S1 pl_s170_s ck_S0) ck_E0⟩ ck_X0 ck_l0 pl_h9_e
set_option maxRecDepth 100000 in
/-- GlacierMailLaw.flow -/
def pl_h10 : ck_Sum := ((9, 1, 6), 249, [.inr (.inr (.inl 1)), .inl (6, 2147483647, []), .inl ((-2147483648), 2147483647, []), .inl ((-2147483648), 2147483647, []), .inr (.inr (.inl 245))], ([], [], []), ([], []), [(.inr (some (.inl (ck_one 1))), 249, ([], [], []))])
set_option maxRecDepth 100000 in
theorem pl_h10_e : ck_ok p2_OL none [] [(136, [pl_s171])] 135 [] 90 pl_h10 = true := by decide +kernel
theorem pl_h10_s {X : Int → Int} {LX : Nat} : ck_Ok p2_OL X LX 135 pl_h10 := ck_ok_s ⟨pl_nmu, ck_E1 (ck_S1 pl_s171_s ck_S0) ck_E0⟩ ck_X0 ck_l0 pl_h10_e
set_option maxRecDepth 100000 in
/-- GlacierMailLaw.flow -/
def pl_h11 : ck_Sum := ((9, 2, 12), 249, [.inr (.inr (.inl 1)), .inl (0, 5, []), .inl ((-2147483648), (-1), []), .inl ((-2147483648), 2147483647, []), .inr (.inr (.inl 245))], ([], [], []), ([], []), [(.inr (some (.inl (ck_one 1))), 249, ([], [], []))])
set_option maxRecDepth 100000 in
theorem pl_h11_e : ck_ok p2_OL none [] [(136, [pl_s172])] 135 [] 90 pl_h11 = true := by decide +kernel
theorem pl_h11_s {X : Int → Int} {LX : Nat} : ck_Ok p2_OL X LX 135 pl_h11 := ck_ok_s ⟨pl_nmu, ck_E1 (ck_S1 pl_s172_s ck_S0) ck_E0⟩ ck_X0 ck_l0 pl_h11_e
set_option maxRecDepth 100000 in
/-- GlacierMailLaw.flow -/
def pl_h12 : ck_Sum := ((9, 2, 12), 249, [.inr (.inr (.inl 1)), .inl (0, 5, []), .inl (99, 2147483647, []), .inl ((-2147483648), 2147483647, []), .inr (.inr (.inl 245))], ([], [], []), ([], []), [(.inr (some (.inl (ck_one 1))), 249, ([], [], []))])
set_option maxRecDepth 100000 in
theorem pl_h12_e : ck_ok p2_OL none [] [(136, [pl_s173])] 135 [] 90 pl_h12 = true := by decide +kernel
theorem pl_h12_s {X : Int → Int} {LX : Nat} : ck_Ok p2_OL X LX 135 pl_h12 := ck_ok_s ⟨pl_nmu, ck_E1 (ck_S1 pl_s173_s ck_S0) ck_E0⟩ ck_X0 ck_l0 pl_h12_e
set_option maxRecDepth 100000 in
/-- GlacierMailLaw.flow -/
def pl_h13 : ck_Sum := ((9, 3, 18), 249, [.inr (.inr (.inl 1)), .inl (0, 5, []), .inl (0, 98, []), .inl ((-2147483648), (-1), []), .inr (.inr (.inl 245))], ([], [], []), ([], []), [(.inr (some (.inl (ck_one 1))), 249, ([], [], [])), (.inr (some (.inl (ck_one 2))), 249, ([], [], []))])
set_option maxRecDepth 100000 in
theorem pl_h13_e : ck_ok p2_OL none [] [(136, [pl_s174])] 135 [] 90 pl_h13 = true := by decide +kernel
theorem pl_h13_s {X : Int → Int} {LX : Nat} : ck_Ok p2_OL X LX 135 pl_h13 := ck_ok_s ⟨pl_nmu, ck_E1 (ck_S1 pl_s174_s ck_S0) ck_E0⟩ ck_X0 ck_l0 pl_h13_e
set_option maxRecDepth 100000 in
/-- GlacierMailLaw.flow -/
def pl_h14 : ck_Sum := ((9, 3, 18), 249, [.inr (.inr (.inl 1)), .inl (0, 5, []), .inl (0, 98, []), .inl (300, 2147483647, []), .inr (.inr (.inl 245))], ([], [], []), ([], []), [(.inr (some (.inl (ck_one 1))), 249, ([], [], [])), (.inr (some (.inl (ck_one 2))), 249, ([], [], []))])
set_option maxRecDepth 100000 in
theorem pl_h14_e : ck_ok p2_OL none [] [(136, [pl_s175])] 135 [] 90 pl_h14 = true := by decide +kernel
theorem pl_h14_s {X : Int → Int} {LX : Nat} : ck_Ok p2_OL X LX 135 pl_h14 := ck_ok_s ⟨pl_nmu, ck_E1 (ck_S1 pl_s175_s ck_S0) ck_E0⟩ ck_X0 ck_l0 pl_h14_e
set_option maxRecDepth 100000 in
/-- GlacierMailLaw.flow -/
def pl_h15 : ck_Sum := ((9, 2, 12), 249, [.inr (.inr (.inl 1)), .inl (0, 5, []), .inl (0, 98, []), .inl (0, 299, []), .inr (.inr (.inl 245))], ([], [(3, 8, 246)], []), ([(200, 6, 6), (204, 0, 9), (205, 0, 14849), (245, 0, 0)], []), [(.inr (some (.inl (ck_one 1))), 249, ([], [], [])), (.inr (some (.inl (ck_one 0))), 249, ([], [], [(245, 0, 0, (0, 30, [])), (200, 6, 6, ck_one 0)]))])
set_option maxRecDepth 100000 in
theorem pl_h15_e : ck_ok p2_OL none [] [(136, [pl_s188])] 135 [] 94 pl_h15 = true := by decide +kernel
theorem pl_h15_s {X : Int → Int} {LX : Nat} : ck_Ok p2_OL X LX 135 pl_h15 := ck_ok_s ⟨pl_nmu, ck_E1 (ck_S1 pl_s188_s ck_S0) ck_E0⟩ ck_X0 ck_l0 pl_h15_e
set_option maxRecDepth 100000 in
/-- GlacierMailLaw.person -/
def pl_h16 : ck_Sum := ((9, 1, 6), 249, [.inr (.inr (.inl 1)), .inl ((-2147483648), (-1), []), .inl ((-2147483648), 2147483647, []), .inr (.inr (.inl 245))], ([], [], []), ([], []), [(.inr (some (.inl (ck_one 1))), 249, ([], [], []))])
set_option maxRecDepth 100000 in
theorem pl_h16_e : ck_ok p2_OL none [] [(138, [pl_s192])] 137 [] 88 pl_h16 = true := by decide +kernel
theorem pl_h16_s {X : Int → Int} {LX : Nat} : ck_Ok p2_OL X LX 137 pl_h16 := ck_ok_s ⟨pl_nmu, ck_E1 (ck_S1 pl_s192_s ck_S0) ck_E0⟩ ck_X0 ck_l0 pl_h16_e
set_option maxRecDepth 100000 in
/-- GlacierMailLaw.person -/
def pl_h17 : ck_Sum := ((9, 1, 6), 249, [.inr (.inr (.inl 1)), .inl (8, 2147483647, []), .inl ((-2147483648), 2147483647, []), .inr (.inr (.inl 245))], ([], [], []), ([], []), [(.inr (some (.inl (ck_one 1))), 249, ([], [], []))])
set_option maxRecDepth 100000 in
theorem pl_h17_e : ck_ok p2_OL none [] [(138, [pl_s195])] 137 [] 88 pl_h17 = true := by decide +kernel
theorem pl_h17_s {X : Int → Int} {LX : Nat} : ck_Ok p2_OL X LX 137 pl_h17 := ck_ok_s ⟨pl_nmu, ck_E1 (ck_S1 pl_s195_s ck_S0) ck_E0⟩ ck_X0 ck_l0 pl_h17_e
set_option maxRecDepth 100000 in
/-- GlacierMailLaw.person -/
def pl_h18 : ck_Sum := ((9, 2, 12), 249, [.inr (.inr (.inl 1)), .inl (0, 7, []), .inl ((-2147483648), (-1), []), .inr (.inr (.inl 245))], ([], [], []), ([], []), [(.inr (some (.inl (ck_one 1))), 249, ([], [], [])), (.inr (some (.inl (ck_one 2))), 249, ([], [], []))])
set_option maxRecDepth 100000 in
theorem pl_h18_e : ck_ok p2_OL none [] [(138, [pl_s198])] 137 [] 88 pl_h18 = true := by decide +kernel
theorem pl_h18_s {X : Int → Int} {LX : Nat} : ck_Ok p2_OL X LX 137 pl_h18 := ck_ok_s ⟨pl_nmu, ck_E1 (ck_S1 pl_s198_s ck_S0) ck_E0⟩ ck_X0 ck_l0 pl_h18_e
set_option maxRecDepth 100000 in
/-- GlacierMailLaw.person -/
def pl_h19 : ck_Sum := ((9, 2, 12), 249, [.inr (.inr (.inl 1)), .inl (0, 7, []), .inl (10, 2147483647, []), .inr (.inr (.inl 245))], ([], [], []), ([], []), [(.inr (some (.inl (ck_one 1))), 249, ([], [], [])), (.inr (some (.inl (ck_one 2))), 249, ([], [], []))])
set_option maxRecDepth 100000 in
theorem pl_h19_e : ck_ok p2_OL none [] [(138, [pl_s199])] 137 [] 88 pl_h19 = true := by decide +kernel
theorem pl_h19_s {X : Int → Int} {LX : Nat} : ck_Ok p2_OL X LX 137 pl_h19 := ck_ok_s ⟨pl_nmu, ck_E1 (ck_S1 pl_s199_s ck_S0) ck_E0⟩ ck_X0 ck_l0 pl_h19_e
set_option maxRecDepth 100000 in
/-- GlacierMailLaw.person -/
def pl_h20 : ck_Sum := ((9, 2, 12), 249, [.inr (.inr (.inl 1)), .inl (0, 7, []), .inl (0, 9, []), .inr (.inr (.inl 245))], ([], [(3, 8, 246)], [(3, 6, 6, (0, 299, [(10, 0)]))]), (zl279, []), [(.inr (some (.inl (ck_one 1))), 249, ([], [], [])), (.inr (some (.inl (ck_one 0))), 249, ([], [], [])), (.inr (some (.inl (ck_one 2))), 249, ([], [], []))])
set_option maxRecDepth 100000 in
theorem pl_h20_e : ck_ok p2_OL none [] [(138, [pl_s225])] 137 [] 92 pl_h20 = true := by decide +kernel
theorem pl_h20_s {X : Int → Int} {LX : Nat} : ck_Ok p2_OL X LX 137 pl_h20 := ck_ok_s ⟨pl_nmu, ck_E1 (ck_S1 pl_s225_s ck_S0) ck_E0⟩ ck_X0 ck_l0 pl_h20_e
set_option maxRecDepth 100000 in
/-- GlacierMailLaw.letter -/
def pl_h21 : ck_Sum := ((9, 1, 6), 249, [.inr (.inr (.inl 1)), .inl ((-2147483648), (-1), []), .inl ((-2147483648), 2147483647, []), .inr (.inr (.inl 245))], ([], [], []), ([], []), [(.inr (some (.inl (ck_one 1))), 249, ([], [], []))])
set_option maxRecDepth 100000 in
theorem pl_h21_e : ck_ok p2_OL none [] [(142, [pl_s228])] 141 [] 88 pl_h21 = true := by decide +kernel
theorem pl_h21_s {X : Int → Int} {LX : Nat} : ck_Ok p2_OL X LX 141 pl_h21 := ck_ok_s ⟨pl_nmu, ck_E1 (ck_S1 pl_s228_s ck_S0) ck_E0⟩ ck_X0 ck_l0 pl_h21_e
set_option maxRecDepth 100000 in
/-- GlacierMailLaw.letter -/
def pl_h22 : ck_Sum := ((9, 1, 6), 249, [.inr (.inr (.inl 1)), .inl (24, 2147483647, []), .inl ((-2147483648), 2147483647, []), .inr (.inr (.inl 245))], ([], [], []), ([], []), [(.inr (some (.inl (ck_one 1))), 249, ([], [], []))])
set_option maxRecDepth 100000 in
theorem pl_h22_e : ck_ok p2_OL none [] [(142, [pl_s231])] 141 [] 88 pl_h22 = true := by decide +kernel
theorem pl_h22_s {X : Int → Int} {LX : Nat} : ck_Ok p2_OL X LX 141 pl_h22 := ck_ok_s ⟨pl_nmu, ck_E1 (ck_S1 pl_s231_s ck_S0) ck_E0⟩ ck_X0 ck_l0 pl_h22_e
set_option maxRecDepth 100000 in
/-- GlacierMailLaw.letter -/
def pl_h23 : ck_Sum := ((9, 2, 12), 249, [.inr (.inr (.inl 1)), .inl (0, 23, []), .inl ((-2147483648), (-1), []), .inr (.inr (.inl 245))], ([], [], []), ([], []), [(.inr (some (.inl (ck_one 1))), 249, ([], [], [])), (.inr (some (.inl (ck_one 2))), 249, ([], [], []))])
set_option maxRecDepth 100000 in
theorem pl_h23_e : ck_ok p2_OL none [] [(142, [pl_s234])] 141 [] 88 pl_h23 = true := by decide +kernel
theorem pl_h23_s {X : Int → Int} {LX : Nat} : ck_Ok p2_OL X LX 141 pl_h23 := ck_ok_s ⟨pl_nmu, ck_E1 (ck_S1 pl_s234_s ck_S0) ck_E0⟩ ck_X0 ck_l0 pl_h23_e
set_option maxRecDepth 100000 in
/-- GlacierMailLaw.letter -/
def pl_h24 : ck_Sum := ((9, 2, 12), 249, [.inr (.inr (.inl 1)), .inl (0, 23, []), .inl (10, 2147483647, []), .inr (.inr (.inl 245))], ([], [], []), ([], []), [(.inr (some (.inl (ck_one 1))), 249, ([], [], [])), (.inr (some (.inl (ck_one 2))), 249, ([], [], []))])
set_option maxRecDepth 100000 in
theorem pl_h24_e : ck_ok p2_OL none [] [(142, [pl_s235])] 141 [] 88 pl_h24 = true := by decide +kernel
theorem pl_h24_s {X : Int → Int} {LX : Nat} : ck_Ok p2_OL X LX 141 pl_h24 := ck_ok_s ⟨pl_nmu, ck_E1 (ck_S1 pl_s235_s ck_S0) ck_E0⟩ ck_X0 ck_l0 pl_h24_e
set_option maxRecDepth 100000 in
/-- GlacierMailLaw.letter -/
def pl_h25 : ck_Sum := ((9, 1, 6), 249, [.inr (.inr (.inl 1)), .inl (0, 23, []), .inl (0, 9, []), .inr (.inr (.inl 245))], ([], [(3, 8, 246)], []), (zl280, []), [(.inr (some (.inl (ck_one 1))), 249, ([], [], [])), (.inr (some (.inl (ck_one 0))), 249, ([], [], [(245, 0, 0, ((-2147483648), 299, []))]))])
set_option maxRecDepth 100000 in
theorem pl_h25_e : ck_ok p2_OL none [] [(142, [pl_s238])] 141 [] 92 pl_h25 = true := by decide +kernel
theorem pl_h25_s {X : Int → Int} {LX : Nat} : ck_Ok p2_OL X LX 141 pl_h25 := ck_ok_s ⟨pl_nmu, ck_E1 (ck_S1 pl_s238_s ck_S0) ck_E0⟩ ck_X0 ck_l0 pl_h25_e
set_option maxRecDepth 100000 in
/-- GlacierMailLaw.where -/
def pl_h26 : ck_Sum := ((9, 1, 6), 249, [.inr (.inr (.inl 1)), .inl ((-2147483648), (-1), []), .inl ((-2147483648), 2147483647, []), .inr (.inr (.inl 245))], ([], [], []), ([], []), [(.inr (some (.inl (ck_one 1))), 249, ([], [], []))])
set_option maxRecDepth 100000 in
theorem pl_h26_e : ck_ok p2_OL none [] [(147, [pl_s239])] 146 [] 88 pl_h26 = true := by decide +kernel
theorem pl_h26_s {X : Int → Int} {LX : Nat} : ck_Ok p2_OL X LX 146 pl_h26 := ck_ok_s ⟨pl_nmu, ck_E1 (ck_S1 pl_s239_s ck_S0) ck_E0⟩ ck_X0 ck_l0 pl_h26_e
set_option maxRecDepth 100000 in
/-- GlacierMailLaw.where -/
def pl_h27 : ck_Sum := ((9, 1, 6), 249, [.inr (.inr (.inl 1)), .inl (24, 2147483647, []), .inl ((-2147483648), 2147483647, []), .inr (.inr (.inl 245))], ([], [], []), ([], []), [(.inr (some (.inl (ck_one 1))), 249, ([], [], []))])
set_option maxRecDepth 100000 in
theorem pl_h27_e : ck_ok p2_OL none [] [(147, [pl_s240])] 146 [] 88 pl_h27 = true := by decide +kernel
theorem pl_h27_s {X : Int → Int} {LX : Nat} : ck_Ok p2_OL X LX 146 pl_h27 := ck_ok_s ⟨pl_nmu, ck_E1 (ck_S1 pl_s240_s ck_S0) ck_E0⟩ ck_X0 ck_l0 pl_h27_e
set_option maxRecDepth 100000 in
/-- GlacierMailLaw.where -/
def pl_h28 : ck_Sum := ((9, 2, 12), 249, [.inr (.inr (.inl 1)), .inl (0, 23, []), .inl ((-2147483648), (-1), []), .inr (.inr (.inl 245))], ([], [], []), ([], []), [(.inr (some (.inl (ck_one 1))), 249, ([], [], [])), (.inr (some (.inl (ck_one 2))), 249, ([], [], []))])
set_option maxRecDepth 100000 in
theorem pl_h28_e : ck_ok p2_OL none [] [(147, [pl_s241])] 146 [] 88 pl_h28 = true := by decide +kernel
theorem pl_h28_s {X : Int → Int} {LX : Nat} : ck_Ok p2_OL X LX 146 pl_h28 := ck_ok_s ⟨pl_nmu, ck_E1 (ck_S1 pl_s241_s ck_S0) ck_E0⟩ ck_X0 ck_l0 pl_h28_e
set_option maxRecDepth 100000 in
/-- GlacierMailLaw.where -/
def pl_h29 : ck_Sum := ((9, 2, 12), 249, [.inr (.inr (.inl 1)), .inl (0, 23, []), .inl (300, 2147483647, []), .inr (.inr (.inl 245))], ([], [], []), ([], []), [(.inr (some (.inl (ck_one 1))), 249, ([], [], [])), (.inr (some (.inl (ck_one 2))), 249, ([], [], []))])
set_option maxRecDepth 100000 in
theorem pl_h29_e : ck_ok p2_OL none [] [(147, [pl_s242])] 146 [] 88 pl_h29 = true := by decide +kernel
theorem pl_h29_s {X : Int → Int} {LX : Nat} : ck_Ok p2_OL X LX 146 pl_h29 := ck_ok_s ⟨pl_nmu, ck_E1 (ck_S1 pl_s242_s ck_S0) ck_E0⟩ ck_X0 ck_l0 pl_h29_e
set_option maxRecDepth 100000 in
/-- GlacierMailLaw.where -/
def pl_h30 : ck_Sum := ((9, 1, 6), 249, [.inr (.inr (.inl 1)), .inl (0, 23, []), .inl (0, 299, []), .inr (.inr (.inl 245))], ([], [(3, 8, 246)], []), (zl280, []), [(.inr (some (.inl (ck_one 1))), 249, ([], [], [])), (.inr (some (.inl (ck_one 0))), 249, ([], [], [(245, 0, 0, ((-2147483648), 99, []))]))])
set_option maxRecDepth 100000 in
theorem pl_h30_e : ck_ok p2_OL none [] [(147, [pl_s244])] 146 [] 92 pl_h30 = true := by decide +kernel
theorem pl_h30_s {X : Int → Int} {LX : Nat} : ck_Ok p2_OL X LX 146 pl_h30 := ck_ok_s ⟨pl_nmu, ck_E1 (ck_S1 pl_s244_s ck_S0) ck_E0⟩ ck_X0 ck_l0 pl_h30_e
set_option maxRecDepth 100000 in
/-- GlacierMailLaw.deep -/
def pl_h31 : ck_Sum := ((9, 1, 6), 249, [.inr (.inr (.inl 1)), .inl ((-2147483648), (-1), []), .inl ((-2147483648), 2147483647, []), .inr (.inr (.inl 245))], ([], [], []), ([], []), [(.inr (some (.inl (ck_one 1))), 249, ([], [], []))])
set_option maxRecDepth 100000 in
theorem pl_h31_e : ck_ok p2_OL none [] [(150, [pl_s245])] 149 [] 88 pl_h31 = true := by decide +kernel
theorem pl_h31_s {X : Int → Int} {LX : Nat} : ck_Ok p2_OL X LX 149 pl_h31 := ck_ok_s ⟨pl_nmu, ck_E1 (ck_S1 pl_s245_s ck_S0) ck_E0⟩ ck_X0 ck_l0 pl_h31_e
set_option maxRecDepth 100000 in
/-- GlacierMailLaw.deep -/
def pl_h32 : ck_Sum := ((9, 1, 6), 249, [.inr (.inr (.inl 1)), .inl (24, 2147483647, []), .inl ((-2147483648), 2147483647, []), .inr (.inr (.inl 245))], ([], [], []), ([], []), [(.inr (some (.inl (ck_one 1))), 249, ([], [], []))])
set_option maxRecDepth 100000 in
theorem pl_h32_e : ck_ok p2_OL none [] [(150, [pl_s246])] 149 [] 88 pl_h32 = true := by decide +kernel
theorem pl_h32_s {X : Int → Int} {LX : Nat} : ck_Ok p2_OL X LX 149 pl_h32 := ck_ok_s ⟨pl_nmu, ck_E1 (ck_S1 pl_s246_s ck_S0) ck_E0⟩ ck_X0 ck_l0 pl_h32_e
set_option maxRecDepth 100000 in
/-- GlacierMailLaw.deep -/
def pl_h33 : ck_Sum := ((9, 2, 12), 249, [.inr (.inr (.inl 1)), .inl (0, 23, []), .inl ((-2147483648), (-1), []), .inr (.inr (.inl 245))], ([], [], []), ([], []), [(.inr (some (.inl (ck_one 1))), 249, ([], [], [])), (.inr (some (.inl (ck_one 2))), 249, ([], [], []))])
set_option maxRecDepth 100000 in
theorem pl_h33_e : ck_ok p2_OL none [] [(150, [pl_s247])] 149 [] 88 pl_h33 = true := by decide +kernel
theorem pl_h33_s {X : Int → Int} {LX : Nat} : ck_Ok p2_OL X LX 149 pl_h33 := ck_ok_s ⟨pl_nmu, ck_E1 (ck_S1 pl_s247_s ck_S0) ck_E0⟩ ck_X0 ck_l0 pl_h33_e
set_option maxRecDepth 100000 in
/-- GlacierMailLaw.deep -/
def pl_h34 : ck_Sum := ((9, 2, 12), 249, [.inr (.inr (.inl 1)), .inl (0, 23, []), .inl (300, 2147483647, []), .inr (.inr (.inl 245))], ([], [], []), ([], []), [(.inr (some (.inl (ck_one 1))), 249, ([], [], [])), (.inr (some (.inl (ck_one 2))), 249, ([], [], []))])
set_option maxRecDepth 100000 in
theorem pl_h34_e : ck_ok p2_OL none [] [(150, [pl_s248])] 149 [] 88 pl_h34 = true := by decide +kernel
theorem pl_h34_s {X : Int → Int} {LX : Nat} : ck_Ok p2_OL X LX 149 pl_h34 := ck_ok_s ⟨pl_nmu, ck_E1 (ck_S1 pl_s248_s ck_S0) ck_E0⟩ ck_X0 ck_l0 pl_h34_e
set_option maxRecDepth 100000 in
/-- GlacierMailLaw.deep -/
def pl_h35 : ck_Sum := ((9, 1, 6), 249, [.inr (.inr (.inl 1)), .inl (0, 23, []), .inl (0, 299, []), .inr (.inr (.inl 245))], ([], [(3, 8, 246)], []), (zl280, []), [(.inr (some (.inl (ck_one 1))), 249, ([], [], [])), (.inr (some (.inl (ck_one 0))), 249, ([], [], [(245, 0, 0, ((-1), 99, []))]))])
set_option maxRecDepth 100000 in
theorem pl_h35_e : ck_ok p2_OL none [] [(150, [pl_s249])] 149 [] 92 pl_h35 = true := by decide +kernel
theorem pl_h35_s {X : Int → Int} {LX : Nat} : ck_Ok p2_OL X LX 149 pl_h35 := ck_ok_s ⟨pl_nmu, ck_E1 (ck_S1 pl_s249_s ck_S0) ck_E0⟩ ck_X0 ck_l0 pl_h35_e
set_option maxRecDepth 100000 in
/-- GlacierMailLaw.post -/
def pl_h36 : ck_Sum := ((9, 1, 6), 249, [.inr (.inr (.inl 1)), .inl ((-2147483648), (-1), []), .inl ((-2147483648), 2147483647, []), .inr (.inr (.inl 245))], ([], [], []), ([], []), [(.inr (some (.inl (ck_one 1))), 249, ([], [], []))])
set_option maxRecDepth 100000 in
theorem pl_h36_e : ck_ok p2_OL none [] [(152, [pl_s250])] 151 [] 88 pl_h36 = true := by decide +kernel
theorem pl_h36_s {X : Int → Int} {LX : Nat} : ck_Ok p2_OL X LX 151 pl_h36 := ck_ok_s ⟨pl_nmu, ck_E1 (ck_S1 pl_s250_s ck_S0) ck_E0⟩ ck_X0 ck_l0 pl_h36_e
set_option maxRecDepth 100000 in
/-- GlacierMailLaw.post -/
def pl_h37 : ck_Sum := ((9, 1, 6), 249, [.inr (.inr (.inl 1)), .inl (8, 2147483647, []), .inl ((-2147483648), 2147483647, []), .inr (.inr (.inl 245))], ([], [], []), ([], []), [(.inr (some (.inl (ck_one 1))), 249, ([], [], []))])
set_option maxRecDepth 100000 in
theorem pl_h37_e : ck_ok p2_OL none [] [(152, [pl_s251])] 151 [] 88 pl_h37 = true := by decide +kernel
theorem pl_h37_s {X : Int → Int} {LX : Nat} : ck_Ok p2_OL X LX 151 pl_h37 := ck_ok_s ⟨pl_nmu, ck_E1 (ck_S1 pl_s251_s ck_S0) ck_E0⟩ ck_X0 ck_l0 pl_h37_e
set_option maxRecDepth 100000 in
/-- GlacierMailLaw.post -/
def pl_h38 : ck_Sum := ((9, 2, 12), 249, [.inr (.inr (.inl 1)), .inl (0, 7, []), .inl ((-2147483648), (-1), []), .inr (.inr (.inl 245))], ([], [], []), ([], []), [(.inr (some (.inl (ck_one 1))), 249, ([], [], []))])
set_option maxRecDepth 100000 in
theorem pl_h38_e : ck_ok p2_OL none [] [(152, [pl_s252])] 151 [] 88 pl_h38 = true := by decide +kernel
theorem pl_h38_s {X : Int → Int} {LX : Nat} : ck_Ok p2_OL X LX 151 pl_h38 := ck_ok_s ⟨pl_nmu, ck_E1 (ck_S1 pl_s252_s ck_S0) ck_E0⟩ ck_X0 ck_l0 pl_h38_e
set_option maxRecDepth 100000 in
/-- GlacierMailLaw.post -/
def pl_h39 : ck_Sum := ((9, 2, 12), 249, [.inr (.inr (.inl 1)), .inl (0, 7, []), .inl (8, 2147483647, []), .inr (.inr (.inl 245))], ([], [], []), ([], []), [(.inr (some (.inl (ck_one 1))), 249, ([], [], []))])
set_option maxRecDepth 100000 in
theorem pl_h39_e : ck_ok p2_OL none [] [(152, [pl_s253])] 151 [] 88 pl_h39 = true := by decide +kernel
theorem pl_h39_s {X : Int → Int} {LX : Nat} : ck_Ok p2_OL X LX 151 pl_h39 := ck_ok_s ⟨pl_nmu, ck_E1 (ck_S1 pl_s253_s ck_S0) ck_E0⟩ ck_X0 ck_l0 pl_h39_e
set_option maxRecDepth 100000 in
/-- GlacierMailLaw.post -/
def pl_h40 : ck_Sum := ((9, 4, 24), 249, [.inr (.inr (.inl 1)), .inl (0, 7, []), .inl (0, 7, []), .inr (.inr (.inl 245))], ([], zl230, [(3, 6, 6, (0, 299, [(10, 0)]))]), (zl256, zl104), [(.inr (some (.inl (ck_one 1))), 249, ([], zl105, [])), (.inr (some (.inl (ck_one 3))), 249, ([], zl105, [(10, 3, 3, ck_one 24)])), (.inr (some (.inl (ck_one 0))), 249, ([], zl231, zl257)), (.inr (some (.inl (ck_one 0))), 249, ([], zl232, zl258)), (.inr (some (.inl (ck_one 0))), 249, ([], zl233, zl259)), (.inr (some (.inl (ck_one 0))), 249, ([], zl234, zl260)), (.inr (some (.inl (ck_one 0))), 249, ([], zl235, zl261)), (.inr (some (.inl (ck_one 0))), 249, ([], zl236, zl262)), (.inr (some (.inl (ck_one 0))), 249, ([], zl237, zl263)), (.inr (some (.inl (ck_one 0))), 249, ([], zl238, zl264)), (.inr (some (.inl (ck_one 0))), 249, ([], zl239, zl265)), (.inr (some (.inl (ck_one 0))), 249, ([], zl240, zl266)), (.inr (some (.inl (ck_one 0))), 249, ([], zl241, zl267)), (.inr (some (.inl (ck_one 0))), 249, ([], zl242, zl268)), (.inr (some (.inl (ck_one 0))), 249, ([], zl105, zl269)), (.inr (some (.inl (ck_one 2))), 249, ([], zl105, []))])
set_option maxRecDepth 100000 in
theorem pl_h40_e : ck_ok p2_OL none [] [(152, [pl_s358])] 151 [] 92 pl_h40 = true := by decide +kernel
theorem pl_h40_s {X : Int → Int} {LX : Nat} : ck_Ok p2_OL X LX 151 pl_h40 := ck_ok_s ⟨pl_nmu, ck_E1 (ck_S1 pl_s358_s ck_S0) ck_E0⟩ ck_X0 ck_l0 pl_h40_e
set_option maxRecDepth 100000 in
/-- GlacierMailLaw.watch -/
def pl_h41 : ck_Sum := ((9, 1, 6), 249, [.inr (.inr (.inl 1)), .inl ((-2147483648), (-1), []), .inl ((-2147483648), 2147483647, []), .inr (.inr (.inl 245))], ([], [], []), ([], []), [(.inr (some (.inl (ck_one 1))), 249, ([], [], []))])
set_option maxRecDepth 100000 in
theorem pl_h41_e : ck_ok p2_OL none [] [(156, [pl_s359])] 155 [] 88 pl_h41 = true := by decide +kernel
theorem pl_h41_s {X : Int → Int} {LX : Nat} : ck_Ok p2_OL X LX 155 pl_h41 := ck_ok_s ⟨pl_nmu, ck_E1 (ck_S1 pl_s359_s ck_S0) ck_E0⟩ ck_X0 ck_l0 pl_h41_e
set_option maxRecDepth 100000 in
/-- GlacierMailLaw.watch -/
def pl_h42 : ck_Sum := ((9, 1, 6), 249, [.inr (.inr (.inl 1)), .inl (8, 2147483647, []), .inl ((-2147483648), 2147483647, []), .inr (.inr (.inl 245))], ([], [], []), ([], []), [(.inr (some (.inl (ck_one 1))), 249, ([], [], []))])
set_option maxRecDepth 100000 in
theorem pl_h42_e : ck_ok p2_OL none [] [(156, [pl_s360])] 155 [] 88 pl_h42 = true := by decide +kernel
theorem pl_h42_s {X : Int → Int} {LX : Nat} : ck_Ok p2_OL X LX 155 pl_h42 := ck_ok_s ⟨pl_nmu, ck_E1 (ck_S1 pl_s360_s ck_S0) ck_E0⟩ ck_X0 ck_l0 pl_h42_e
set_option maxRecDepth 100000 in
/-- GlacierMailLaw.watch -/
def pl_h43 : ck_Sum := ((9, 2, 12), 249, [.inr (.inr (.inl 1)), .inl (0, 7, []), .inl ((-2147483648), (-1), []), .inr (.inr (.inl 245))], ([], zl230, [(3, 6, 6, (0, 299, [(10, 0)]))]), (zl270, zl104), zl281)
set_option maxRecDepth 100000 in
theorem pl_h43_e : ck_ok p2_OL none [] [(156, [pl_s364])] 155 [] 92 pl_h43 = true := by decide +kernel
theorem pl_h43_s {X : Int → Int} {LX : Nat} : ck_Ok p2_OL X LX 155 pl_h43 := ck_ok_s ⟨pl_nmu, ck_E1 (ck_S1 pl_s364_s ck_S0) ck_E0⟩ ck_X0 ck_l0 pl_h43_e
set_option maxRecDepth 100000 in
/-- GlacierMailLaw.watch -/
def pl_h44 : ck_Sum := ((9, 2, 12), 249, [.inr (.inr (.inl 1)), .inl (0, 7, []), .inl (6, 2147483647, []), .inr (.inr (.inl 245))], ([], [], []), ([], []), [(.inr (some (.inl (ck_one 1))), 249, ([], [], []))])
set_option maxRecDepth 100000 in
theorem pl_h44_e : ck_ok p2_OL none [] [(156, [pl_s365])] 155 [] 88 pl_h44 = true := by decide +kernel
theorem pl_h44_s {X : Int → Int} {LX : Nat} : ck_Ok p2_OL X LX 155 pl_h44 := ck_ok_s ⟨pl_nmu, ck_E1 (ck_S1 pl_s365_s ck_S0) ck_E0⟩ ck_X0 ck_l0 pl_h44_e
set_option maxRecDepth 100000 in
/-- GlacierMailLaw.watch -/
def pl_h45 : ck_Sum := ((9, 2, 12), 249, [.inr (.inr (.inl 1)), .inl (0, 7, []), .inl (0, 5, []), .inr (.inr (.inl 245))], ([], zl230, [(3, 6, 6, (0, 299, [(10, 0)]))]), (zl270, zl104), zl281)
set_option maxRecDepth 100000 in
theorem pl_h45_e : ck_ok p2_OL none [] [(156, [pl_s367])] 155 [] 92 pl_h45 = true := by decide +kernel
theorem pl_h45_s {X : Int → Int} {LX : Nat} : ck_Ok p2_OL X LX 155 pl_h45 := ck_ok_s ⟨pl_nmu, ck_E1 (ck_S1 pl_s367_s ck_S0) ck_E0⟩ ck_X0 ck_l0 pl_h45_e
set_option maxRecDepth 100000 in
/-- GlacierMailLaw.open -/
def pl_h46 : ck_Sum := ((9, 1, 6), 249, [.inr (.inr (.inl 1)), .inl ((-2147483648), (-1), []), .inr (.inr (.inl 245))], ([], [], []), ([], []), [(.inr (some (.inl (ck_one 1))), 249, ([], [], []))])
set_option maxRecDepth 100000 in
theorem pl_h46_e : ck_ok p2_OL none [] [(158, [pl_s368])] 157 [] 86 pl_h46 = true := by decide +kernel
theorem pl_h46_s {X : Int → Int} {LX : Nat} : ck_Ok p2_OL X LX 157 pl_h46 := ck_ok_s ⟨pl_nmu, ck_E1 (ck_S1 pl_s368_s ck_S0) ck_E0⟩ ck_X0 ck_l0 pl_h46_e
set_option maxRecDepth 100000 in
/-- GlacierMailLaw.open -/
def pl_h47 : ck_Sum := ((9, 1, 6), 249, [.inr (.inr (.inl 1)), .inl (24, 2147483647, []), .inr (.inr (.inl 245))], ([], [], []), ([], []), [(.inr (some (.inl (ck_one 1))), 249, ([], [], []))])
set_option maxRecDepth 100000 in
theorem pl_h47_e : ck_ok p2_OL none [] [(158, [pl_s369])] 157 [] 86 pl_h47 = true := by decide +kernel
theorem pl_h47_s {X : Int → Int} {LX : Nat} : ck_Ok p2_OL X LX 157 pl_h47 := ck_ok_s ⟨pl_nmu, ck_E1 (ck_S1 pl_s369_s ck_S0) ck_E0⟩ ck_X0 ck_l0 pl_h47_e
set_option maxRecDepth 100000 in
/-- GlacierMailLaw.open -/
def pl_h48 : ck_Sum := ((9, 2, 12), 249, [.inr (.inr (.inl 1)), .inl (ck_one 0), .inr (.inr (.inl 245))], ([], zl230, [(3, 6, 6, (0, 299, [(10, 0)]))]), ([(1, 15, 15), (11, 5, 6), (14, 3, 3), (15, 0, 71), (42, 1, 2), (44, 0, 7), (45, 3, 3), (46, 0, 55), (47, 3, 3), (48, 0, 23), (49, 3, 3), (50, 0, 23), (51, 3, 3), (52, 0, 167), (53, 3, 3), (54, 0, 35), (55, 3, 3), (56, 0, 71), (57, 0, 7), (58, 3, 3), (59, 0, 55), (60, 3, 3), (61, 0, 23), (62, 3, 3), (63, 0, 23), (64, 3, 3), (65, 0, 167), (66, 3, 3), (67, 0, 35), (68, 3, 3), (69, 0, 71), (70, 0, 7), (71, 3, 3), (72, 0, 55), (73, 3, 3), (74, 0, 23), (75, 3, 3), (76, 0, 23), (77, 3, 3), (78, 0, 167), (79, 3, 3), (80, 0, 35), (81, 3, 3), (82, 0, 71), (83, 0, 7), (84, 3, 3), (85, 0, 55), (86, 3, 3), (87, 0, 23), (88, 3, 3), (89, 0, 23), (90, 3, 3), (91, 0, 167), (92, 3, 3), (93, 0, 35), (94, 3, 3), (95, 0, 71), (96, 0, 7), (97, 3, 3), (98, 0, 55), (99, 3, 3), (100, 0, 23), (101, 3, 3), (102, 0, 23), (103, 3, 3), (104, 0, 167), (105, 3, 3), (106, 0, 35), (107, 3, 3), (108, 0, 71), (109, 0, 7), (110, 3, 3), (111, 0, 55), (112, 3, 3), (113, 0, 23), (114, 3, 3), (115, 0, 23), (116, 3, 3), (117, 0, 167), (118, 3, 3), (119, 0, 35), (120, 3, 3), (121, 0, 71), (122, 0, 7), (123, 3, 3), (124, 0, 55), (125, 3, 3), (126, 0, 23), (127, 3, 3), (128, 0, 23), (129, 3, 3), (130, 0, 167), (131, 3, 3), (132, 0, 35), (133, 3, 3), (134, 0, 71), (135, 0, 7), (136, 3, 3), (137, 0, 55), (138, 3, 3), (139, 0, 23), (140, 3, 3), (141, 0, 23), (142, 3, 3), (143, 0, 167), (144, 3, 3), (145, 0, 35), (146, 3, 3), (147, 0, 71), (148, 0, 7), (149, 3, 3), (150, 0, 55), (151, 3, 3), (152, 0, 23), (153, 3, 3), (154, 0, 23), (155, 3, 3), (156, 0, 167), (157, 3, 3), (158, 0, 35), (159, 3, 3), (160, 0, 71), (161, 0, 7), (162, 3, 3), (163, 0, 55), (164, 3, 3), (165, 0, 23), (166, 3, 3), (167, 0, 23), (168, 3, 3), (169, 0, 167), (170, 3, 3), (171, 0, 35), (172, 3, 3), (173, 0, 71), (174, 0, 7), (175, 3, 3), (176, 0, 55), (177, 3, 3), (178, 0, 23), (179, 3, 3), (180, 0, 23), (181, 3, 3), (182, 0, 167), (183, 3, 3), (184, 0, 35), (185, 3, 3), (186, 0, 71), (187, 0, 7), (188, 3, 3), (189, 0, 55), (190, 3, 3), (191, 0, 23), (192, 3, 3), (193, 0, 23), (194, 3, 3), (195, 0, 167), (196, 3, 3), (197, 0, 35), (198, 3, 3), (199, 0, 71), (200, 6, 6), (204, 0, 9), (205, 0, 14849), (206, 2, 8), (220, 3, 3), (221, 0, 47), (245, 0, 0)], zl104), zl282)
set_option maxRecDepth 100000 in
theorem pl_h48_e : ck_ok p2_OL none [] [(158, [pl_s384])] 157 [] 90 pl_h48 = true := by decide +kernel
theorem pl_h48_s {X : Int → Int} {LX : Nat} : ck_Ok p2_OL X LX 157 pl_h48 := ck_ok_s ⟨pl_nmu, ck_E1 (ck_S1 pl_s384_s ck_S0) ck_E0⟩ ck_X0 ck_l0 pl_h48_e
set_option maxRecDepth 100000 in
/-- GlacierMailLaw.open -/
def pl_h49 : ck_Sum := ((9, 2, 12), 249, [.inr (.inr (.inl 1)), .inl (ck_one 1), .inr (.inr (.inl 245))], ([], zl230, [(3, 6, 6, (0, 299, [(10, 0)]))]), ([(1, 15, 15), (11, 12, 13), (14, 3, 3), (15, 0, 71), (42, 1, 2), (44, 0, 7), (45, 3, 3), (46, 0, 55), (47, 3, 3), (48, 0, 23), (49, 3, 3), (50, 0, 23), (51, 3, 3), (52, 0, 167), (53, 3, 3), (54, 0, 35), (55, 3, 3), (56, 0, 71), (57, 0, 7), (58, 3, 3), (59, 0, 55), (60, 3, 3), (61, 0, 23), (62, 3, 3), (63, 0, 23), (64, 3, 3), (65, 0, 167), (66, 3, 3), (67, 0, 35), (68, 3, 3), (69, 0, 71), (70, 0, 7), (71, 3, 3), (72, 0, 55), (73, 3, 3), (74, 0, 23), (75, 3, 3), (76, 0, 23), (77, 3, 3), (78, 0, 167), (79, 3, 3), (80, 0, 35), (81, 3, 3), (82, 0, 71), (83, 0, 7), (84, 3, 3), (85, 0, 55), (86, 3, 3), (87, 0, 23), (88, 3, 3), (89, 0, 23), (90, 3, 3), (91, 0, 167), (92, 3, 3), (93, 0, 35), (94, 3, 3), (95, 0, 71), (96, 0, 7), (97, 3, 3), (98, 0, 55), (99, 3, 3), (100, 0, 23), (101, 3, 3), (102, 0, 23), (103, 3, 3), (104, 0, 167), (105, 3, 3), (106, 0, 35), (107, 3, 3), (108, 0, 71), (109, 0, 7), (110, 3, 3), (111, 0, 55), (112, 3, 3), (113, 0, 23), (114, 3, 3), (115, 0, 23), (116, 3, 3), (117, 0, 167), (118, 3, 3), (119, 0, 35), (120, 3, 3), (121, 0, 71), (122, 0, 7), (123, 3, 3), (124, 0, 55), (125, 3, 3), (126, 0, 23), (127, 3, 3), (128, 0, 23), (129, 3, 3), (130, 0, 167), (131, 3, 3), (132, 0, 35), (133, 3, 3), (134, 0, 71), (135, 0, 7), (136, 3, 3), (137, 0, 55), (138, 3, 3), (139, 0, 23), (140, 3, 3), (141, 0, 23), (142, 3, 3), (143, 0, 167), (144, 3, 3), (145, 0, 35), (146, 3, 3), (147, 0, 71), (148, 0, 7), (149, 3, 3), (150, 0, 55), (151, 3, 3), (152, 0, 23), (153, 3, 3), (154, 0, 23), (155, 3, 3), (156, 0, 167), (157, 3, 3), (158, 0, 35), (159, 3, 3), (160, 0, 71), (161, 0, 7), (162, 3, 3), (163, 0, 55), (164, 3, 3), (165, 0, 23), (166, 3, 3), (167, 0, 23), (168, 3, 3), (169, 0, 167), (170, 3, 3), (171, 0, 35), (172, 3, 3), (173, 0, 71), (174, 0, 7), (175, 3, 3), (176, 0, 55), (177, 3, 3), (178, 0, 23), (179, 3, 3), (180, 0, 23), (181, 3, 3), (182, 0, 167), (183, 3, 3), (184, 0, 35), (185, 3, 3), (186, 0, 71), (187, 0, 7), (188, 3, 3), (189, 0, 55), (190, 3, 3), (191, 0, 23), (192, 3, 3), (193, 0, 23), (194, 3, 3), (195, 0, 167), (196, 3, 3), (197, 0, 35), (198, 3, 3), (199, 0, 71), (200, 6, 6), (204, 0, 9), (205, 0, 14849), (206, 2, 8), (220, 3, 3), (221, 0, 47), (245, 0, 0)], zl104), zl282)
set_option maxRecDepth 100000 in
theorem pl_h49_e : ck_ok p2_OL none [] [(158, [pl_s394])] 157 [] 90 pl_h49 = true := by decide +kernel
theorem pl_h49_s {X : Int → Int} {LX : Nat} : ck_Ok p2_OL X LX 157 pl_h49 := ck_ok_s ⟨pl_nmu, ck_E1 (ck_S1 pl_s394_s ck_S0) ck_E0⟩ ck_X0 ck_l0 pl_h49_e
set_option maxRecDepth 100000 in
/-- GlacierMailLaw.open -/
def pl_h50 : ck_Sum := ((9, 2, 12), 249, [.inr (.inr (.inl 1)), .inl (ck_one 2), .inr (.inr (.inl 245))], ([], zl230, [(3, 6, 6, (0, 299, [(10, 0)]))]), ([(1, 15, 15), (11, 19, 20), (14, 3, 3), (15, 0, 71), (42, 1, 2), (44, 0, 7), (45, 3, 3), (46, 0, 55), (47, 3, 3), (48, 0, 23), (49, 3, 3), (50, 0, 23), (51, 3, 3), (52, 0, 167), (53, 3, 3), (54, 0, 35), (55, 3, 3), (56, 0, 71), (57, 0, 7), (58, 3, 3), (59, 0, 55), (60, 3, 3), (61, 0, 23), (62, 3, 3), (63, 0, 23), (64, 3, 3), (65, 0, 167), (66, 3, 3), (67, 0, 35), (68, 3, 3), (69, 0, 71), (70, 0, 7), (71, 3, 3), (72, 0, 55), (73, 3, 3), (74, 0, 23), (75, 3, 3), (76, 0, 23), (77, 3, 3), (78, 0, 167), (79, 3, 3), (80, 0, 35), (81, 3, 3), (82, 0, 71), (83, 0, 7), (84, 3, 3), (85, 0, 55), (86, 3, 3), (87, 0, 23), (88, 3, 3), (89, 0, 23), (90, 3, 3), (91, 0, 167), (92, 3, 3), (93, 0, 35), (94, 3, 3), (95, 0, 71), (96, 0, 7), (97, 3, 3), (98, 0, 55), (99, 3, 3), (100, 0, 23), (101, 3, 3), (102, 0, 23), (103, 3, 3), (104, 0, 167), (105, 3, 3), (106, 0, 35), (107, 3, 3), (108, 0, 71), (109, 0, 7), (110, 3, 3), (111, 0, 55), (112, 3, 3), (113, 0, 23), (114, 3, 3), (115, 0, 23), (116, 3, 3), (117, 0, 167), (118, 3, 3), (119, 0, 35), (120, 3, 3), (121, 0, 71), (122, 0, 7), (123, 3, 3), (124, 0, 55), (125, 3, 3), (126, 0, 23), (127, 3, 3), (128, 0, 23), (129, 3, 3), (130, 0, 167), (131, 3, 3), (132, 0, 35), (133, 3, 3), (134, 0, 71), (135, 0, 7), (136, 3, 3), (137, 0, 55), (138, 3, 3), (139, 0, 23), (140, 3, 3), (141, 0, 23), (142, 3, 3), (143, 0, 167), (144, 3, 3), (145, 0, 35), (146, 3, 3), (147, 0, 71), (148, 0, 7), (149, 3, 3), (150, 0, 55), (151, 3, 3), (152, 0, 23), (153, 3, 3), (154, 0, 23), (155, 3, 3), (156, 0, 167), (157, 3, 3), (158, 0, 35), (159, 3, 3), (160, 0, 71), (161, 0, 7), (162, 3, 3), (163, 0, 55), (164, 3, 3), (165, 0, 23), (166, 3, 3), (167, 0, 23), (168, 3, 3), (169, 0, 167), (170, 3, 3), (171, 0, 35), (172, 3, 3), (173, 0, 71), (174, 0, 7), (175, 3, 3), (176, 0, 55), (177, 3, 3), (178, 0, 23), (179, 3, 3), (180, 0, 23), (181, 3, 3), (182, 0, 167), (183, 3, 3), (184, 0, 35), (185, 3, 3), (186, 0, 71), (187, 0, 7), (188, 3, 3), (189, 0, 55), (190, 3, 3), (191, 0, 23), (192, 3, 3), (193, 0, 23), (194, 3, 3), (195, 0, 167), (196, 3, 3), (197, 0, 35), (198, 3, 3), (199, 0, 71), (200, 6, 6), (204, 0, 9), (205, 0, 14849), (206, 2, 8), (220, 3, 3), (221, 0, 47), (245, 0, 0)], zl104), zl282)
set_option maxRecDepth 100000 in
theorem pl_h50_e : ck_ok p2_OL none [] [(158, [pl_s404])] 157 [] 90 pl_h50 = true := by decide +kernel
theorem pl_h50_s {X : Int → Int} {LX : Nat} : ck_Ok p2_OL X LX 157 pl_h50 := ck_ok_s ⟨pl_nmu, ck_E1 (ck_S1 pl_s404_s ck_S0) ck_E0⟩ ck_X0 ck_l0 pl_h50_e
set_option maxRecDepth 100000 in
/-- GlacierMailLaw.open -/
def pl_h51 : ck_Sum := ((9, 2, 12), 249, [.inr (.inr (.inl 1)), .inl (ck_one 3), .inr (.inr (.inl 245))], ([], zl230, [(3, 6, 6, (0, 299, [(10, 0)]))]), ([(1, 15, 15), (11, 26, 27), (14, 3, 3), (15, 0, 71), (42, 1, 2), (44, 0, 7), (45, 3, 3), (46, 0, 55), (47, 3, 3), (48, 0, 23), (49, 3, 3), (50, 0, 23), (51, 3, 3), (52, 0, 167), (53, 3, 3), (54, 0, 35), (55, 3, 3), (56, 0, 71), (57, 0, 7), (58, 3, 3), (59, 0, 55), (60, 3, 3), (61, 0, 23), (62, 3, 3), (63, 0, 23), (64, 3, 3), (65, 0, 167), (66, 3, 3), (67, 0, 35), (68, 3, 3), (69, 0, 71), (70, 0, 7), (71, 3, 3), (72, 0, 55), (73, 3, 3), (74, 0, 23), (75, 3, 3), (76, 0, 23), (77, 3, 3), (78, 0, 167), (79, 3, 3), (80, 0, 35), (81, 3, 3), (82, 0, 71), (83, 0, 7), (84, 3, 3), (85, 0, 55), (86, 3, 3), (87, 0, 23), (88, 3, 3), (89, 0, 23), (90, 3, 3), (91, 0, 167), (92, 3, 3), (93, 0, 35), (94, 3, 3), (95, 0, 71), (96, 0, 7), (97, 3, 3), (98, 0, 55), (99, 3, 3), (100, 0, 23), (101, 3, 3), (102, 0, 23), (103, 3, 3), (104, 0, 167), (105, 3, 3), (106, 0, 35), (107, 3, 3), (108, 0, 71), (109, 0, 7), (110, 3, 3), (111, 0, 55), (112, 3, 3), (113, 0, 23), (114, 3, 3), (115, 0, 23), (116, 3, 3), (117, 0, 167), (118, 3, 3), (119, 0, 35), (120, 3, 3), (121, 0, 71), (122, 0, 7), (123, 3, 3), (124, 0, 55), (125, 3, 3), (126, 0, 23), (127, 3, 3), (128, 0, 23), (129, 3, 3), (130, 0, 167), (131, 3, 3), (132, 0, 35), (133, 3, 3), (134, 0, 71), (135, 0, 7), (136, 3, 3), (137, 0, 55), (138, 3, 3), (139, 0, 23), (140, 3, 3), (141, 0, 23), (142, 3, 3), (143, 0, 167), (144, 3, 3), (145, 0, 35), (146, 3, 3), (147, 0, 71), (148, 0, 7), (149, 3, 3), (150, 0, 55), (151, 3, 3), (152, 0, 23), (153, 3, 3), (154, 0, 23), (155, 3, 3), (156, 0, 167), (157, 3, 3), (158, 0, 35), (159, 3, 3), (160, 0, 71), (161, 0, 7), (162, 3, 3), (163, 0, 55), (164, 3, 3), (165, 0, 23), (166, 3, 3), (167, 0, 23), (168, 3, 3), (169, 0, 167), (170, 3, 3), (171, 0, 35), (172, 3, 3), (173, 0, 71), (174, 0, 7), (175, 3, 3), (176, 0, 55), (177, 3, 3), (178, 0, 23), (179, 3, 3), (180, 0, 23), (181, 3, 3), (182, 0, 167), (183, 3, 3), (184, 0, 35), (185, 3, 3), (186, 0, 71), (187, 0, 7), (188, 3, 3), (189, 0, 55), (190, 3, 3), (191, 0, 23), (192, 3, 3), (193, 0, 23), (194, 3, 3), (195, 0, 167), (196, 3, 3), (197, 0, 35), (198, 3, 3), (199, 0, 71), (200, 6, 6), (204, 0, 9), (205, 0, 14849), (206, 2, 8), (220, 3, 3), (221, 0, 47), (245, 0, 0)], zl104), zl282)
set_option maxRecDepth 100000 in
theorem pl_h51_e : ck_ok p2_OL none [] [(158, [pl_s414])] 157 [] 90 pl_h51 = true := by decide +kernel
theorem pl_h51_s {X : Int → Int} {LX : Nat} : ck_Ok p2_OL X LX 157 pl_h51 := ck_ok_s ⟨pl_nmu, ck_E1 (ck_S1 pl_s414_s ck_S0) ck_E0⟩ ck_X0 ck_l0 pl_h51_e
set_option maxRecDepth 100000 in
/-- GlacierMailLaw.open -/
def pl_h52 : ck_Sum := ((9, 2, 12), 249, [.inr (.inr (.inl 1)), .inl (ck_one 4), .inr (.inr (.inl 245))], ([], zl230, [(3, 6, 6, (0, 299, [(10, 0)]))]), ([(1, 15, 15), (11, 33, 34), (14, 3, 3), (15, 0, 71), (42, 1, 2), (44, 0, 7), (45, 3, 3), (46, 0, 55), (47, 3, 3), (48, 0, 23), (49, 3, 3), (50, 0, 23), (51, 3, 3), (52, 0, 167), (53, 3, 3), (54, 0, 35), (55, 3, 3), (56, 0, 71), (57, 0, 7), (58, 3, 3), (59, 0, 55), (60, 3, 3), (61, 0, 23), (62, 3, 3), (63, 0, 23), (64, 3, 3), (65, 0, 167), (66, 3, 3), (67, 0, 35), (68, 3, 3), (69, 0, 71), (70, 0, 7), (71, 3, 3), (72, 0, 55), (73, 3, 3), (74, 0, 23), (75, 3, 3), (76, 0, 23), (77, 3, 3), (78, 0, 167), (79, 3, 3), (80, 0, 35), (81, 3, 3), (82, 0, 71), (83, 0, 7), (84, 3, 3), (85, 0, 55), (86, 3, 3), (87, 0, 23), (88, 3, 3), (89, 0, 23), (90, 3, 3), (91, 0, 167), (92, 3, 3), (93, 0, 35), (94, 3, 3), (95, 0, 71), (96, 0, 7), (97, 3, 3), (98, 0, 55), (99, 3, 3), (100, 0, 23), (101, 3, 3), (102, 0, 23), (103, 3, 3), (104, 0, 167), (105, 3, 3), (106, 0, 35), (107, 3, 3), (108, 0, 71), (109, 0, 7), (110, 3, 3), (111, 0, 55), (112, 3, 3), (113, 0, 23), (114, 3, 3), (115, 0, 23), (116, 3, 3), (117, 0, 167), (118, 3, 3), (119, 0, 35), (120, 3, 3), (121, 0, 71), (122, 0, 7), (123, 3, 3), (124, 0, 55), (125, 3, 3), (126, 0, 23), (127, 3, 3), (128, 0, 23), (129, 3, 3), (130, 0, 167), (131, 3, 3), (132, 0, 35), (133, 3, 3), (134, 0, 71), (135, 0, 7), (136, 3, 3), (137, 0, 55), (138, 3, 3), (139, 0, 23), (140, 3, 3), (141, 0, 23), (142, 3, 3), (143, 0, 167), (144, 3, 3), (145, 0, 35), (146, 3, 3), (147, 0, 71), (148, 0, 7), (149, 3, 3), (150, 0, 55), (151, 3, 3), (152, 0, 23), (153, 3, 3), (154, 0, 23), (155, 3, 3), (156, 0, 167), (157, 3, 3), (158, 0, 35), (159, 3, 3), (160, 0, 71), (161, 0, 7), (162, 3, 3), (163, 0, 55), (164, 3, 3), (165, 0, 23), (166, 3, 3), (167, 0, 23), (168, 3, 3), (169, 0, 167), (170, 3, 3), (171, 0, 35), (172, 3, 3), (173, 0, 71), (174, 0, 7), (175, 3, 3), (176, 0, 55), (177, 3, 3), (178, 0, 23), (179, 3, 3), (180, 0, 23), (181, 3, 3), (182, 0, 167), (183, 3, 3), (184, 0, 35), (185, 3, 3), (186, 0, 71), (187, 0, 7), (188, 3, 3), (189, 0, 55), (190, 3, 3), (191, 0, 23), (192, 3, 3), (193, 0, 23), (194, 3, 3), (195, 0, 167), (196, 3, 3), (197, 0, 35), (198, 3, 3), (199, 0, 71), (200, 6, 6), (204, 0, 9), (205, 0, 14849), (206, 2, 8), (220, 3, 3), (221, 0, 47), (245, 0, 0)], zl104), zl282)
set_option maxRecDepth 100000 in
theorem pl_h52_e : ck_ok p2_OL none [] [(158, [pl_s424])] 157 [] 90 pl_h52 = true := by decide +kernel
theorem pl_h52_s {X : Int → Int} {LX : Nat} : ck_Ok p2_OL X LX 157 pl_h52 := ck_ok_s ⟨pl_nmu, ck_E1 (ck_S1 pl_s424_s ck_S0) ck_E0⟩ ck_X0 ck_l0 pl_h52_e
set_option maxRecDepth 100000 in
/-- GlacierMailLaw.open -/
def pl_h53 : ck_Sum := ((9, 2, 12), 249, [.inr (.inr (.inl 1)), .inl (ck_one 5), .inr (.inr (.inl 245))], ([], zl230, [(3, 6, 6, (0, 299, [(10, 0)]))]), ([(1, 15, 15), (11, 40, 41), (14, 3, 3), (15, 0, 71), (42, 1, 2), (44, 0, 7), (45, 3, 3), (46, 0, 55), (47, 3, 3), (48, 0, 23), (49, 3, 3), (50, 0, 23), (51, 3, 3), (52, 0, 167), (53, 3, 3), (54, 0, 35), (55, 3, 3), (56, 0, 71), (57, 0, 7), (58, 3, 3), (59, 0, 55), (60, 3, 3), (61, 0, 23), (62, 3, 3), (63, 0, 23), (64, 3, 3), (65, 0, 167), (66, 3, 3), (67, 0, 35), (68, 3, 3), (69, 0, 71), (70, 0, 7), (71, 3, 3), (72, 0, 55), (73, 3, 3), (74, 0, 23), (75, 3, 3), (76, 0, 23), (77, 3, 3), (78, 0, 167), (79, 3, 3), (80, 0, 35), (81, 3, 3), (82, 0, 71), (83, 0, 7), (84, 3, 3), (85, 0, 55), (86, 3, 3), (87, 0, 23), (88, 3, 3), (89, 0, 23), (90, 3, 3), (91, 0, 167), (92, 3, 3), (93, 0, 35), (94, 3, 3), (95, 0, 71), (96, 0, 7), (97, 3, 3), (98, 0, 55), (99, 3, 3), (100, 0, 23), (101, 3, 3), (102, 0, 23), (103, 3, 3), (104, 0, 167), (105, 3, 3), (106, 0, 35), (107, 3, 3), (108, 0, 71), (109, 0, 7), (110, 3, 3), (111, 0, 55), (112, 3, 3), (113, 0, 23), (114, 3, 3), (115, 0, 23), (116, 3, 3), (117, 0, 167), (118, 3, 3), (119, 0, 35), (120, 3, 3), (121, 0, 71), (122, 0, 7), (123, 3, 3), (124, 0, 55), (125, 3, 3), (126, 0, 23), (127, 3, 3), (128, 0, 23), (129, 3, 3), (130, 0, 167), (131, 3, 3), (132, 0, 35), (133, 3, 3), (134, 0, 71), (135, 0, 7), (136, 3, 3), (137, 0, 55), (138, 3, 3), (139, 0, 23), (140, 3, 3), (141, 0, 23), (142, 3, 3), (143, 0, 167), (144, 3, 3), (145, 0, 35), (146, 3, 3), (147, 0, 71), (148, 0, 7), (149, 3, 3), (150, 0, 55), (151, 3, 3), (152, 0, 23), (153, 3, 3), (154, 0, 23), (155, 3, 3), (156, 0, 167), (157, 3, 3), (158, 0, 35), (159, 3, 3), (160, 0, 71), (161, 0, 7), (162, 3, 3), (163, 0, 55), (164, 3, 3), (165, 0, 23), (166, 3, 3), (167, 0, 23), (168, 3, 3), (169, 0, 167), (170, 3, 3), (171, 0, 35), (172, 3, 3), (173, 0, 71), (174, 0, 7), (175, 3, 3), (176, 0, 55), (177, 3, 3), (178, 0, 23), (179, 3, 3), (180, 0, 23), (181, 3, 3), (182, 0, 167), (183, 3, 3), (184, 0, 35), (185, 3, 3), (186, 0, 71), (187, 0, 7), (188, 3, 3), (189, 0, 55), (190, 3, 3), (191, 0, 23), (192, 3, 3), (193, 0, 23), (194, 3, 3), (195, 0, 167), (196, 3, 3), (197, 0, 35), (198, 3, 3), (199, 0, 71), (200, 6, 6), (204, 0, 9), (205, 0, 14849), (206, 2, 8), (220, 3, 3), (221, 0, 47), (245, 0, 0)], zl104), zl282)
set_option maxRecDepth 100000 in
theorem pl_h53_e : ck_ok p2_OL none [] [(158, [pl_s434])] 157 [] 90 pl_h53 = true := by decide +kernel
theorem pl_h53_s {X : Int → Int} {LX : Nat} : ck_Ok p2_OL X LX 157 pl_h53 := ck_ok_s ⟨pl_nmu, ck_E1 (ck_S1 pl_s434_s ck_S0) ck_E0⟩ ck_X0 ck_l0 pl_h53_e
set_option maxRecDepth 100000 in
/-- GlacierMailLaw.open -/
def pl_h54 : ck_Sum := ((9, 2, 12), 249, [.inr (.inr (.inl 1)), .inl (ck_one 6), .inr (.inr (.inl 245))], ([], zl230, [(3, 6, 6, (0, 299, [(10, 0)]))]), ([(1, 15, 15), (11, 47, 48), (14, 3, 3), (15, 0, 71), (42, 1, 2), (44, 0, 7), (45, 3, 3), (46, 0, 55), (47, 3, 3), (48, 0, 23), (49, 3, 3), (50, 0, 23), (51, 3, 3), (52, 0, 167), (53, 3, 3), (54, 0, 35), (55, 3, 3), (56, 0, 71), (57, 0, 7), (58, 3, 3), (59, 0, 55), (60, 3, 3), (61, 0, 23), (62, 3, 3), (63, 0, 23), (64, 3, 3), (65, 0, 167), (66, 3, 3), (67, 0, 35), (68, 3, 3), (69, 0, 71), (70, 0, 7), (71, 3, 3), (72, 0, 55), (73, 3, 3), (74, 0, 23), (75, 3, 3), (76, 0, 23), (77, 3, 3), (78, 0, 167), (79, 3, 3), (80, 0, 35), (81, 3, 3), (82, 0, 71), (83, 0, 7), (84, 3, 3), (85, 0, 55), (86, 3, 3), (87, 0, 23), (88, 3, 3), (89, 0, 23), (90, 3, 3), (91, 0, 167), (92, 3, 3), (93, 0, 35), (94, 3, 3), (95, 0, 71), (96, 0, 7), (97, 3, 3), (98, 0, 55), (99, 3, 3), (100, 0, 23), (101, 3, 3), (102, 0, 23), (103, 3, 3), (104, 0, 167), (105, 3, 3), (106, 0, 35), (107, 3, 3), (108, 0, 71), (109, 0, 7), (110, 3, 3), (111, 0, 55), (112, 3, 3), (113, 0, 23), (114, 3, 3), (115, 0, 23), (116, 3, 3), (117, 0, 167), (118, 3, 3), (119, 0, 35), (120, 3, 3), (121, 0, 71), (122, 0, 7), (123, 3, 3), (124, 0, 55), (125, 3, 3), (126, 0, 23), (127, 3, 3), (128, 0, 23), (129, 3, 3), (130, 0, 167), (131, 3, 3), (132, 0, 35), (133, 3, 3), (134, 0, 71), (135, 0, 7), (136, 3, 3), (137, 0, 55), (138, 3, 3), (139, 0, 23), (140, 3, 3), (141, 0, 23), (142, 3, 3), (143, 0, 167), (144, 3, 3), (145, 0, 35), (146, 3, 3), (147, 0, 71), (148, 0, 7), (149, 3, 3), (150, 0, 55), (151, 3, 3), (152, 0, 23), (153, 3, 3), (154, 0, 23), (155, 3, 3), (156, 0, 167), (157, 3, 3), (158, 0, 35), (159, 3, 3), (160, 0, 71), (161, 0, 7), (162, 3, 3), (163, 0, 55), (164, 3, 3), (165, 0, 23), (166, 3, 3), (167, 0, 23), (168, 3, 3), (169, 0, 167), (170, 3, 3), (171, 0, 35), (172, 3, 3), (173, 0, 71), (174, 0, 7), (175, 3, 3), (176, 0, 55), (177, 3, 3), (178, 0, 23), (179, 3, 3), (180, 0, 23), (181, 3, 3), (182, 0, 167), (183, 3, 3), (184, 0, 35), (185, 3, 3), (186, 0, 71), (187, 0, 7), (188, 3, 3), (189, 0, 55), (190, 3, 3), (191, 0, 23), (192, 3, 3), (193, 0, 23), (194, 3, 3), (195, 0, 167), (196, 3, 3), (197, 0, 35), (198, 3, 3), (199, 0, 71), (200, 6, 6), (204, 0, 9), (205, 0, 14849), (206, 2, 8), (220, 3, 3), (221, 0, 47), (245, 0, 0)], zl104), zl282)
set_option maxRecDepth 100000 in
theorem pl_h54_e : ck_ok p2_OL none [] [(158, [pl_s444])] 157 [] 90 pl_h54 = true := by decide +kernel
theorem pl_h54_s {X : Int → Int} {LX : Nat} : ck_Ok p2_OL X LX 157 pl_h54 := ck_ok_s ⟨pl_nmu, ck_E1 (ck_S1 pl_s444_s ck_S0) ck_E0⟩ ck_X0 ck_l0 pl_h54_e
set_option maxRecDepth 100000 in
/-- GlacierMailLaw.open -/
def pl_h55 : ck_Sum := ((9, 2, 12), 249, [.inr (.inr (.inl 1)), .inl (ck_one 7), .inr (.inr (.inl 245))], ([], zl230, [(3, 6, 6, (0, 299, [(10, 0)]))]), ([(1, 15, 15), (11, 54, 55), (14, 3, 3), (15, 0, 71), (42, 1, 2), (44, 0, 7), (45, 3, 3), (46, 0, 55), (47, 3, 3), (48, 0, 23), (49, 3, 3), (50, 0, 23), (51, 3, 3), (52, 0, 167), (53, 3, 3), (54, 0, 35), (55, 3, 3), (56, 0, 71), (57, 0, 7), (58, 3, 3), (59, 0, 55), (60, 3, 3), (61, 0, 23), (62, 3, 3), (63, 0, 23), (64, 3, 3), (65, 0, 167), (66, 3, 3), (67, 0, 35), (68, 3, 3), (69, 0, 71), (70, 0, 7), (71, 3, 3), (72, 0, 55), (73, 3, 3), (74, 0, 23), (75, 3, 3), (76, 0, 23), (77, 3, 3), (78, 0, 167), (79, 3, 3), (80, 0, 35), (81, 3, 3), (82, 0, 71), (83, 0, 7), (84, 3, 3), (85, 0, 55), (86, 3, 3), (87, 0, 23), (88, 3, 3), (89, 0, 23), (90, 3, 3), (91, 0, 167), (92, 3, 3), (93, 0, 35), (94, 3, 3), (95, 0, 71), (96, 0, 7), (97, 3, 3), (98, 0, 55), (99, 3, 3), (100, 0, 23), (101, 3, 3), (102, 0, 23), (103, 3, 3), (104, 0, 167), (105, 3, 3), (106, 0, 35), (107, 3, 3), (108, 0, 71), (109, 0, 7), (110, 3, 3), (111, 0, 55), (112, 3, 3), (113, 0, 23), (114, 3, 3), (115, 0, 23), (116, 3, 3), (117, 0, 167), (118, 3, 3), (119, 0, 35), (120, 3, 3), (121, 0, 71), (122, 0, 7), (123, 3, 3), (124, 0, 55), (125, 3, 3), (126, 0, 23), (127, 3, 3), (128, 0, 23), (129, 3, 3), (130, 0, 167), (131, 3, 3), (132, 0, 35), (133, 3, 3), (134, 0, 71), (135, 0, 7), (136, 3, 3), (137, 0, 55), (138, 3, 3), (139, 0, 23), (140, 3, 3), (141, 0, 23), (142, 3, 3), (143, 0, 167), (144, 3, 3), (145, 0, 35), (146, 3, 3), (147, 0, 71), (148, 0, 7), (149, 3, 3), (150, 0, 55), (151, 3, 3), (152, 0, 23), (153, 3, 3), (154, 0, 23), (155, 3, 3), (156, 0, 167), (157, 3, 3), (158, 0, 35), (159, 3, 3), (160, 0, 71), (161, 0, 7), (162, 3, 3), (163, 0, 55), (164, 3, 3), (165, 0, 23), (166, 3, 3), (167, 0, 23), (168, 3, 3), (169, 0, 167), (170, 3, 3), (171, 0, 35), (172, 3, 3), (173, 0, 71), (174, 0, 7), (175, 3, 3), (176, 0, 55), (177, 3, 3), (178, 0, 23), (179, 3, 3), (180, 0, 23), (181, 3, 3), (182, 0, 167), (183, 3, 3), (184, 0, 35), (185, 3, 3), (186, 0, 71), (187, 0, 7), (188, 3, 3), (189, 0, 55), (190, 3, 3), (191, 0, 23), (192, 3, 3), (193, 0, 23), (194, 3, 3), (195, 0, 167), (196, 3, 3), (197, 0, 35), (198, 3, 3), (199, 0, 71), (200, 6, 6), (204, 0, 9), (205, 0, 14849), (206, 2, 8), (220, 3, 3), (221, 0, 47), (245, 0, 0)], zl104), zl282)
set_option maxRecDepth 100000 in
theorem pl_h55_e : ck_ok p2_OL none [] [(158, [pl_s454])] 157 [] 90 pl_h55 = true := by decide +kernel
theorem pl_h55_s {X : Int → Int} {LX : Nat} : ck_Ok p2_OL X LX 157 pl_h55 := ck_ok_s ⟨pl_nmu, ck_E1 (ck_S1 pl_s454_s ck_S0) ck_E0⟩ ck_X0 ck_l0 pl_h55_e
set_option maxRecDepth 100000 in
/-- GlacierMailLaw.open -/
def pl_h56 : ck_Sum := ((9, 2, 12), 249, [.inr (.inr (.inl 1)), .inl (ck_one 8), .inr (.inr (.inl 245))], ([], zl230, [(3, 6, 6, (0, 299, [(10, 0)]))]), ([(1, 15, 15), (11, 61, 62), (14, 3, 3), (15, 0, 71), (42, 1, 2), (44, 0, 7), (45, 3, 3), (46, 0, 55), (47, 3, 3), (48, 0, 23), (49, 3, 3), (50, 0, 23), (51, 3, 3), (52, 0, 167), (53, 3, 3), (54, 0, 35), (55, 3, 3), (56, 0, 71), (57, 0, 7), (58, 3, 3), (59, 0, 55), (60, 3, 3), (61, 0, 23), (62, 3, 3), (63, 0, 23), (64, 3, 3), (65, 0, 167), (66, 3, 3), (67, 0, 35), (68, 3, 3), (69, 0, 71), (70, 0, 7), (71, 3, 3), (72, 0, 55), (73, 3, 3), (74, 0, 23), (75, 3, 3), (76, 0, 23), (77, 3, 3), (78, 0, 167), (79, 3, 3), (80, 0, 35), (81, 3, 3), (82, 0, 71), (83, 0, 7), (84, 3, 3), (85, 0, 55), (86, 3, 3), (87, 0, 23), (88, 3, 3), (89, 0, 23), (90, 3, 3), (91, 0, 167), (92, 3, 3), (93, 0, 35), (94, 3, 3), (95, 0, 71), (96, 0, 7), (97, 3, 3), (98, 0, 55), (99, 3, 3), (100, 0, 23), (101, 3, 3), (102, 0, 23), (103, 3, 3), (104, 0, 167), (105, 3, 3), (106, 0, 35), (107, 3, 3), (108, 0, 71), (109, 0, 7), (110, 3, 3), (111, 0, 55), (112, 3, 3), (113, 0, 23), (114, 3, 3), (115, 0, 23), (116, 3, 3), (117, 0, 167), (118, 3, 3), (119, 0, 35), (120, 3, 3), (121, 0, 71), (122, 0, 7), (123, 3, 3), (124, 0, 55), (125, 3, 3), (126, 0, 23), (127, 3, 3), (128, 0, 23), (129, 3, 3), (130, 0, 167), (131, 3, 3), (132, 0, 35), (133, 3, 3), (134, 0, 71), (135, 0, 7), (136, 3, 3), (137, 0, 55), (138, 3, 3), (139, 0, 23), (140, 3, 3), (141, 0, 23), (142, 3, 3), (143, 0, 167), (144, 3, 3), (145, 0, 35), (146, 3, 3), (147, 0, 71), (148, 0, 7), (149, 3, 3), (150, 0, 55), (151, 3, 3), (152, 0, 23), (153, 3, 3), (154, 0, 23), (155, 3, 3), (156, 0, 167), (157, 3, 3), (158, 0, 35), (159, 3, 3), (160, 0, 71), (161, 0, 7), (162, 3, 3), (163, 0, 55), (164, 3, 3), (165, 0, 23), (166, 3, 3), (167, 0, 23), (168, 3, 3), (169, 0, 167), (170, 3, 3), (171, 0, 35), (172, 3, 3), (173, 0, 71), (174, 0, 7), (175, 3, 3), (176, 0, 55), (177, 3, 3), (178, 0, 23), (179, 3, 3), (180, 0, 23), (181, 3, 3), (182, 0, 167), (183, 3, 3), (184, 0, 35), (185, 3, 3), (186, 0, 71), (187, 0, 7), (188, 3, 3), (189, 0, 55), (190, 3, 3), (191, 0, 23), (192, 3, 3), (193, 0, 23), (194, 3, 3), (195, 0, 167), (196, 3, 3), (197, 0, 35), (198, 3, 3), (199, 0, 71), (200, 6, 6), (204, 0, 9), (205, 0, 14849), (206, 2, 8), (220, 3, 3), (221, 0, 47), (245, 0, 0)], zl104), zl282)
set_option maxRecDepth 100000 in
theorem pl_h56_e : ck_ok p2_OL none [] [(158, [pl_s464])] 157 [] 90 pl_h56 = true := by decide +kernel
theorem pl_h56_s {X : Int → Int} {LX : Nat} : ck_Ok p2_OL X LX 157 pl_h56 := ck_ok_s ⟨pl_nmu, ck_E1 (ck_S1 pl_s464_s ck_S0) ck_E0⟩ ck_X0 ck_l0 pl_h56_e
set_option maxRecDepth 100000 in
/-- GlacierMailLaw.open -/
def pl_h57 : ck_Sum := ((9, 2, 12), 249, [.inr (.inr (.inl 1)), .inl (ck_one 9), .inr (.inr (.inl 245))], ([], zl230, [(3, 6, 6, (0, 299, [(10, 0)]))]), ([(1, 15, 15), (11, 68, 69), (14, 3, 3), (15, 0, 71), (42, 1, 2), (44, 0, 7), (45, 3, 3), (46, 0, 55), (47, 3, 3), (48, 0, 23), (49, 3, 3), (50, 0, 23), (51, 3, 3), (52, 0, 167), (53, 3, 3), (54, 0, 35), (55, 3, 3), (56, 0, 71), (57, 0, 7), (58, 3, 3), (59, 0, 55), (60, 3, 3), (61, 0, 23), (62, 3, 3), (63, 0, 23), (64, 3, 3), (65, 0, 167), (66, 3, 3), (67, 0, 35), (68, 3, 3), (69, 0, 71), (70, 0, 7), (71, 3, 3), (72, 0, 55), (73, 3, 3), (74, 0, 23), (75, 3, 3), (76, 0, 23), (77, 3, 3), (78, 0, 167), (79, 3, 3), (80, 0, 35), (81, 3, 3), (82, 0, 71), (83, 0, 7), (84, 3, 3), (85, 0, 55), (86, 3, 3), (87, 0, 23), (88, 3, 3), (89, 0, 23), (90, 3, 3), (91, 0, 167), (92, 3, 3), (93, 0, 35), (94, 3, 3), (95, 0, 71), (96, 0, 7), (97, 3, 3), (98, 0, 55), (99, 3, 3), (100, 0, 23), (101, 3, 3), (102, 0, 23), (103, 3, 3), (104, 0, 167), (105, 3, 3), (106, 0, 35), (107, 3, 3), (108, 0, 71), (109, 0, 7), (110, 3, 3), (111, 0, 55), (112, 3, 3), (113, 0, 23), (114, 3, 3), (115, 0, 23), (116, 3, 3), (117, 0, 167), (118, 3, 3), (119, 0, 35), (120, 3, 3), (121, 0, 71), (122, 0, 7), (123, 3, 3), (124, 0, 55), (125, 3, 3), (126, 0, 23), (127, 3, 3), (128, 0, 23), (129, 3, 3), (130, 0, 167), (131, 3, 3), (132, 0, 35), (133, 3, 3), (134, 0, 71), (135, 0, 7), (136, 3, 3), (137, 0, 55), (138, 3, 3), (139, 0, 23), (140, 3, 3), (141, 0, 23), (142, 3, 3), (143, 0, 167), (144, 3, 3), (145, 0, 35), (146, 3, 3), (147, 0, 71), (148, 0, 7), (149, 3, 3), (150, 0, 55), (151, 3, 3), (152, 0, 23), (153, 3, 3), (154, 0, 23), (155, 3, 3), (156, 0, 167), (157, 3, 3), (158, 0, 35), (159, 3, 3), (160, 0, 71), (161, 0, 7), (162, 3, 3), (163, 0, 55), (164, 3, 3), (165, 0, 23), (166, 3, 3), (167, 0, 23), (168, 3, 3), (169, 0, 167), (170, 3, 3), (171, 0, 35), (172, 3, 3), (173, 0, 71), (174, 0, 7), (175, 3, 3), (176, 0, 55), (177, 3, 3), (178, 0, 23), (179, 3, 3), (180, 0, 23), (181, 3, 3), (182, 0, 167), (183, 3, 3), (184, 0, 35), (185, 3, 3), (186, 0, 71), (187, 0, 7), (188, 3, 3), (189, 0, 55), (190, 3, 3), (191, 0, 23), (192, 3, 3), (193, 0, 23), (194, 3, 3), (195, 0, 167), (196, 3, 3), (197, 0, 35), (198, 3, 3), (199, 0, 71), (200, 6, 6), (204, 0, 9), (205, 0, 14849), (206, 2, 8), (220, 3, 3), (221, 0, 47), (245, 0, 0)], zl104), zl282)
set_option maxRecDepth 100000 in
theorem pl_h57_e : ck_ok p2_OL none [] [(158, [pl_s474])] 157 [] 90 pl_h57 = true := by decide +kernel
theorem pl_h57_s {X : Int → Int} {LX : Nat} : ck_Ok p2_OL X LX 157 pl_h57 := ck_ok_s ⟨pl_nmu, ck_E1 (ck_S1 pl_s474_s ck_S0) ck_E0⟩ ck_X0 ck_l0 pl_h57_e
set_option maxRecDepth 100000 in
/-- GlacierMailLaw.open -/
def pl_h58 : ck_Sum := ((9, 2, 12), 249, [.inr (.inr (.inl 1)), .inl (ck_one 10), .inr (.inr (.inl 245))], ([], zl230, [(3, 6, 6, (0, 299, [(10, 0)]))]), ([(1, 15, 15), (11, 75, 76), (14, 3, 3), (15, 0, 71), (42, 1, 2), (44, 0, 7), (45, 3, 3), (46, 0, 55), (47, 3, 3), (48, 0, 23), (49, 3, 3), (50, 0, 23), (51, 3, 3), (52, 0, 167), (53, 3, 3), (54, 0, 35), (55, 3, 3), (56, 0, 71), (57, 0, 7), (58, 3, 3), (59, 0, 55), (60, 3, 3), (61, 0, 23), (62, 3, 3), (63, 0, 23), (64, 3, 3), (65, 0, 167), (66, 3, 3), (67, 0, 35), (68, 3, 3), (69, 0, 71), (70, 0, 7), (71, 3, 3), (72, 0, 55), (73, 3, 3), (74, 0, 23), (75, 3, 3), (76, 0, 23), (77, 3, 3), (78, 0, 167), (79, 3, 3), (80, 0, 35), (81, 3, 3), (82, 0, 71), (83, 0, 7), (84, 3, 3), (85, 0, 55), (86, 3, 3), (87, 0, 23), (88, 3, 3), (89, 0, 23), (90, 3, 3), (91, 0, 167), (92, 3, 3), (93, 0, 35), (94, 3, 3), (95, 0, 71), (96, 0, 7), (97, 3, 3), (98, 0, 55), (99, 3, 3), (100, 0, 23), (101, 3, 3), (102, 0, 23), (103, 3, 3), (104, 0, 167), (105, 3, 3), (106, 0, 35), (107, 3, 3), (108, 0, 71), (109, 0, 7), (110, 3, 3), (111, 0, 55), (112, 3, 3), (113, 0, 23), (114, 3, 3), (115, 0, 23), (116, 3, 3), (117, 0, 167), (118, 3, 3), (119, 0, 35), (120, 3, 3), (121, 0, 71), (122, 0, 7), (123, 3, 3), (124, 0, 55), (125, 3, 3), (126, 0, 23), (127, 3, 3), (128, 0, 23), (129, 3, 3), (130, 0, 167), (131, 3, 3), (132, 0, 35), (133, 3, 3), (134, 0, 71), (135, 0, 7), (136, 3, 3), (137, 0, 55), (138, 3, 3), (139, 0, 23), (140, 3, 3), (141, 0, 23), (142, 3, 3), (143, 0, 167), (144, 3, 3), (145, 0, 35), (146, 3, 3), (147, 0, 71), (148, 0, 7), (149, 3, 3), (150, 0, 55), (151, 3, 3), (152, 0, 23), (153, 3, 3), (154, 0, 23), (155, 3, 3), (156, 0, 167), (157, 3, 3), (158, 0, 35), (159, 3, 3), (160, 0, 71), (161, 0, 7), (162, 3, 3), (163, 0, 55), (164, 3, 3), (165, 0, 23), (166, 3, 3), (167, 0, 23), (168, 3, 3), (169, 0, 167), (170, 3, 3), (171, 0, 35), (172, 3, 3), (173, 0, 71), (174, 0, 7), (175, 3, 3), (176, 0, 55), (177, 3, 3), (178, 0, 23), (179, 3, 3), (180, 0, 23), (181, 3, 3), (182, 0, 167), (183, 3, 3), (184, 0, 35), (185, 3, 3), (186, 0, 71), (187, 0, 7), (188, 3, 3), (189, 0, 55), (190, 3, 3), (191, 0, 23), (192, 3, 3), (193, 0, 23), (194, 3, 3), (195, 0, 167), (196, 3, 3), (197, 0, 35), (198, 3, 3), (199, 0, 71), (200, 6, 6), (204, 0, 9), (205, 0, 14849), (206, 2, 8), (220, 3, 3), (221, 0, 47), (245, 0, 0)], zl104), zl282)
set_option maxRecDepth 100000 in
theorem pl_h58_e : ck_ok p2_OL none [] [(158, [pl_s484])] 157 [] 90 pl_h58 = true := by decide +kernel
theorem pl_h58_s {X : Int → Int} {LX : Nat} : ck_Ok p2_OL X LX 157 pl_h58 := ck_ok_s ⟨pl_nmu, ck_E1 (ck_S1 pl_s484_s ck_S0) ck_E0⟩ ck_X0 ck_l0 pl_h58_e
end
