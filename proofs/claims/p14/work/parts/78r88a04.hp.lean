/-! THE LAW'S OWN METHODS (laid by wip/am/p2n.py). -/
set_option maxRecDepth 100000 in
/-- GlacierMailLaw.throwsFor -/
def p2_h124 : ck_Sum := ((9, 1, 6), 245, [.inr (.inr (.inl 1)), .inl ((-2147483648), (-1), []), .inl ((-2147483648), 2147483647, []), .inl ((-2147483648), 2147483647, []), .inl ((-2147483648), 2147483647, []), .inr (.inr (.inl 245))], ([], [], []), ([], []), [(.inr (some (.inl (ck_one 1))), 245, ([], [], []))])
set_option maxRecDepth 100000 in
theorem p2_h124_e : ck_ok p2_O none [] [(167, [p2_s1305])] 166 [] 92 p2_h124 = true := by decide +kernel
theorem p2_h124_s {X : Int → Int} {LX : Nat} : ck_Ok p2_O X LX 166 p2_h124 := ck_ok_s ⟨p2_nmu, ck_E1 (ck_S1 p2_s1305_s ck_S0) ck_E0⟩ ck_X0 ck_l0 p2_h124_e
set_option maxRecDepth 100000 in
/-- GlacierMailLaw.throwsFor -/
def p2_h125 : ck_Sum := ((9, 1, 6), 245, [.inr (.inr (.inl 1)), .inl (6, 2147483647, []), .inl ((-2147483648), 2147483647, []), .inl ((-2147483648), 2147483647, []), .inl ((-2147483648), 2147483647, []), .inr (.inr (.inl 245))], ([], [], []), ([], []), [(.inr (some (.inl (ck_one 1))), 245, ([], [], []))])
set_option maxRecDepth 100000 in
theorem p2_h125_e : ck_ok p2_O none [] [(167, [p2_s1306])] 166 [] 92 p2_h125 = true := by decide +kernel
theorem p2_h125_s {X : Int → Int} {LX : Nat} : ck_Ok p2_O X LX 166 p2_h125 := ck_ok_s ⟨p2_nmu, ck_E1 (ck_S1 p2_s1306_s ck_S0) ck_E0⟩ ck_X0 ck_l0 p2_h125_e
set_option maxRecDepth 100000 in
/-- GlacierMailLaw.throwsFor -/
def p2_h126 : ck_Sum := ((9, 2, 12), 245, [.inr (.inr (.inl 1)), .inl (0, 5, []), .inl ((-2147483648), (-1), []), .inl ((-2147483648), 2147483647, []), .inl ((-2147483648), 2147483647, []), .inr (.inr (.inl 245))], ([], [], []), ([], []), [(.inr (some (.inl (ck_one 1))), 245, ([], [], [])), (.inr (some (.inl (ck_one 2))), 245, ([], [], []))])
set_option maxRecDepth 100000 in
theorem p2_h126_e : ck_ok p2_O none [] [(167, [p2_s1307])] 166 [] 92 p2_h126 = true := by decide +kernel
theorem p2_h126_s {X : Int → Int} {LX : Nat} : ck_Ok p2_O X LX 166 p2_h126 := ck_ok_s ⟨p2_nmu, ck_E1 (ck_S1 p2_s1307_s ck_S0) ck_E0⟩ ck_X0 ck_l0 p2_h126_e
set_option maxRecDepth 100000 in
/-- GlacierMailLaw.throwsFor -/
def p2_h127 : ck_Sum := ((9, 2, 12), 245, [.inr (.inr (.inl 1)), .inl (0, 5, []), .inl (300, 2147483647, []), .inl ((-2147483648), 2147483647, []), .inl ((-2147483648), 2147483647, []), .inr (.inr (.inl 245))], ([], [], []), ([], []), [(.inr (some (.inl (ck_one 1))), 245, ([], [], [])), (.inr (some (.inl (ck_one 2))), 245, ([], [], []))])
set_option maxRecDepth 100000 in
theorem p2_h127_e : ck_ok p2_O none [] [(167, [p2_s1308])] 166 [] 92 p2_h127 = true := by decide +kernel
theorem p2_h127_s {X : Int → Int} {LX : Nat} : ck_Ok p2_O X LX 166 p2_h127 := ck_ok_s ⟨p2_nmu, ck_E1 (ck_S1 p2_s1308_s ck_S0) ck_E0⟩ ck_X0 ck_l0 p2_h127_e
set_option maxRecDepth 100000 in
/-- GlacierMailLaw.throwsFor -/
def p2_h128 : ck_Sum := ((9, 2, 12), 245, [.inr (.inr (.inl 1)), .inl (0, 5, []), .inl (0, 299, []), .inl ((-2147483648), (-1), []), .inl ((-2147483648), 2147483647, []), .inr (.inr (.inl 245))], ([], [], []), ([], []), [(.inr (some (.inl (ck_one 1))), 245, ([], [], [])), (.inr (some (.inl (ck_one 2))), 245, ([], [], []))])
set_option maxRecDepth 100000 in
theorem p2_h128_e : ck_ok p2_O none [] [(167, [p2_s1309])] 166 [] 92 p2_h128 = true := by decide +kernel
theorem p2_h128_s {X : Int → Int} {LX : Nat} : ck_Ok p2_O X LX 166 p2_h128 := ck_ok_s ⟨p2_nmu, ck_E1 (ck_S1 p2_s1309_s ck_S0) ck_E0⟩ ck_X0 ck_l0 p2_h128_e
set_option maxRecDepth 100000 in
/-- GlacierMailLaw.throwsFor -/
def p2_h129 : ck_Sum := ((9, 2, 12), 245, [.inr (.inr (.inl 1)), .inl (0, 5, []), .inl (0, 299, []), .inl (300, 2147483647, []), .inl ((-2147483648), 2147483647, []), .inr (.inr (.inl 245))], ([], [], []), ([], []), [(.inr (some (.inl (ck_one 1))), 245, ([], [], [])), (.inr (some (.inl (ck_one 2))), 245, ([], [], []))])
set_option maxRecDepth 100000 in
theorem p2_h129_e : ck_ok p2_O none [] [(167, [p2_s1310])] 166 [] 92 p2_h129 = true := by decide +kernel
theorem p2_h129_s {X : Int → Int} {LX : Nat} : ck_Ok p2_O X LX 166 p2_h129 := ck_ok_s ⟨p2_nmu, ck_E1 (ck_S1 p2_s1310_s ck_S0) ck_E0⟩ ck_X0 ck_l0 p2_h129_e
set_option maxRecDepth 100000 in
/-- GlacierMailLaw.throwsFor -/
def p2_h130 : ck_Sum := ((9, 2, 12), 245, [.inr (.inr (.inl 1)), .inl (0, 5, []), .inl (0, 299, []), .inl (0, 299, []), .inl ((-2147483648), (-1), []), .inr (.inr (.inl 245))], ([], [], [(3, 6, 6, (0, 299, [(10, 0)]))]), ([], []), [(.inr (some (.inl (ck_one 1))), 245, ([], [], [])), (.inr (some (.inl (ck_one 2))), 245, ([], [], [(3, 6, 6, (1, 299, [(10, 0)]))])), (.inr (some (.inl (ck_one 3))), 245, ([], [], []))])
set_option maxRecDepth 100000 in
theorem p2_h130_e : ck_ok p2_O none [] [(167, [p2_s1311])] 166 [] 92 p2_h130 = true := by decide +kernel
theorem p2_h130_s {X : Int → Int} {LX : Nat} : ck_Ok p2_O X LX 166 p2_h130 := ck_ok_s ⟨p2_nmu, ck_E1 (ck_S1 p2_s1311_s ck_S0) ck_E0⟩ ck_X0 ck_l0 p2_h130_e
set_option maxRecDepth 100000 in
/-- GlacierMailLaw.throwsFor -/
def p2_h131 : ck_Sum := ((9, 2, 12), 245, [.inr (.inr (.inl 1)), .inl (0, 5, []), .inl (0, 299, []), .inl (0, 299, []), .inl (10, 2147483647, []), .inr (.inr (.inl 245))], ([], [], [(3, 6, 6, (0, 299, [(10, 0)]))]), ([], []), [(.inr (some (.inl (ck_one 1))), 245, ([], [], [])), (.inr (some (.inl (ck_one 2))), 245, ([], [], [(3, 6, 6, (1, 299, [(10, 0)]))])), (.inr (some (.inl (ck_one 3))), 245, ([], [], []))])
set_option maxRecDepth 100000 in
theorem p2_h131_e : ck_ok p2_O none [] [(167, [p2_s1312])] 166 [] 92 p2_h131 = true := by decide +kernel
theorem p2_h131_s {X : Int → Int} {LX : Nat} : ck_Ok p2_O X LX 166 p2_h131 := ck_ok_s ⟨p2_nmu, ck_E1 (ck_S1 p2_s1312_s ck_S0) ck_E0⟩ ck_X0 ck_l0 p2_h131_e
set_option maxRecDepth 100000 in
/-- GlacierMailLaw.throwsFor -/
def p2_h132 : ck_Sum := ((9, 2, 12), 245, [.inr (.inr (.inl 1)), .inl (0, 5, []), .inl (0, 299, []), .inl (0, 299, []), .inl (0, 9, []), .inr (.inr (.inl 245))], ([], [(3, 8, 0)], [(3, 6, 6, (0, 299, [(10, 0)]))]), ([(206, 2, 8), (245, 0, 0)], []), [(.inr (some (.inl (ck_one 1))), 245, ([], [], [])), (.inr (some (.inl (ck_one 0))), 245, ([], [], [])), (.inr (some (.inl (ck_one 2))), 245, ([], [], [(3, 6, 6, (1, 299, [(10, 0)]))])), (.inr (some (.inl (ck_one 3))), 245, ([], [], []))])
set_option maxRecDepth 100000 in
theorem p2_h132_e : ck_ok p2_O none [] [(167, [p2_s1314])] 166 [] 96 p2_h132 = true := by decide +kernel
theorem p2_h132_s {X : Int → Int} {LX : Nat} : ck_Ok p2_O X LX 166 p2_h132 := ck_ok_s ⟨p2_nmu, ck_E1 (ck_S1 p2_s1314_s ck_S0) ck_E0⟩ ck_X0 ck_l0 p2_h132_e
set_option maxRecDepth 100000 in
/-- GlacierMailLaw.latest -/
def p2_h133 : ck_Sum := ((9, 1, 6), 245, [.inr (.inr (.inl 1)), .inl ((-2147483648), (-1), []), .inl ((-2147483648), 2147483647, []), .inr (.inr (.inl 245))], ([], [], []), ([], []), [(.inr (some (.inl (ck_one 1))), 245, ([], [], []))])
set_option maxRecDepth 100000 in
theorem p2_h133_e : ck_ok p2_O none [] [(169, [p2_s1328])] 168 [] 88 p2_h133 = true := by decide +kernel
theorem p2_h133_s {X : Int → Int} {LX : Nat} : ck_Ok p2_O X LX 168 p2_h133 := ck_ok_s ⟨p2_nmu, ck_E1 (ck_S1 p2_s1328_s ck_S0) ck_E0⟩ ck_X0 ck_l0 p2_h133_e
set_option maxRecDepth 100000 in
/-- GlacierMailLaw.latest -/
def p2_h134 : ck_Sum := ((9, 1, 6), 245, [.inr (.inr (.inl 1)), .inl (8, 2147483647, []), .inl ((-2147483648), 2147483647, []), .inr (.inr (.inl 245))], ([], [], []), ([], []), [(.inr (some (.inl (ck_one 1))), 245, ([], [], []))])
set_option maxRecDepth 100000 in
theorem p2_h134_e : ck_ok p2_O none [] [(169, [p2_s1329])] 168 [] 88 p2_h134 = true := by decide +kernel
theorem p2_h134_s {X : Int → Int} {LX : Nat} : ck_Ok p2_O X LX 168 p2_h134 := ck_ok_s ⟨p2_nmu, ck_E1 (ck_S1 p2_s1329_s ck_S0) ck_E0⟩ ck_X0 ck_l0 p2_h134_e
set_option maxRecDepth 100000 in
/-- GlacierMailLaw.latest -/
def p2_h135 : ck_Sum := ((9, 2, 12), 245, [.inr (.inr (.inl 1)), .inl (0, 7, []), .inl ((-2147483648), (-1), []), .inr (.inr (.inl 245))], ([], [], []), ([], []), [(.inr (some (.inl (ck_one 1))), 245, ([], [], [])), (.inr (some (.inl (ck_one 2))), 245, ([], [], []))])
set_option maxRecDepth 100000 in
theorem p2_h135_e : ck_ok p2_O none [] [(169, [p2_s1330])] 168 [] 88 p2_h135 = true := by decide +kernel
theorem p2_h135_s {X : Int → Int} {LX : Nat} : ck_Ok p2_O X LX 168 p2_h135 := ck_ok_s ⟨p2_nmu, ck_E1 (ck_S1 p2_s1330_s ck_S0) ck_E0⟩ ck_X0 ck_l0 p2_h135_e
set_option maxRecDepth 100000 in
/-- GlacierMailLaw.latest -/
def p2_h136 : ck_Sum := ((9, 2, 12), 245, [.inr (.inr (.inl 1)), .inl (0, 7, []), .inl (300, 2147483647, []), .inr (.inr (.inl 245))], ([], [], []), ([], []), [(.inr (some (.inl (ck_one 1))), 245, ([], [], [])), (.inr (some (.inl (ck_one 2))), 245, ([], [], []))])
set_option maxRecDepth 100000 in
theorem p2_h136_e : ck_ok p2_O none [] [(169, [p2_s1331])] 168 [] 88 p2_h136 = true := by decide +kernel
theorem p2_h136_s {X : Int → Int} {LX : Nat} : ck_Ok p2_O X LX 168 p2_h136 := ck_ok_s ⟨p2_nmu, ck_E1 (ck_S1 p2_s1331_s ck_S0) ck_E0⟩ ck_X0 ck_l0 p2_h136_e
set_option maxRecDepth 100000 in
/-- GlacierMailLaw.latest -/
def p2_h137 : ck_Sum := ((9, 1, 6), 245, [.inr (.inr (.inl 1)), .inl (0, 7, []), .inl (0, 299, []), .inr (.inr (.inl 245))], ([], [(3, 8, 0)], [(3, 6, 6, (0, 299, [(10, 0)]))]), ([(206, 2, 8), (245, 0, 0)], []), [(.inr (some (.inl (ck_one 1))), 245, ([], [], [])), (.inr (some (.inl (ck_one 0))), 245, ([], [], [(245, 0, 0, ((-1), 299, []))]))])
set_option maxRecDepth 100000 in
theorem p2_h137_e : ck_ok p2_O none [] [(169, [p2_s1333])] 168 [] 92 p2_h137 = true := by decide +kernel
theorem p2_h137_s {X : Int → Int} {LX : Nat} : ck_Ok p2_O X LX 168 p2_h137 := ck_ok_s ⟨p2_nmu, ck_E1 (ck_S1 p2_s1333_s ck_S0) ck_E0⟩ ck_X0 ck_l0 p2_h137_e
set_option maxRecDepth 100000 in
/-- GlacierMailLaw.hut -/
def p2_h138 : ck_Sum := ((9, 1, 6), 245, [.inr (.inr (.inl 1)), .inl ((-2147483648), (-1), []), .inl ((-2147483648), 2147483647, []), .inr (.inr (.inl 245))], ([], [], []), ([], []), [(.inr (some (.inl (ck_one 1))), 245, ([], [], []))])
set_option maxRecDepth 100000 in
theorem p2_h138_e : ck_ok p2_O none [] [(172, [p2_s1339])] 171 [] 88 p2_h138 = true := by decide +kernel
theorem p2_h138_s {X : Int → Int} {LX : Nat} : ck_Ok p2_O X LX 171 p2_h138 := ck_ok_s ⟨p2_nmu, ck_E1 (ck_S1 p2_s1339_s ck_S0) ck_E0⟩ ck_X0 ck_l0 p2_h138_e
set_option maxRecDepth 100000 in
/-- GlacierMailLaw.hut -/
def p2_h139 : ck_Sum := ((9, 1, 6), 245, [.inr (.inr (.inl 1)), .inl (6, 2147483647, []), .inl ((-2147483648), 2147483647, []), .inr (.inr (.inl 245))], ([], [], []), ([], []), [(.inr (some (.inl (ck_one 1))), 245, ([], [], []))])
set_option maxRecDepth 100000 in
theorem p2_h139_e : ck_ok p2_O none [] [(172, [p2_s1340])] 171 [] 88 p2_h139 = true := by decide +kernel
theorem p2_h139_s {X : Int → Int} {LX : Nat} : ck_Ok p2_O X LX 171 p2_h139 := ck_ok_s ⟨p2_nmu, ck_E1 (ck_S1 p2_s1340_s ck_S0) ck_E0⟩ ck_X0 ck_l0 p2_h139_e
set_option maxRecDepth 100000 in
/-- GlacierMailLaw.hut -/
def p2_h140 : ck_Sum := ((9, 2, 12), 245, [.inr (.inr (.inl 1)), .inl (0, 5, []), .inl ((-2147483648), (-1), []), .inr (.inr (.inl 245))], ([], [], []), ([], []), [(.inr (some (.inl (ck_one 1))), 245, ([], [], [])), (.inr (some (.inl (ck_one 2))), 245, ([], [], []))])
set_option maxRecDepth 100000 in
theorem p2_h140_e : ck_ok p2_O none [] [(172, [p2_s1341])] 171 [] 88 p2_h140 = true := by decide +kernel
theorem p2_h140_s {X : Int → Int} {LX : Nat} : ck_Ok p2_O X LX 171 p2_h140 := ck_ok_s ⟨p2_nmu, ck_E1 (ck_S1 p2_s1341_s ck_S0) ck_E0⟩ ck_X0 ck_l0 p2_h140_e
set_option maxRecDepth 100000 in
/-- GlacierMailLaw.hut -/
def p2_h141 : ck_Sum := ((9, 2, 12), 245, [.inr (.inr (.inl 1)), .inl (0, 5, []), .inl (300, 2147483647, []), .inr (.inr (.inl 245))], ([], [], []), ([], []), [(.inr (some (.inl (ck_one 1))), 245, ([], [], [])), (.inr (some (.inl (ck_one 2))), 245, ([], [], []))])
set_option maxRecDepth 100000 in
theorem p2_h141_e : ck_ok p2_O none [] [(172, [p2_s1342])] 171 [] 88 p2_h141 = true := by decide +kernel
theorem p2_h141_s {X : Int → Int} {LX : Nat} : ck_Ok p2_O X LX 171 p2_h141 := ck_ok_s ⟨p2_nmu, ck_E1 (ck_S1 p2_s1342_s ck_S0) ck_E0⟩ ck_X0 ck_l0 p2_h141_e
set_option maxRecDepth 100000 in
/-- GlacierMailLaw.hut -/
def p2_h142 : ck_Sum := ((9, 2, 12), 245, [.inr (.inr (.inl 1)), .inl (0, 5, []), .inl (0, 299, []), .inr (.inr (.inl 245))], ([], [(3, 8, 0)], [(3, 6, 6, (0, 299, [(10, 0)]))]), ([(206, 2, 8), (245, 0, 0)], []), [(.inr (some (.inl (ck_one 1))), 245, ([], [], [])), (.inr (some (.inl (ck_one 0))), 245, ([], [], [(245, 0, 0, ((-1), 98, []))])), (.inr (some (.inl (ck_one 2))), 245, ([], [], []))])
set_option maxRecDepth 100000 in
theorem p2_h142_e : ck_ok p2_O none [] [(172, [p2_s1343])] 171 [] 92 p2_h142 = true := by decide +kernel
theorem p2_h142_s {X : Int → Int} {LX : Nat} : ck_Ok p2_O X LX 171 p2_h142 := ck_ok_s ⟨p2_nmu, ck_E1 (ck_S1 p2_s1343_s ck_S0) ck_E0⟩ ck_X0 ck_l0 p2_h142_e
set_option maxRecDepth 100000 in
/-- GlacierMailLaw.without -/
def p2_h143 : ck_Sum := ((9, 1, 6), 245, [.inr (.inr (.inl 1)), .inl ((-2147483648), (-1), []), .inl ((-2147483648), 2147483647, []), .inr (.inr (.inl 245))], ([], [], []), ([], []), [(.inr (some (.inl (ck_one 1))), 245, ([], [], []))])
set_option maxRecDepth 100000 in
theorem p2_h143_e : ck_ok p2_O none [] [(174, [p2_s1352])] 173 [] 88 p2_h143 = true := by decide +kernel
theorem p2_h143_s {X : Int → Int} {LX : Nat} : ck_Ok p2_O X LX 173 p2_h143 := ck_ok_s ⟨p2_nmu, ck_E1 (ck_S1 p2_s1352_s ck_S0) ck_E0⟩ ck_X0 ck_l0 p2_h143_e
set_option maxRecDepth 100000 in
/-- GlacierMailLaw.without -/
def p2_h144 : ck_Sum := ((9, 1, 6), 245, [.inr (.inr (.inl 1)), .inl (24, 2147483647, []), .inl ((-2147483648), 2147483647, []), .inr (.inr (.inl 245))], ([], [], []), ([], []), [(.inr (some (.inl (ck_one 1))), 245, ([], [], []))])
set_option maxRecDepth 100000 in
theorem p2_h144_e : ck_ok p2_O none [] [(174, [p2_s1353])] 173 [] 88 p2_h144 = true := by decide +kernel
theorem p2_h144_s {X : Int → Int} {LX : Nat} : ck_Ok p2_O X LX 173 p2_h144 := ck_ok_s ⟨p2_nmu, ck_E1 (ck_S1 p2_s1353_s ck_S0) ck_E0⟩ ck_X0 ck_l0 p2_h144_e
set_option maxRecDepth 100000 in
/-- GlacierMailLaw.without -/
def p2_h145 : ck_Sum := ((9, 2, 12), 245, [.inr (.inr (.inl 1)), .inl (0, 23, []), .inl ((-2147483648), (-1), []), .inr (.inr (.inl 245))], ([], [], []), ([], []), [(.inr (some (.inl (ck_one 1))), 245, ([], [], []))])
set_option maxRecDepth 100000 in
theorem p2_h145_e : ck_ok p2_O none [] [(174, [p2_s1354])] 173 [] 88 p2_h145 = true := by decide +kernel
theorem p2_h145_s {X : Int → Int} {LX : Nat} : ck_Ok p2_O X LX 173 p2_h145 := ck_ok_s ⟨p2_nmu, ck_E1 (ck_S1 p2_s1354_s ck_S0) ck_E0⟩ ck_X0 ck_l0 p2_h145_e
set_option maxRecDepth 100000 in
/-- GlacierMailLaw.without -/
def p2_h146 : ck_Sum := ((9, 2, 12), 245, [.inr (.inr (.inl 1)), .inl (0, 23, []), .inl (8, 2147483647, []), .inr (.inr (.inl 245))], ([], [], []), ([], []), [(.inr (some (.inl (ck_one 1))), 245, ([], [], []))])
set_option maxRecDepth 100000 in
theorem p2_h146_e : ck_ok p2_O none [] [(174, [p2_s1355])] 173 [] 88 p2_h146 = true := by decide +kernel
theorem p2_h146_s {X : Int → Int} {LX : Nat} : ck_Ok p2_O X LX 173 p2_h146 := ck_ok_s ⟨p2_nmu, ck_E1 (ck_S1 p2_s1355_s ck_S0) ck_E0⟩ ck_X0 ck_l0 p2_h146_e
set_option maxRecDepth 100000 in
/-- GlacierMailLaw.without -/
def p2_h147 : ck_Sum := ((9, 2, 12), 245, [.inr (.inr (.inl 1)), .inl (0, 23, []), .inl (0, 7, []), .inr (.inr (.inl 245))], ([], [(3, 8, 0)], []), ([(206, 2, 8), (245, 0, 0)], []), [(.inr (some (.inl (ck_one 1))), 245, ([], [], [])), (.inr (some (.inl (ck_one 0))), 245, ([], [], [(245, 0, 0, ((-2147483648), 299, [])), (206, 4, 4, (0, 7, [])), (206, 2, 2, ((-1), 299, []))]))])
set_option maxRecDepth 100000 in
theorem p2_h147_e : ck_ok p2_O none [] [(174, [p2_s1357])] 173 [] 92 p2_h147 = true := by decide +kernel
theorem p2_h147_s {X : Int → Int} {LX : Nat} : ck_Ok p2_O X LX 173 p2_h147 := ck_ok_s ⟨p2_nmu, ck_E1 (ck_S1 p2_s1357_s ck_S0) ck_E0⟩ ck_X0 ck_l0 p2_h147_e
set_option maxRecDepth 100000 in
/-- GlacierMailLaw.moved -/
def p2_h148 : ck_Sum := ((9, 1, 6), 245, [.inr (.inr (.inl 1)), .inl ((-2147483648), (-1), []), .inr (.inr (.inl 245))], ([], [], []), ([], []), [(.inr (some (.inl (ck_one 1))), 245, ([], [], []))])
set_option maxRecDepth 100000 in
theorem p2_h148_e : ck_ok p2_O none [] [(177, [p2_s1363])] 176 [] 86 p2_h148 = true := by decide +kernel
theorem p2_h148_s {X : Int → Int} {LX : Nat} : ck_Ok p2_O X LX 176 p2_h148 := ck_ok_s ⟨p2_nmu, ck_E1 (ck_S1 p2_s1363_s ck_S0) ck_E0⟩ ck_X0 ck_l0 p2_h148_e
set_option maxRecDepth 100000 in
/-- GlacierMailLaw.moved -/
def p2_h149 : ck_Sum := ((9, 1, 6), 245, [.inr (.inr (.inl 1)), .inl (24, 2147483647, []), .inr (.inr (.inl 245))], ([], [], []), ([], []), [(.inr (some (.inl (ck_one 1))), 245, ([], [], []))])
set_option maxRecDepth 100000 in
theorem p2_h149_e : ck_ok p2_O none [] [(177, [p2_s1364])] 176 [] 86 p2_h149 = true := by decide +kernel
theorem p2_h149_s {X : Int → Int} {LX : Nat} : ck_Ok p2_O X LX 176 p2_h149 := ck_ok_s ⟨p2_nmu, ck_E1 (ck_S1 p2_s1364_s ck_S0) ck_E0⟩ ck_X0 ck_l0 p2_h149_e
set_option maxRecDepth 100000 in
/-- GlacierMailLaw.moved -/
def p2_h150 : ck_Sum := ((9, 1, 6), 245, [.inr (.inr (.inl 1)), .inl (0, 23, []), .inr (.inr (.inl 245))], ([], [(3, 8, 0)], []), ([(206, 2, 8), (245, 0, 0)], []), [(.inr (some (.inl (ck_one 1))), 245, ([], [], [])), (.inr (some (.inl (ck_one 0))), 245, ([], [], [(206, 4, 4, ck_one (-1)), (206, 2, 2, ((-1), 299, []))]))])
set_option maxRecDepth 100000 in
theorem p2_h150_e : ck_ok p2_O none [] [(177, [p2_s1365])] 176 [] 90 p2_h150 = true := by decide +kernel
theorem p2_h150_s {X : Int → Int} {LX : Nat} : ck_Ok p2_O X LX 176 p2_h150 := ck_ok_s ⟨p2_nmu, ck_E1 (ck_S1 p2_s1365_s ck_S0) ck_E0⟩ ck_X0 ck_l0 p2_h150_e
set_option maxRecDepth 100000 in
/-- GlacierMailLaw.passes -/
def p2_h151 : ck_Sum := ((9, 1, 6), 245, [.inr (.inr (.inl 1)), .inl ((-2147483648), (-1), []), .inr (.inr (.inl 245))], ([], [], []), ([], []), [(.inr (some (.inl (ck_one 1))), 245, ([], [], []))])
set_option maxRecDepth 100000 in
theorem p2_h151_e : ck_ok p2_O none [] [(179, [p2_s1376])] 178 [] 86 p2_h151 = true := by decide +kernel
theorem p2_h151_s {X : Int → Int} {LX : Nat} : ck_Ok p2_O X LX 178 p2_h151 := ck_ok_s ⟨p2_nmu, ck_E1 (ck_S1 p2_s1376_s ck_S0) ck_E0⟩ ck_X0 ck_l0 p2_h151_e
set_option maxRecDepth 100000 in
/-- GlacierMailLaw.passes -/
def p2_h152 : ck_Sum := ((9, 1, 6), 245, [.inr (.inr (.inl 1)), .inl (24, 2147483647, []), .inr (.inr (.inl 245))], ([], [], []), ([], []), [(.inr (some (.inl (ck_one 1))), 245, ([], [], []))])
set_option maxRecDepth 100000 in
theorem p2_h152_e : ck_ok p2_O none [] [(179, [p2_s1377])] 178 [] 86 p2_h152 = true := by decide +kernel
theorem p2_h152_s {X : Int → Int} {LX : Nat} : ck_Ok p2_O X LX 178 p2_h152 := ck_ok_s ⟨p2_nmu, ck_E1 (ck_S1 p2_s1377_s ck_S0) ck_E0⟩ ck_X0 ck_l0 p2_h152_e
set_option maxRecDepth 100000 in
/-- GlacierMailLaw.passes -/
def p2_h153 : ck_Sum := ((9, 1, 6), 245, [.inr (.inr (.inl 1)), .inl (0, 23, []), .inr (.inr (.inl 245))], ([], [(3, 8, 0)], []), ([(206, 2, 8), (207, 2, 8), (245, 0, 0)], []), [(.inr (some (.inl (ck_one 1))), 245, ([], [], [])), (.inr (some (.inl (ck_one 0))), 245, ([], [], []))])
set_option maxRecDepth 100000 in
theorem p2_h153_e : ck_ok p2_O none [] [(179, [p2_s1391])] 178 [] 90 p2_h153 = true := by decide +kernel
theorem p2_h153_s {X : Int → Int} {LX : Nat} : ck_Ok p2_O X LX 178 p2_h153 := ck_ok_s ⟨p2_nmu, ck_E1 (ck_S1 p2_s1391_s ck_S0) ck_E0⟩ ck_X0 ck_l0 p2_h153_e
set_option maxRecDepth 100000 in
/-- GlacierMailLaw.writers -/
def p2_h154 : ck_Sum := ((9, 1, 6), 245, [.inr (.inr (.inl 1)), .inl ((-2147483648), (-1), []), .inl ((-2147483648), 2147483647, []), .inl ((-2147483648), 2147483647, []), .inr (.inr (.inl 245))], ([], [], []), ([], []), [(.inr (some (.inl (ck_one 1))), 245, ([], [], []))])
set_option maxRecDepth 100000 in
theorem p2_h154_e : ck_ok p2_O none [] [(186, [p2_s1399])] 185 [] 90 p2_h154 = true := by decide +kernel
theorem p2_h154_s {X : Int → Int} {LX : Nat} : ck_Ok p2_O X LX 185 p2_h154 := ck_ok_s ⟨p2_nmu, ck_E1 (ck_S1 p2_s1399_s ck_S0) ck_E0⟩ ck_X0 ck_l0 p2_h154_e
set_option maxRecDepth 100000 in
/-- GlacierMailLaw.writers -/
def p2_h155 : ck_Sum := ((9, 1, 6), 245, [.inr (.inr (.inl 1)), .inl (6, 2147483647, []), .inl ((-2147483648), 2147483647, []), .inl ((-2147483648), 2147483647, []), .inr (.inr (.inl 245))], ([], [], []), ([], []), [(.inr (some (.inl (ck_one 1))), 245, ([], [], []))])
set_option maxRecDepth 100000 in
theorem p2_h155_e : ck_ok p2_O none [] [(186, [p2_s1400])] 185 [] 90 p2_h155 = true := by decide +kernel
theorem p2_h155_s {X : Int → Int} {LX : Nat} : ck_Ok p2_O X LX 185 p2_h155 := ck_ok_s ⟨p2_nmu, ck_E1 (ck_S1 p2_s1400_s ck_S0) ck_E0⟩ ck_X0 ck_l0 p2_h155_e
set_option maxRecDepth 100000 in
/-- GlacierMailLaw.writers -/
def p2_h156 : ck_Sum := ((9, 2, 12), 245, [.inr (.inr (.inl 1)), .inl (0, 5, []), .inl ((-2147483648), (-1), []), .inl ((-2147483648), 2147483647, []), .inr (.inr (.inl 245))], ([], [], []), ([], []), [(.inr (some (.inl (ck_one 1))), 245, ([], [], [])), (.inr (some (.inl (ck_one 2))), 245, ([], [], []))])
set_option maxRecDepth 100000 in
theorem p2_h156_e : ck_ok p2_O none [] [(186, [p2_s1402])] 185 [] 90 p2_h156 = true := by decide +kernel
theorem p2_h156_s {X : Int → Int} {LX : Nat} : ck_Ok p2_O X LX 185 p2_h156 := ck_ok_s ⟨p2_nmu, ck_E1 (ck_S1 p2_s1402_s ck_S0) ck_E0⟩ ck_X0 ck_l0 p2_h156_e
set_option maxRecDepth 100000 in
/-- GlacierMailLaw.writers -/
def p2_h157 : ck_Sum := ((9, 2, 12), 245, [.inr (.inr (.inl 1)), .inl (0, 5, []), .inl (300, 2147483647, []), .inl ((-2147483648), 2147483647, []), .inr (.inr (.inl 245))], ([], [], []), ([], []), [(.inr (some (.inl (ck_one 1))), 245, ([], [], [])), (.inr (some (.inl (ck_one 2))), 245, ([], [], []))])
set_option maxRecDepth 100000 in
theorem p2_h157_e : ck_ok p2_O none [] [(186, [p2_s1404])] 185 [] 90 p2_h157 = true := by decide +kernel
theorem p2_h157_s {X : Int → Int} {LX : Nat} : ck_Ok p2_O X LX 185 p2_h157 := ck_ok_s ⟨p2_nmu, ck_E1 (ck_S1 p2_s1404_s ck_S0) ck_E0⟩ ck_X0 ck_l0 p2_h157_e
set_option maxRecDepth 100000 in
/-- GlacierMailLaw.writers -/
def p2_h158 : ck_Sum := ((9, 2, 12), 245, [.inr (.inr (.inl 1)), .inl (0, 5, []), .inl (0, 299, []), .inl ((-2147483648), (-1), []), .inr (.inr (.inl 245))], ([], [], []), ([], []), [(.inr (some (.inl (ck_one 1))), 245, ([], [], [])), (.inr (some (.inl (ck_one 2))), 245, ([], [], []))])
set_option maxRecDepth 100000 in
theorem p2_h158_e : ck_ok p2_O none [] [(186, [p2_s1406])] 185 [] 90 p2_h158 = true := by decide +kernel
theorem p2_h158_s {X : Int → Int} {LX : Nat} : ck_Ok p2_O X LX 185 p2_h158 := ck_ok_s ⟨p2_nmu, ck_E1 (ck_S1 p2_s1406_s ck_S0) ck_E0⟩ ck_X0 ck_l0 p2_h158_e
set_option maxRecDepth 100000 in
/-- GlacierMailLaw.writers -/
def p2_h159 : ck_Sum := ((9, 2, 12), 245, [.inr (.inr (.inl 1)), .inl (0, 5, []), .inl (0, 299, []), .inl (100, 2147483647, []), .inr (.inr (.inl 245))], ([], [], []), ([], []), [(.inr (some (.inl (ck_one 1))), 245, ([], [], [])), (.inr (some (.inl (ck_one 2))), 245, ([], [], []))])
set_option maxRecDepth 100000 in
theorem p2_h159_e : ck_ok p2_O none [] [(186, [p2_s1408])] 185 [] 90 p2_h159 = true := by decide +kernel
theorem p2_h159_s {X : Int → Int} {LX : Nat} : ck_Ok p2_O X LX 185 p2_h159 := ck_ok_s ⟨p2_nmu, ck_E1 (ck_S1 p2_s1408_s ck_S0) ck_E0⟩ ck_X0 ck_l0 p2_h159_e
set_option maxRecDepth 100000 in
/-- GlacierMailLaw.writers -/
def p2_h160 : ck_Sum := ((9, 1, 6), 245, [.inr (.inr (.inl 1)), .inl (0, 5, []), .inl (0, 299, []), .inl (0, 99, []), .inr (.inr (.inl 245))], ([], [(3, 8, 0)], []), ([(206, 2, 8), (245, 0, 0)], []), [(.inr (some (.inl (ck_one 1))), 245, ([], [], [])), (.inr (some (.inl (ck_one 0))), 245, ([], [], []))])
set_option maxRecDepth 100000 in
theorem p2_h160_e : ck_ok p2_O none [] [(186, [p2_s1411])] 185 [] 94 p2_h160 = true := by decide +kernel
theorem p2_h160_s {X : Int → Int} {LX : Nat} : ck_Ok p2_O X LX 185 p2_h160 := ck_ok_s ⟨p2_nmu, ck_E1 (ck_S1 p2_s1411_s ck_S0) ck_E0⟩ ck_X0 ck_l0 p2_h160_e
set_option maxRecDepth 100000 in
/-- GlacierMailLaw.wrote -/
def p2_h161 : ck_Sum := ((9, 1, 6), 245, [.inr (.inr (.inl 1)), .inl ((-2147483648), (-1), []), .inl ((-2147483648), 2147483647, []), .inl ((-2147483648), 2147483647, []), .inl ((-2147483648), 2147483647, []), .inr (.inr (.inl 245))], ([], [], []), ([], []), [(.inr (some (.inl (ck_one 1))), 245, ([], [], []))])
set_option maxRecDepth 100000 in
theorem p2_h161_e : ck_ok p2_O none [] [(190, [p2_s1423])] 189 [] 92 p2_h161 = true := by decide +kernel
theorem p2_h161_s {X : Int → Int} {LX : Nat} : ck_Ok p2_O X LX 189 p2_h161 := ck_ok_s ⟨p2_nmu, ck_E1 (ck_S1 p2_s1423_s ck_S0) ck_E0⟩ ck_X0 ck_l0 p2_h161_e
set_option maxRecDepth 100000 in
/-- GlacierMailLaw.wrote -/
def p2_h162 : ck_Sum := ((9, 1, 6), 245, [.inr (.inr (.inl 1)), .inl (8, 2147483647, []), .inl ((-2147483648), 2147483647, []), .inl ((-2147483648), 2147483647, []), .inl ((-2147483648), 2147483647, []), .inr (.inr (.inl 245))], ([], [], []), ([], []), [(.inr (some (.inl (ck_one 1))), 245, ([], [], []))])
set_option maxRecDepth 100000 in
theorem p2_h162_e : ck_ok p2_O none [] [(190, [p2_s1424])] 189 [] 92 p2_h162 = true := by decide +kernel
theorem p2_h162_s {X : Int → Int} {LX : Nat} : ck_Ok p2_O X LX 189 p2_h162 := ck_ok_s ⟨p2_nmu, ck_E1 (ck_S1 p2_s1424_s ck_S0) ck_E0⟩ ck_X0 ck_l0 p2_h162_e
set_option maxRecDepth 100000 in
/-- GlacierMailLaw.wrote -/
def p2_h163 : ck_Sum := ((9, 2, 12), 245, [.inr (.inr (.inl 1)), .inl (0, 7, []), .inl ((-2147483648), (-1), []), .inl ((-2147483648), 2147483647, []), .inl ((-2147483648), 2147483647, []), .inr (.inr (.inl 245))], ([], [], []), ([], []), [(.inr (some (.inl (ck_one 1))), 245, ([], [], []))])
set_option maxRecDepth 100000 in
theorem p2_h163_e : ck_ok p2_O none [] [(190, [p2_s1425])] 189 [] 92 p2_h163 = true := by decide +kernel
theorem p2_h163_s {X : Int → Int} {LX : Nat} : ck_Ok p2_O X LX 189 p2_h163 := ck_ok_s ⟨p2_nmu, ck_E1 (ck_S1 p2_s1425_s ck_S0) ck_E0⟩ ck_X0 ck_l0 p2_h163_e
set_option maxRecDepth 100000 in
/-- GlacierMailLaw.wrote -/
def p2_h164 : ck_Sum := ((9, 2, 12), 245, [.inr (.inr (.inl 1)), .inl (0, 7, []), .inl (6, 2147483647, []), .inl ((-2147483648), 2147483647, []), .inl ((-2147483648), 2147483647, []), .inr (.inr (.inl 245))], ([], [], []), ([], []), [(.inr (some (.inl (ck_one 1))), 245, ([], [], []))])
set_option maxRecDepth 100000 in
theorem p2_h164_e : ck_ok p2_O none [] [(190, [p2_s1426])] 189 [] 92 p2_h164 = true := by decide +kernel
theorem p2_h164_s {X : Int → Int} {LX : Nat} : ck_Ok p2_O X LX 189 p2_h164 := ck_ok_s ⟨p2_nmu, ck_E1 (ck_S1 p2_s1426_s ck_S0) ck_E0⟩ ck_X0 ck_l0 p2_h164_e
set_option maxRecDepth 100000 in
/-- GlacierMailLaw.wrote -/
def p2_h165 : ck_Sum := ((9, 3, 18), 245, [.inr (.inr (.inl 1)), .inl (0, 7, []), .inl (0, 5, []), .inl ((-2147483648), (-1), []), .inl ((-2147483648), 2147483647, []), .inr (.inr (.inl 245))], ([], [], []), ([], []), [(.inr (some (.inl (ck_one 1))), 245, ([], [], [])), (.inr (some (.inl (ck_one 2))), 245, ([], [], []))])
set_option maxRecDepth 100000 in
theorem p2_h165_e : ck_ok p2_O none [] [(190, [p2_s1427])] 189 [] 92 p2_h165 = true := by decide +kernel
theorem p2_h165_s {X : Int → Int} {LX : Nat} : ck_Ok p2_O X LX 189 p2_h165 := ck_ok_s ⟨p2_nmu, ck_E1 (ck_S1 p2_s1427_s ck_S0) ck_E0⟩ ck_X0 ck_l0 p2_h165_e
set_option maxRecDepth 100000 in
/-- GlacierMailLaw.wrote -/
def p2_h166 : ck_Sum := ((9, 3, 18), 245, [.inr (.inr (.inl 1)), .inl (0, 7, []), .inl (0, 5, []), .inl (300, 2147483647, []), .inl ((-2147483648), 2147483647, []), .inr (.inr (.inl 245))], ([], [], []), ([], []), [(.inr (some (.inl (ck_one 1))), 245, ([], [], [])), (.inr (some (.inl (ck_one 2))), 245, ([], [], []))])
set_option maxRecDepth 100000 in
theorem p2_h166_e : ck_ok p2_O none [] [(190, [p2_s1428])] 189 [] 92 p2_h166 = true := by decide +kernel
theorem p2_h166_s {X : Int → Int} {LX : Nat} : ck_Ok p2_O X LX 189 p2_h166 := ck_ok_s ⟨p2_nmu, ck_E1 (ck_S1 p2_s1428_s ck_S0) ck_E0⟩ ck_X0 ck_l0 p2_h166_e
set_option maxRecDepth 100000 in
/-- GlacierMailLaw.wrote -/
def p2_h167 : ck_Sum := ((9, 3, 18), 245, [.inr (.inr (.inl 1)), .inl (0, 7, []), .inl (0, 5, []), .inl (0, 299, []), .inl ((-2147483648), (-1), []), .inr (.inr (.inl 245))], ([], [], []), ([], []), [(.inr (some (.inl (ck_one 1))), 245, ([], [], [])), (.inr (some (.inl (ck_one 2))), 245, ([], [], []))])
set_option maxRecDepth 100000 in
theorem p2_h167_e : ck_ok p2_O none [] [(190, [p2_s1429])] 189 [] 92 p2_h167 = true := by decide +kernel
theorem p2_h167_s {X : Int → Int} {LX : Nat} : ck_Ok p2_O X LX 189 p2_h167 := ck_ok_s ⟨p2_nmu, ck_E1 (ck_S1 p2_s1429_s ck_S0) ck_E0⟩ ck_X0 ck_l0 p2_h167_e
set_option maxRecDepth 100000 in
/-- GlacierMailLaw.wrote -/
def p2_h168 : ck_Sum := ((9, 3, 18), 245, [.inr (.inr (.inl 1)), .inl (0, 7, []), .inl (0, 5, []), .inl (0, 299, []), .inl (100, 2147483647, []), .inr (.inr (.inl 245))], ([], [], []), ([], []), [(.inr (some (.inl (ck_one 1))), 245, ([], [], [])), (.inr (some (.inl (ck_one 2))), 245, ([], [], []))])
set_option maxRecDepth 100000 in
theorem p2_h168_e : ck_ok p2_O none [] [(190, [p2_s1430])] 189 [] 92 p2_h168 = true := by decide +kernel
theorem p2_h168_s {X : Int → Int} {LX : Nat} : ck_Ok p2_O X LX 189 p2_h168 := ck_ok_s ⟨p2_nmu, ck_E1 (ck_S1 p2_s1430_s ck_S0) ck_E0⟩ ck_X0 ck_l0 p2_h168_e
set_option maxRecDepth 100000 in
/-- GlacierMailLaw.wrote -/
def p2_h169 : ck_Sum := ((9, 2, 12), 245, [.inr (.inr (.inl 1)), .inl (0, 7, []), .inl (0, 5, []), .inl (0, 299, []), .inl (0, 99, []), .inr (.inr (.inl 245))], ([], [(3, 8, 0)], []), ([(206, 2, 8), (245, 0, 0)], []), [(.inr (some (.inl (ck_one 1))), 245, ([], [], [])), (.inr (some (.inl (ck_one 0))), 245, ([], [], [(245, 0, 0, ((-1), 298, []))]))])
set_option maxRecDepth 100000 in
theorem p2_h169_e : ck_ok p2_O none [] [(190, [p2_s1431])] 189 [] 96 p2_h169 = true := by decide +kernel
theorem p2_h169_s {X : Int → Int} {LX : Nat} : ck_Ok p2_O X LX 189 p2_h169 := ck_ok_s ⟨p2_nmu, ck_E1 (ck_S1 p2_s1431_s ck_S0) ck_E0⟩ ck_X0 ck_l0 p2_h169_e
set_option maxRecDepth 100000 in
/-- GlacierMailLaw.table -/
def p2_h170 : ck_Sum := ((9, 1, 6), 245, [.inr (.inr (.inl 1)), .inl ((-2147483648), (-1), []), .inl ((-2147483648), 2147483647, []), .inr (.inr (.inl 245))], ([], [], []), ([], []), [(.inr (some (.inl (ck_one 1))), 245, ([], [], []))])
set_option maxRecDepth 100000 in
theorem p2_h170_e : ck_ok p2_O none [] [(192, [p2_s1444])] 191 [] 88 p2_h170 = true := by decide +kernel
theorem p2_h170_s {X : Int → Int} {LX : Nat} : ck_Ok p2_O X LX 191 p2_h170 := ck_ok_s ⟨p2_nmu, ck_E1 (ck_S1 p2_s1444_s ck_S0) ck_E0⟩ ck_X0 ck_l0 p2_h170_e
set_option maxRecDepth 100000 in
/-- GlacierMailLaw.table -/
def p2_h171 : ck_Sum := ((9, 1, 6), 245, [.inr (.inr (.inl 1)), .inl (6, 2147483647, []), .inl ((-2147483648), 2147483647, []), .inr (.inr (.inl 245))], ([], [], []), ([], []), [(.inr (some (.inl (ck_one 1))), 245, ([], [], []))])
set_option maxRecDepth 100000 in
theorem p2_h171_e : ck_ok p2_O none [] [(192, [p2_s1447])] 191 [] 88 p2_h171 = true := by decide +kernel
theorem p2_h171_s {X : Int → Int} {LX : Nat} : ck_Ok p2_O X LX 191 p2_h171 := ck_ok_s ⟨p2_nmu, ck_E1 (ck_S1 p2_s1447_s ck_S0) ck_E0⟩ ck_X0 ck_l0 p2_h171_e
set_option maxRecDepth 100000 in
/-- GlacierMailLaw.table -/
def p2_h172 : ck_Sum := ((9, 2, 12), 245, [.inr (.inr (.inl 1)), .inl (0, 5, []), .inl ((-2147483648), (-1), []), .inr (.inr (.inl 245))], ([], [], []), ([], []), [(.inr (some (.inl (ck_one 1))), 245, ([], [], []))])
set_option maxRecDepth 100000 in
theorem p2_h172_e : ck_ok p2_O none [] [(192, [p2_s1450])] 191 [] 88 p2_h172 = true := by decide +kernel
theorem p2_h172_s {X : Int → Int} {LX : Nat} : ck_Ok p2_O X LX 191 p2_h172 := ck_ok_s ⟨p2_nmu, ck_E1 (ck_S1 p2_s1450_s ck_S0) ck_E0⟩ ck_X0 ck_l0 p2_h172_e
set_option maxRecDepth 100000 in
/-- GlacierMailLaw.table -/
def p2_h173 : ck_Sum := ((9, 2, 12), 245, [.inr (.inr (.inl 1)), .inl (0, 5, []), .inl (6, 2147483647, []), .inr (.inr (.inl 245))], ([], [], []), ([], []), [(.inr (some (.inl (ck_one 1))), 245, ([], [], []))])
set_option maxRecDepth 100000 in
theorem p2_h173_e : ck_ok p2_O none [] [(192, [p2_s1451])] 191 [] 88 p2_h173 = true := by decide +kernel
theorem p2_h173_s {X : Int → Int} {LX : Nat} : ck_Ok p2_O X LX 191 p2_h173 := ck_ok_s ⟨p2_nmu, ck_E1 (ck_S1 p2_s1451_s ck_S0) ck_E0⟩ ck_X0 ck_l0 p2_h173_e
set_option maxRecDepth 100000 in
/-- GlacierMailLaw.table -/
def p2_h174 : ck_Sum := ((9, 2, 12), 245, [.inr (.inr (.inl 1)), .inl (0, 5, []), .inl (0, 5, []), .inr (.inr (.inl 245))], ([], [], []), ([(245, 0, 0)], []), [(.inr (some (.inl (ck_one 1))), 245, ([], [], [])), (.inr (some (.inl (ck_one 0))), 245, ([], [], [(245, 0, 0, ((-1), 20, []))]))])
set_option maxRecDepth 100000 in
theorem p2_h174_e : ck_ok p2_O none [] [(192, [p2_s1453])] 191 [] 92 p2_h174 = true := by decide +kernel
theorem p2_h174_s {X : Int → Int} {LX : Nat} : ck_Ok p2_O X LX 191 p2_h174 := ck_ok_s ⟨p2_nmu, ck_E1 (ck_S1 p2_s1453_s ck_S0) ck_E0⟩ ck_X0 ck_l0 p2_h174_e
set_option maxRecDepth 100000 in
/-- GlacierMailLaw.apart -/
def p2_h175 : ck_Sum := ((9, 1, 6), 245, [.inr (.inr (.inl 1)), .inl ((-2147483648), (-1), []), .inl ((-2147483648), 2147483647, []), .inl ((-2147483648), 2147483647, []), .inr (.inr (.inl 245))], ([], [], []), ([], []), [(.inr (some (.inl (ck_one 1))), 245, ([], [], []))])
set_option maxRecDepth 100000 in
theorem p2_h175_e : ck_ok p2_O none [] [(195, [p2_s1463])] 194 [] 90 p2_h175 = true := by decide +kernel
theorem p2_h175_s {X : Int → Int} {LX : Nat} : ck_Ok p2_O X LX 194 p2_h175 := ck_ok_s ⟨p2_nmu, ck_E1 (ck_S1 p2_s1463_s ck_S0) ck_E0⟩ ck_X0 ck_l0 p2_h175_e
set_option maxRecDepth 100000 in
/-- GlacierMailLaw.apart -/
def p2_h176 : ck_Sum := ((9, 1, 6), 245, [.inr (.inr (.inl 1)), .inl (6, 2147483647, []), .inl ((-2147483648), 2147483647, []), .inl ((-2147483648), 2147483647, []), .inr (.inr (.inl 245))], ([], [], []), ([], []), [(.inr (some (.inl (ck_one 1))), 245, ([], [], []))])
set_option maxRecDepth 100000 in
theorem p2_h176_e : ck_ok p2_O none [] [(195, [p2_s1464])] 194 [] 90 p2_h176 = true := by decide +kernel
theorem p2_h176_s {X : Int → Int} {LX : Nat} : ck_Ok p2_O X LX 194 p2_h176 := ck_ok_s ⟨p2_nmu, ck_E1 (ck_S1 p2_s1464_s ck_S0) ck_E0⟩ ck_X0 ck_l0 p2_h176_e
set_option maxRecDepth 100000 in
/-- GlacierMailLaw.apart -/
def p2_h177 : ck_Sum := ((9, 2, 12), 245, [.inr (.inr (.inl 1)), .inl (0, 5, []), .inl ((-2147483648), (-1), []), .inl ((-2147483648), 2147483647, []), .inr (.inr (.inl 245))], ([], [], []), ([], []), [(.inr (some (.inl (ck_one 1))), 245, ([], [], []))])
set_option maxRecDepth 100000 in
theorem p2_h177_e : ck_ok p2_O none [] [(195, [p2_s1465])] 194 [] 90 p2_h177 = true := by decide +kernel
theorem p2_h177_s {X : Int → Int} {LX : Nat} : ck_Ok p2_O X LX 194 p2_h177 := ck_ok_s ⟨p2_nmu, ck_E1 (ck_S1 p2_s1465_s ck_S0) ck_E0⟩ ck_X0 ck_l0 p2_h177_e
set_option maxRecDepth 100000 in
/-- GlacierMailLaw.apart -/
def p2_h178 : ck_Sum := ((9, 2, 12), 245, [.inr (.inr (.inl 1)), .inl (0, 5, []), .inl (6, 2147483647, []), .inl ((-2147483648), 2147483647, []), .inr (.inr (.inl 245))], ([], [], []), ([], []), [(.inr (some (.inl (ck_one 1))), 245, ([], [], []))])
set_option maxRecDepth 100000 in
theorem p2_h178_e : ck_ok p2_O none [] [(195, [p2_s1466])] 194 [] 90 p2_h178 = true := by decide +kernel
theorem p2_h178_s {X : Int → Int} {LX : Nat} : ck_Ok p2_O X LX 194 p2_h178 := ck_ok_s ⟨p2_nmu, ck_E1 (ck_S1 p2_s1466_s ck_S0) ck_E0⟩ ck_X0 ck_l0 p2_h178_e
set_option maxRecDepth 100000 in
/-- GlacierMailLaw.apart -/
def p2_h179 : ck_Sum := ((9, 2, 12), 245, [.inr (.inr (.inl 1)), .inl (0, 5, []), .inl (0, 5, []), .inl ((-2147483648), 2147483647, []), .inr (.inr (.inl 245))], ([], [], []), ([(245, 0, 0)], []), [(.inr (some (.inl (ck_one 1))), 245, ([], [], [])), (.inr (some (.inl (ck_one 0))), 245, ([], [], [(245, 0, 0, (0, 1, []))]))])
set_option maxRecDepth 100000 in
theorem p2_h179_e : ck_ok p2_O none [] [(195, [p2_s1468])] 194 [] 98 p2_h179 = true := by decide +kernel
theorem p2_h179_s {X : Int → Int} {LX : Nat} : ck_Ok p2_O X LX 194 p2_h179 := ck_ok_s ⟨p2_nmu, ck_E1 (ck_S1 p2_s1468_s ck_S0) ck_E0⟩ ck_X0 ck_l0 p2_h179_e
set_option maxRecDepth 100000 in
/-- GlacierMailLaw.fit -/
def p2_h180 : ck_Sum := ((7, 1, 6), 245, [.inr (.inr (.inl 1)), .inr (.inr (.inl 245))], ([], [], [(1, 1, 1, (0, 400, [(6, 0)]))]), ([(1, 1, 1), (245, 0, 0)], []), [(.inr (some (.inl (ck_one 1))), 245, ([], [], [(1, 1, 1, ck_one 0)])), (.inr (some (.inl (ck_one 0))), 245, ([], [], [(1, 1, 1, ck_one 0)]))])
set_option maxRecDepth 100000 in
theorem p2_h180_e : ck_ok p2_O none [] [(197, [p2_s1482])] 196 [] 88 p2_h180 = true := by decide +kernel
theorem p2_h180_s {X : Int → Int} {LX : Nat} : ck_Ok p2_O X LX 196 p2_h180 := ck_ok_s ⟨p2_nmu, ck_E1 (ck_S1 p2_s1482_s ck_S0) ck_E0⟩ ck_X0 ck_l0 p2_h180_e
set_option maxRecDepth 100000 in
/-- GlacierMailLaw.soonest -/
def p2_h181 : ck_Sum := ((9, 1, 6), 245, [.inr (.inr (.inl 1)), .inl ((-2147483648), (-1), []), .inl ((-2147483648), 2147483647, []), .inl (0, 1, []), .inr (.inr (.inl 245))], ([], [], []), ([], []), [(.inr (some (.inl (ck_one 1))), 245, ([], [], []))])
set_option maxRecDepth 100000 in
theorem p2_h181_e : ck_ok p2_O none [] [(201, [p2_s1488])] 200 [] 90 p2_h181 = true := by decide +kernel
theorem p2_h181_s {X : Int → Int} {LX : Nat} : ck_Ok p2_O X LX 200 p2_h181 := ck_ok_s ⟨p2_nmu, ck_E1 (ck_S1 p2_s1488_s ck_S0) ck_E0⟩ ck_X0 ck_l0 p2_h181_e
set_option maxRecDepth 100000 in
/-- GlacierMailLaw.soonest -/
def p2_h182 : ck_Sum := ((9, 1, 6), 245, [.inr (.inr (.inl 1)), .inl (8, 2147483647, []), .inl ((-2147483648), 2147483647, []), .inl (0, 1, []), .inr (.inr (.inl 245))], ([], [], []), ([], []), [(.inr (some (.inl (ck_one 1))), 245, ([], [], []))])
set_option maxRecDepth 100000 in
theorem p2_h182_e : ck_ok p2_O none [] [(201, [p2_s1489])] 200 [] 90 p2_h182 = true := by decide +kernel
theorem p2_h182_s {X : Int → Int} {LX : Nat} : ck_Ok p2_O X LX 200 p2_h182 := ck_ok_s ⟨p2_nmu, ck_E1 (ck_S1 p2_s1489_s ck_S0) ck_E0⟩ ck_X0 ck_l0 p2_h182_e
set_option maxRecDepth 100000 in
/-- GlacierMailLaw.soonest -/
def p2_h183 : ck_Sum := ((9, 2, 12), 245, [.inr (.inr (.inl 1)), .inl (0, 7, []), .inl ((-2147483648), (-1), []), .inl (0, 1, []), .inr (.inr (.inl 245))], ([], [], []), ([], []), [(.inr (some (.inl (ck_one 1))), 245, ([], [], []))])
set_option maxRecDepth 100000 in
theorem p2_h183_e : ck_ok p2_O none [] [(201, [p2_s1490])] 200 [] 90 p2_h183 = true := by decide +kernel
theorem p2_h183_s {X : Int → Int} {LX : Nat} : ck_Ok p2_O X LX 200 p2_h183 := ck_ok_s ⟨p2_nmu, ck_E1 (ck_S1 p2_s1490_s ck_S0) ck_E0⟩ ck_X0 ck_l0 p2_h183_e
set_option maxRecDepth 100000 in
/-- GlacierMailLaw.soonest -/
def p2_h184 : ck_Sum := ((9, 2, 12), 245, [.inr (.inr (.inl 1)), .inl (0, 7, []), .inl (8, 2147483647, []), .inl (0, 1, []), .inr (.inr (.inl 245))], ([], [], []), ([], []), [(.inr (some (.inl (ck_one 1))), 245, ([], [], []))])
set_option maxRecDepth 100000 in
theorem p2_h184_e : ck_ok p2_O none [] [(201, [p2_s1491])] 200 [] 90 p2_h184 = true := by decide +kernel
theorem p2_h184_s {X : Int → Int} {LX : Nat} : ck_Ok p2_O X LX 200 p2_h184 := ck_ok_s ⟨p2_nmu, ck_E1 (ck_S1 p2_s1491_s ck_S0) ck_E0⟩ ck_X0 ck_l0 p2_h184_e
set_option maxRecDepth 100000 in
/-- GlacierMailLaw.soonest -/
def p2_h185 : ck_Sum := ((9, 3, 18), 245, [.inr (.inr (.inl 1)), .inl (0, 7, []), .inl (0, 7, []), .inl (0, 1, []), .inr (.inr (.inl 245))], ([], [(3, 8, 0)], [(3, 6, 6, (0, 299, [(10, 0)]))]), ([(206, 2, 8), (209, 3, 3), (210, 0, 2399), (211, 3, 3), (212, 0, 2399), (245, 0, 0)], []), [(.inr (some (.inl (ck_one 1))), 245, ([], [], [])), (.inr (some (.inl (ck_one 0))), 245, ([], [], [(206, 4, 4, ck_one (-1))])), (.inr (some (.inl (ck_one 2))), 245, ([], [], []))])
set_option maxRecDepth 100000 in
theorem p2_h185_e : ck_ok p2_O none [] [(201, [p2_s1506])] 200 [] 94 p2_h185 = true := by decide +kernel
theorem p2_h185_s {X : Int → Int} {LX : Nat} : ck_Ok p2_O X LX 200 p2_h185 := ck_ok_s ⟨p2_nmu, ck_E1 (ck_S1 p2_s1506_s ck_S0) ck_E0⟩ ck_X0 ck_l0 p2_h185_e
set_option maxRecDepth 100000 in
/-- GlacierMailLaw.chain -/
def p2_h186 : ck_Sum := ((9, 1, 6), 245, [.inr (.inr (.inl 1)), .inl ((-2147483648), (-1), []), .inl ((-2147483648), 2147483647, []), .inl ((-2147483648), 2147483647, []), .inr (.inr (.inl 245))], ([], [], []), ([], []), [(.inr (some (.inl (ck_one 1))), 245, ([], [], []))])
set_option maxRecDepth 100000 in
theorem p2_h186_e : ck_ok p2_O none [] [(207, [p2_s1516])] 206 [] 90 p2_h186 = true := by decide +kernel
theorem p2_h186_s {X : Int → Int} {LX : Nat} : ck_Ok p2_O X LX 206 p2_h186 := ck_ok_s ⟨p2_nmu, ck_E1 (ck_S1 p2_s1516_s ck_S0) ck_E0⟩ ck_X0 ck_l0 p2_h186_e
set_option maxRecDepth 100000 in
/-- GlacierMailLaw.chain -/
def p2_h187 : ck_Sum := ((9, 1, 6), 245, [.inr (.inr (.inl 1)), .inl (8, 2147483647, []), .inl ((-2147483648), 2147483647, []), .inl ((-2147483648), 2147483647, []), .inr (.inr (.inl 245))], ([], [], []), ([], []), [(.inr (some (.inl (ck_one 1))), 245, ([], [], []))])
set_option maxRecDepth 100000 in
theorem p2_h187_e : ck_ok p2_O none [] [(207, [p2_s1517])] 206 [] 90 p2_h187 = true := by decide +kernel
theorem p2_h187_s {X : Int → Int} {LX : Nat} : ck_Ok p2_O X LX 206 p2_h187 := ck_ok_s ⟨p2_nmu, ck_E1 (ck_S1 p2_s1517_s ck_S0) ck_E0⟩ ck_X0 ck_l0 p2_h187_e
set_option maxRecDepth 100000 in
/-- GlacierMailLaw.chain -/
def p2_h188 : ck_Sum := ((9, 2, 12), 245, [.inr (.inr (.inl 1)), .inl (0, 7, []), .inl ((-2147483648), (-1), []), .inl ((-2147483648), 2147483647, []), .inr (.inr (.inl 245))], ([], [], []), ([], []), [(.inr (some (.inl (ck_one 1))), 245, ([], [], []))])
set_option maxRecDepth 100000 in
theorem p2_h188_e : ck_ok p2_O none [] [(207, [p2_s1518])] 206 [] 90 p2_h188 = true := by decide +kernel
theorem p2_h188_s {X : Int → Int} {LX : Nat} : ck_Ok p2_O X LX 206 p2_h188 := ck_ok_s ⟨p2_nmu, ck_E1 (ck_S1 p2_s1518_s ck_S0) ck_E0⟩ ck_X0 ck_l0 p2_h188_e
set_option maxRecDepth 100000 in
/-- GlacierMailLaw.chain -/
def p2_h189 : ck_Sum := ((9, 2, 12), 245, [.inr (.inr (.inl 1)), .inl (0, 7, []), .inl (8, 2147483647, []), .inl ((-2147483648), 2147483647, []), .inr (.inr (.inl 245))], ([], [], []), ([], []), [(.inr (some (.inl (ck_one 1))), 245, ([], [], []))])
set_option maxRecDepth 100000 in
theorem p2_h189_e : ck_ok p2_O none [] [(207, [p2_s1519])] 206 [] 90 p2_h189 = true := by decide +kernel
theorem p2_h189_s {X : Int → Int} {LX : Nat} : ck_Ok p2_O X LX 206 p2_h189 := ck_ok_s ⟨p2_nmu, ck_E1 (ck_S1 p2_s1519_s ck_S0) ck_E0⟩ ck_X0 ck_l0 p2_h189_e
set_option maxRecDepth 100000 in
/-- GlacierMailLaw.chain -/
def p2_h190 : ck_Sum := ((9, 4, 24), 245, [.inr (.inr (.inl 1)), .inl (0, 7, []), .inl (0, 7, []), .inl ((-2147483648), 0, []), .inr (.inr (.inl 245))], ([], [(3, 8, 0)], [(3, 6, 6, (0, 299, [(10, 0)]))]), ([(206, 2, 8), (209, 3, 3), (210, 0, 2399), (211, 3, 3), (212, 0, 2399), (245, 0, 0)], []), [(.inr (some (.inl (ck_one 1))), 245, ([], [], [])), (.inr (some (.inl (ck_one 0))), 245, ([], [], [(245, 0, 0, ((-1), 7, [])), (206, 4, 4, ck_one (-1))])), (.inr (some (.inl (ck_one 2))), 245, ([], [], []))])
set_option maxRecDepth 100000 in
theorem p2_h190_e : ck_ok p2_O none [] [(207, [p2_s1523])] 206 [] 94 p2_h190 = true := by decide +kernel
theorem p2_h190_s {X : Int → Int} {LX : Nat} : ck_Ok p2_O X LX 206 p2_h190 := ck_ok_s ⟨p2_nmu, ck_E1 (ck_S1 p2_s1523_s ck_S0) ck_E0⟩ ck_X0 ck_l0 p2_h190_e
set_option maxRecDepth 100000 in
/-- GlacierMailLaw.chain -/
def p2_h191 : ck_Sum := ((9, 3, 18), 245, [.inr (.inr (.inl 1)), .inl (0, 7, []), .inl (0, 7, []), .inl (51, 2147483647, []), .inr (.inr (.inl 245))], ([], [(3, 8, 0)], [(3, 6, 6, (0, 299, [(10, 0)]))]), ([(206, 2, 8), (209, 3, 3), (210, 0, 2399), (211, 3, 3), (212, 0, 2399), (245, 0, 0)], []), [(.inr (some (.inl (ck_one 1))), 245, ([], [], [])), (.inr (some (.inl (ck_one 0))), 245, ([], [], [(245, 0, 0, ((-1), 2398, [])), (206, 4, 4, ck_one (-1))])), (.inr (some (.inl (ck_one 2))), 245, ([], [], []))])
set_option maxRecDepth 100000 in
theorem p2_h191_e : ck_ok p2_O none [] [(207, [p2_s1526])] 206 [] 94 p2_h191 = true := by decide +kernel
theorem p2_h191_s {X : Int → Int} {LX : Nat} : ck_Ok p2_O X LX 206 p2_h191 := ck_ok_s ⟨p2_nmu, ck_E1 (ck_S1 p2_s1526_s ck_S0) ck_E0⟩ ck_X0 ck_l0 p2_h191_e
set_option maxRecDepth 100000 in
/-- GlacierMailLaw.chain -/
def p2_h192 : ck_Sum := ((9, 3, 18), 245, [.inr (.inr (.inl 1)), .inl (0, 7, []), .inl (0, 7, []), .inl (1, 50, []), .inr (.inr (.inl 245))], ([], [(3, 8, 0)], [(3, 6, 6, (0, 299, [(10, 0)]))]), ([(206, 2, 8), (209, 3, 3), (210, 0, 2399), (211, 3, 3), (212, 0, 2399), (245, 0, 0)], []), [(.inr (some (.inl (ck_one 1))), 245, ([], [], [])), (.inr (some (.inl (ck_one 0))), 245, ([], [], [(245, 0, 0, ((-1), 2398, [])), (206, 4, 4, ck_one (-1))])), (.inr (some (.inl (ck_one 2))), 245, ([], [], []))])
set_option maxRecDepth 100000 in
theorem p2_h192_e : ck_ok p2_O none [] [(207, [p2_s1528])] 206 [] 94 p2_h192 = true := by decide +kernel
theorem p2_h192_s {X : Int → Int} {LX : Nat} : ck_Ok p2_O X LX 206 p2_h192 := ck_ok_s ⟨p2_nmu, ck_E1 (ck_S1 p2_s1528_s ck_S0) ck_E0⟩ ck_X0 ck_l0 p2_h192_e
set_option maxRecDepth 100000 in
/-- GlacierMailLaw.reached -/
def p2_h193 : ck_Sum := ((9, 1, 6), 245, [.inr (.inr (.inl 1)), .inl ((-2147483648), (-1), []), .inl ((-2147483648), 2147483647, []), .inr (.inr (.inl 245))], ([], [], []), ([], []), [(.inr (some (.inl (ck_one 1))), 245, ([], [], []))])
set_option maxRecDepth 100000 in
theorem p2_h193_e : ck_ok p2_O none [] [(211, [p2_s1541])] 210 [] 88 p2_h193 = true := by decide +kernel
theorem p2_h193_s {X : Int → Int} {LX : Nat} : ck_Ok p2_O X LX 210 p2_h193 := ck_ok_s ⟨p2_nmu, ck_E1 (ck_S1 p2_s1541_s ck_S0) ck_E0⟩ ck_X0 ck_l0 p2_h193_e
set_option maxRecDepth 100000 in
/-- GlacierMailLaw.reached -/
def p2_h194 : ck_Sum := ((9, 1, 6), 245, [.inr (.inr (.inl 1)), .inl (8, 2147483647, []), .inl ((-2147483648), 2147483647, []), .inr (.inr (.inl 245))], ([], [], []), ([], []), [(.inr (some (.inl (ck_one 1))), 245, ([], [], []))])
set_option maxRecDepth 100000 in
theorem p2_h194_e : ck_ok p2_O none [] [(211, [p2_s1542])] 210 [] 88 p2_h194 = true := by decide +kernel
theorem p2_h194_s {X : Int → Int} {LX : Nat} : ck_Ok p2_O X LX 210 p2_h194 := ck_ok_s ⟨p2_nmu, ck_E1 (ck_S1 p2_s1542_s ck_S0) ck_E0⟩ ck_X0 ck_l0 p2_h194_e
set_option maxRecDepth 100000 in
/-- GlacierMailLaw.reached -/
def p2_h195 : ck_Sum := ((9, 2, 12), 245, [.inr (.inr (.inl 1)), .inl (0, 7, []), .inl ((-2147483648), (-1), []), .inr (.inr (.inl 245))], ([], [], []), ([], []), [(.inr (some (.inl (ck_one 1))), 245, ([], [], [])), (.inr (some (.inl (ck_one 2))), 245, ([], [], []))])
set_option maxRecDepth 100000 in
theorem p2_h195_e : ck_ok p2_O none [] [(211, [p2_s1543])] 210 [] 88 p2_h195 = true := by decide +kernel
theorem p2_h195_s {X : Int → Int} {LX : Nat} : ck_Ok p2_O X LX 210 p2_h195 := ck_ok_s ⟨p2_nmu, ck_E1 (ck_S1 p2_s1543_s ck_S0) ck_E0⟩ ck_X0 ck_l0 p2_h195_e
set_option maxRecDepth 100000 in
/-- GlacierMailLaw.reached -/
def p2_h196 : ck_Sum := ((9, 2, 12), 245, [.inr (.inr (.inl 1)), .inl (0, 7, []), .inl (300, 2147483647, []), .inr (.inr (.inl 245))], ([], [], []), ([], []), [(.inr (some (.inl (ck_one 1))), 245, ([], [], [])), (.inr (some (.inl (ck_one 2))), 245, ([], [], []))])
set_option maxRecDepth 100000 in
theorem p2_h196_e : ck_ok p2_O none [] [(211, [p2_s1544])] 210 [] 88 p2_h196 = true := by decide +kernel
theorem p2_h196_s {X : Int → Int} {LX : Nat} : ck_Ok p2_O X LX 210 p2_h196 := ck_ok_s ⟨p2_nmu, ck_E1 (ck_S1 p2_s1544_s ck_S0) ck_E0⟩ ck_X0 ck_l0 p2_h196_e
set_option maxRecDepth 100000 in
/-- GlacierMailLaw.reached -/
def p2_h197 : ck_Sum := ((9, 1, 6), 245, [.inr (.inr (.inl 1)), .inl (0, 7, []), .inl (0, 299, []), .inr (.inr (.inl 245))], ([], [(3, 8, 0)], [(3, 6, 6, (0, 299, [(10, 0)]))]), ([(206, 2, 8), (209, 3, 3), (210, 0, 2399), (211, 3, 3), (212, 0, 2399), (245, 0, 0)], []), [(.inr (some (.inl (ck_one 1))), 245, ([], [], [])), (.inr (some (.inl (ck_one 0))), 245, ([], [], [(206, 4, 4, ck_one (-1))]))])
set_option maxRecDepth 100000 in
theorem p2_h197_e : ck_ok p2_O none [] [(211, [p2_s1548])] 210 [] 92 p2_h197 = true := by decide +kernel
theorem p2_h197_s {X : Int → Int} {LX : Nat} : ck_Ok p2_O X LX 210 p2_h197 := ck_ok_s ⟨p2_nmu, ck_E1 (ck_S1 p2_s1548_s ck_S0) ck_E0⟩ ck_X0 ck_l0 p2_h197_e
set_option maxRecDepth 100000 in
/-- GlacierMailLaw.thieves -/
def p2_h198 : ck_Sum := ((8, 1, 6), 245, [.inr (.inr (.inl 1)), .inl ((-2147483648), (-1), []), .inl (0, 1, []), .inr (.inr (.inl 245))], ([], [], []), ([], []), [(.inr (some (.inl (ck_one 1))), 245, ([], [], []))])
set_option maxRecDepth 100000 in
theorem p2_h198_e : ck_ok p2_O none [] [(213, [p2_s1555])] 212 [] 88 p2_h198 = true := by decide +kernel
theorem p2_h198_s {X : Int → Int} {LX : Nat} : ck_Ok p2_O X LX 212 p2_h198 := ck_ok_s ⟨p2_nmu, ck_E1 (ck_S1 p2_s1555_s ck_S0) ck_E0⟩ ck_X0 ck_l0 p2_h198_e
set_option maxRecDepth 100000 in
/-- GlacierMailLaw.thieves -/
def p2_h199 : ck_Sum := ((8, 1, 6), 245, [.inr (.inr (.inl 1)), .inl (31, 2147483647, []), .inl (0, 1, []), .inr (.inr (.inl 245))], ([], [], []), ([], []), [(.inr (some (.inl (ck_one 1))), 245, ([], [], []))])
set_option maxRecDepth 100000 in
theorem p2_h199_e : ck_ok p2_O none [] [(213, [p2_s1557])] 212 [] 88 p2_h199 = true := by decide +kernel
theorem p2_h199_s {X : Int → Int} {LX : Nat} : ck_Ok p2_O X LX 212 p2_h199 := ck_ok_s ⟨p2_nmu, ck_E1 (ck_S1 p2_s1557_s ck_S0) ck_E0⟩ ck_X0 ck_l0 p2_h199_e
set_option maxRecDepth 100000 in
/-- GlacierMailLaw.thieves -/
def p2_h200 : ck_Sum := ((8, 1, 6), 245, [.inr (.inr (.inl 1)), .inl (0, 30, []), .inl (0, 1, []), .inr (.inr (.inl 245))], ([], [(3, 8, 0)], [(3, 6, 6, (0, 299, [(10, 0)]))]), ([(1, 15, 15), (206, 2, 8), (220, 3, 3), (221, 0, 47), (222, 3, 3), (223, 0, 179), (224, 3, 3), (225, 0, 185), (245, 0, 0)], []), [(.inr (some (.inl (ck_one 1))), 245, ([], [], [])), (.inr (some (.inl (ck_one 0))), 245, ([], [], [(224, 3, 3, (1, 31, [])), (1, 15, 15, ck_one 1)]))])
set_option maxRecDepth 100000 in
theorem p2_h200_e : ck_ok p2_O none [] [(213, [p2_s1569])] 212 [] 92 p2_h200 = true := by decide +kernel
theorem p2_h200_s {X : Int → Int} {LX : Nat} : ck_Ok p2_O X LX 212 p2_h200 := ck_ok_s ⟨p2_nmu, ck_E1 (ck_S1 p2_s1569_s ck_S0) ck_E0⟩ ck_X0 ck_l0 p2_h200_e
set_option maxRecDepth 100000 in
/-- GlacierMailLaw.watchman -/
def p2_h201 : ck_Sum := ((8, 1, 6), 245, [.inr (.inr (.inl 1)), .inl ((-2147483648), (-1), []), .inl (0, 1, []), .inr (.inr (.inl 245))], ([], [], []), ([], []), [(.inr (some (.inl (ck_one 1))), 245, ([], [], []))])
set_option maxRecDepth 100000 in
theorem p2_h201_e : ck_ok p2_O none [] [(218, [p2_s1583])] 217 [] 88 p2_h201 = true := by decide +kernel
theorem p2_h201_s {X : Int → Int} {LX : Nat} : ck_Ok p2_O X LX 217 p2_h201 := ck_ok_s ⟨p2_nmu, ck_E1 (ck_S1 p2_s1583_s ck_S0) ck_E0⟩ ck_X0 ck_l0 p2_h201_e
set_option maxRecDepth 100000 in
/-- GlacierMailLaw.watchman -/
def p2_h202 : ck_Sum := ((8, 1, 6), 245, [.inr (.inr (.inl 1)), .inl (31, 2147483647, []), .inl (0, 1, []), .inr (.inr (.inl 245))], ([], [], []), ([], []), [(.inr (some (.inl (ck_one 1))), 245, ([], [], []))])
set_option maxRecDepth 100000 in
theorem p2_h202_e : ck_ok p2_O none [] [(218, [p2_s1584])] 217 [] 88 p2_h202 = true := by decide +kernel
theorem p2_h202_s {X : Int → Int} {LX : Nat} : ck_Ok p2_O X LX 217 p2_h202 := ck_ok_s ⟨p2_nmu, ck_E1 (ck_S1 p2_s1584_s ck_S0) ck_E0⟩ ck_X0 ck_l0 p2_h202_e
set_option maxRecDepth 100000 in
/-- GlacierMailLaw.watchman -/
def p2_h203 : ck_Sum := ((8, 1, 6), 245, [.inr (.inr (.inl 1)), .inl (0, 30, []), .inl (0, 1, []), .inr (.inr (.inl 245))], ([], [(3, 8, 0)], [(3, 6, 6, (0, 299, [(10, 0)]))]), ([(1, 15, 15), (206, 2, 8), (220, 3, 3), (221, 0, 47), (222, 3, 3), (223, 0, 179), (245, 0, 0)], []), [(.inr (some (.inl (ck_one 1))), 245, ([], [], [])), (.inr (some (.inl (ck_one 0))), 245, ([], [], [(245, 0, 0, (0, 2147483647, [])), (1, 15, 15, ck_one 1)]))])
set_option maxRecDepth 100000 in
theorem p2_h203_e : ck_ok p2_O none [] [(218, [p2_s1587])] 217 [] 92 p2_h203 = true := by decide +kernel
theorem p2_h203_s {X : Int → Int} {LX : Nat} : ck_Ok p2_O X LX 217 p2_h203 := ck_ok_s ⟨p2_nmu, ck_E1 (ck_S1 p2_s1587_s ck_S0) ck_E0⟩ ck_X0 ck_l0 p2_h203_e
