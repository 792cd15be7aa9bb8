/-! years, on a new object: laid by wip/am/p1g.py. -/
set_option maxRecDepth 100000 in
def p15x_133 : ck_Sum := ((6, 1, 6), 245, [.inr (.inr (.inl 1)), .inl ((-2147483648), 0, none)], ([], [], []), ([], []), [(.inl 0, 245, ([], [], []))])
set_option maxRecDepth 100000 in
theorem p15x_133_e : ck_ok p1_O none [] [] 161 [] 78 p15x_133 = true := by decide +kernel
theorem p15x_133_s {X : Int → Int} {LX : Nat} : ck_Ok p1_O X LX 161 p15x_133 := ck_ok_s (ck_E0) ck_X0 ck_l0 p15x_133_e
set_option maxRecDepth 100000 in
def p15x_134 : ck_Sum := ((7, 1, 6), 245, [.inr (.inr (.inl 1)), .inl ((-2147483648), 0, none), .inr (.inr (.inl 245))], ([], [], []), ([], []), [(.inr (some (.inl (ck_one 1))), 245, ([], [], []))])
set_option maxRecDepth 100000 in
theorem p15x_134_e : ck_ok p1_O none [] [(161, [p15x_133])] 160 [] 86 p15x_134 = true := by decide +kernel
theorem p15x_134_s {X : Int → Int} {LX : Nat} : ck_Ok p1_O X LX 160 p15x_134 := ck_ok_s (ck_E1 (ck_S1 p15x_133_s ck_S0) ck_E0) ck_X0 ck_l0 p15x_134_e
set_option maxRecDepth 100000 in
def p15x_139 : ck_Sum := ((0, 0, 0), 245, [.inr (.inr (.inl 42)), .inl (ck_one 0)], ([], [], []), ([], []), [(.inr (some (.inr (.inr (.inl 44)))), 245, ([], [], []))])
set_option maxRecDepth 100000 in
theorem p15x_139_e : ck_ok p1_O none [] [] 56 [] 96 p15x_139 = true := by decide +kernel
theorem p15x_139_s {X : Int → Int} {LX : Nat} : ck_Ok p1_O X LX 56 p15x_139 := ck_ok_s (ck_E0) ck_X0 ck_l0 p15x_139_e
set_option maxRecDepth 100000 in
def p15x_140 : ck_Sum := ((1, 0, 0), 245, [.inr (.inr (.inl 45)), .inr (.inr (.inl 4))], ([], [], [(4, 3, 3, ck_one 0)]), ([(45, 3, 3), (46, 0, 55)], []), [(.inr none, 245, ([], [], [(45, 3, 3, ((-2147483648), 0, none))]))])
set_option maxRecDepth 100000 in
theorem p15x_140_e : ck_ok p1_O none [] [] 58 [] 114 p15x_140 = true := by decide +kernel
theorem p15x_140_s {X : Int → Int} {LX : Nat} : ck_Ok p1_O X LX 58 p15x_140 := ck_ok_s (ck_E0) ck_X0 ck_l0 p15x_140_e
set_option maxRecDepth 100000 in
def p15x_141 : ck_Sum := ((1, 0, 0), 245, [.inr (.inr (.inl 47)), .inr (.inr (.inl 6))], ([], [], [(6, 3, 3, ck_one 0)]), ([(47, 3, 3), (48, 0, 23)], []), [(.inr none, 245, ([], [], [(47, 3, 3, ((-2147483648), 0, none))]))])
set_option maxRecDepth 100000 in
theorem p15x_141_e : ck_ok p1_O none [] [] 58 [] 114 p15x_141 = true := by decide +kernel
theorem p15x_141_s {X : Int → Int} {LX : Nat} : ck_Ok p1_O X LX 58 p15x_141 := ck_ok_s (ck_E0) ck_X0 ck_l0 p15x_141_e
set_option maxRecDepth 100000 in
def p15x_142 : ck_Sum := ((1, 0, 0), 245, [.inr (.inr (.inl 49)), .inr (.inr (.inl 8))], ([], [], [(8, 3, 3, ck_one 0)]), ([(49, 3, 3), (50, 0, 23)], []), [(.inr none, 245, ([], [], [(49, 3, 3, ((-2147483648), 0, none))]))])
set_option maxRecDepth 100000 in
theorem p15x_142_e : ck_ok p1_O none [] [] 58 [] 114 p15x_142 = true := by decide +kernel
theorem p15x_142_s {X : Int → Int} {LX : Nat} : ck_Ok p1_O X LX 58 p15x_142 := ck_ok_s (ck_E0) ck_X0 ck_l0 p15x_142_e
set_option maxRecDepth 100000 in
def p15x_143 : ck_Sum := ((1, 0, 0), 245, [.inr (.inr (.inl 51)), .inr (.inr (.inl 10))], ([], [], [(10, 3, 3, ck_one 0)]), ([(51, 3, 3), (52, 0, 167)], []), [(.inr none, 245, ([], [], [(51, 3, 3, ((-2147483648), 0, none))]))])
set_option maxRecDepth 100000 in
theorem p15x_143_e : ck_ok p1_O none [] [] 58 [] 114 p15x_143 = true := by decide +kernel
theorem p15x_143_s {X : Int → Int} {LX : Nat} : ck_Ok p1_O X LX 58 p15x_143 := ck_ok_s (ck_E0) ck_X0 ck_l0 p15x_143_e
set_option maxRecDepth 100000 in
def p15x_144 : ck_Sum := ((1, 0, 0), 245, [.inr (.inr (.inl 53)), .inr (.inr (.inl 12))], ([], [], [(12, 3, 3, ck_one 0)]), ([(53, 3, 3), (54, 0, 35)], []), [(.inr none, 245, ([], [], [(53, 3, 3, ((-2147483648), 0, none))]))])
set_option maxRecDepth 100000 in
theorem p15x_144_e : ck_ok p1_O none [] [] 58 [] 114 p15x_144 = true := by decide +kernel
theorem p15x_144_s {X : Int → Int} {LX : Nat} : ck_Ok p1_O X LX 58 p15x_144 := ck_ok_s (ck_E0) ck_X0 ck_l0 p15x_144_e
set_option maxRecDepth 100000 in
def p15x_145 : ck_Sum := ((1, 0, 0), 245, [.inr (.inr (.inl 55)), .inr (.inr (.inl 14))], ([], [], [(14, 3, 3, ck_one 0)]), ([(55, 3, 3), (56, 0, 71)], []), [(.inr none, 245, ([], [], [(55, 3, 3, ((-2147483648), 0, none))]))])
set_option maxRecDepth 100000 in
theorem p15x_145_e : ck_ok p1_O none [] [] 58 [] 114 p15x_145 = true := by decide +kernel
theorem p15x_145_s {X : Int → Int} {LX : Nat} : ck_Ok p1_O X LX 58 p15x_145 := ck_ok_s (ck_E0) ck_X0 ck_l0 p15x_145_e
set_option maxRecDepth 100000 in
def p15x_146 : ck_Sum := ((2, 0, 0), 245, [.inr (.inr (.inl 44)), .inr (.inr (.inl 3))], ([], [(3, 8, 0)], [(14, 3, 3, ck_one 0), (12, 3, 3, ck_one 0), (10, 3, 3, ck_one 0), (8, 3, 3, ck_one 0), (6, 3, 3, ck_one 0), (4, 3, 3, ck_one 0), (3, 7, 7, ck_one 0), (3, 6, 6, ck_one 0), (3, 5, 5, ck_one 1), (3, 4, 4, ck_one 3), (3, 3, 3, ck_one 2), (3, 2, 2, ck_one 10), (3, 1, 1, ck_one 40), (3, 0, 0, ck_one 3)]), ([(44, 0, 7), (45, 3, 3), (46, 0, 55), (47, 3, 3), (48, 0, 23), (49, 3, 3), (50, 0, 23), (51, 3, 3), (52, 0, 167), (53, 3, 3), (54, 0, 35), (55, 3, 3), (56, 0, 71)], [(44, 8)]), [(.inr none, 245, ([], [(44, 8, 0)], [(55, 3, 3, ((-2147483648), 0, none)), (53, 3, 3, ((-2147483648), 0, none)), (51, 3, 3, ((-2147483648), 0, none)), (49, 3, 3, ((-2147483648), 0, none)), (47, 3, 3, ((-2147483648), 0, none)), (45, 3, 3, ((-2147483648), 0, none)), (44, 7, 7, ck_one 0), (44, 6, 6, ck_one 0), (44, 5, 5, ck_one 1), (44, 4, 4, ck_one 3), (44, 3, 3, ck_one 2), (44, 2, 2, ck_one 10), (44, 1, 1, ck_one 40), (44, 0, 0, ck_one 3)]))])
set_option maxRecDepth 100000 in
theorem p15x_146_e : ck_ok p1_O none [] [(58, [p15x_140, p15x_141, p15x_142, p15x_143, p15x_144, p15x_145])] 57 [] 204 p15x_146 = true := by decide +kernel
theorem p15x_146_s {X : Int → Int} {LX : Nat} : ck_Ok p1_O X LX 57 p15x_146 := ck_ok_s (ck_E1 (ck_S1 p15x_140_s (ck_S1 p15x_141_s (ck_S1 p15x_142_s (ck_S1 p15x_143_s (ck_S1 p15x_144_s (ck_S1 p15x_145_s ck_S0)))))) ck_E0) ck_X0 ck_l0 p15x_146_e
set_option maxRecDepth 100000 in
def p15x_147 : ck_Sum := ((3, 0, 0), 245, [.inr (.inr (.inl 42)), .inr (.inr (.inl 3))], ([], [(3, 8, 0)], [(42, 2, 2, ck_one 0), (42, 1, 1, ck_one 0), (14, 3, 3, ck_one 0), (12, 3, 3, ck_one 0), (10, 3, 3, ck_one 0), (8, 3, 3, ck_one 0), (6, 3, 3, ck_one 0), (4, 3, 3, ck_one 0), (3, 7, 7, ck_one 0), (3, 6, 6, ck_one 0), (3, 5, 5, ck_one 1), (3, 4, 4, ck_one 3), (3, 3, 3, ck_one 2), (3, 2, 2, ck_one 10), (3, 1, 1, ck_one 40), (3, 0, 0, ck_one 3)]), ([(42, 1, 2), (44, 0, 7), (45, 3, 3), (46, 0, 55), (47, 3, 3), (48, 0, 23), (49, 3, 3), (50, 0, 23), (51, 3, 3), (52, 0, 167), (53, 3, 3), (54, 0, 35), (55, 3, 3), (56, 0, 71)], [(44, 8)]), [(.inr none, 245, ([], [(44, 8, 0)], [(42, 2, 2, ck_one 1), (42, 1, 1, ck_one 1), (55, 3, 3, ((-2147483648), 0, none)), (53, 3, 3, ((-2147483648), 0, none)), (51, 3, 3, ((-2147483648), 0, none)), (49, 3, 3, ((-2147483648), 0, none)), (47, 3, 3, ((-2147483648), 0, none)), (45, 3, 3, ((-2147483648), 0, none)), (44, 7, 7, ck_one 0), (44, 6, 6, ck_one 0), (44, 5, 5, ck_one 1), (44, 4, 4, ck_one 3), (44, 3, 3, ck_one 2), (44, 2, 2, ck_one 10), (44, 1, 1, ck_one 40), (44, 0, 0, ck_one 3)]))])
set_option maxRecDepth 100000 in
theorem p15x_147_e : ck_ok p1_O none [] [(56, [p15x_139]), (57, [p15x_146])] 154 [] 124 p15x_147 = true := by decide +kernel
theorem p15x_147_s {X : Int → Int} {LX : Nat} : ck_Ok p1_O X LX 154 p15x_147 := ck_ok_s (ck_E1 (ck_S1 p15x_139_s ck_S0) (ck_E1 (ck_S1 p15x_146_s ck_S0) ck_E0)) ck_X0 ck_l0 p15x_147_e
set_option maxRecDepth 100000 in
def p15x_148 : ck_Sum := ((0, 0, 0), 245, [.inr (.inr (.inl 10))], ([], [], [(10, 3, 3, ck_one 0)]), ([], []), [(.inr (some (.inl (ck_one 0))), 245, ([], [], []))])
set_option maxRecDepth 100000 in
theorem p15x_148_e : ck_ok p1_O none [] [] 9 [] 76 p15x_148 = true := by decide +kernel
theorem p15x_148_s {X : Int → Int} {LX : Nat} : ck_Ok p1_O X LX 9 p15x_148 := ck_ok_s (ck_E0) ck_X0 ck_l0 p15x_148_e
set_option maxRecDepth 100000 in
def p15x_151 : ck_Sum := ((0, 0, 0), 245, [.inr (.inr (.inl 220))], ([], [], [(220, 3, 3, ck_one 0)]), ([], []), [(.inr (some (.inl (ck_one 0))), 245, ([], [], []))])
set_option maxRecDepth 100000 in
theorem p15x_151_e : ck_ok p1_O none [] [] 9 [] 76 p15x_151 = true := by decide +kernel
theorem p15x_151_s {X : Int → Int} {LX : Nat} : ck_Ok p1_O X LX 9 p15x_151 := ck_ok_s (ck_E0) ck_X0 ck_l0 p15x_151_e
set_option maxRecDepth 100000 in
def p15x_149 : ck_Sum := ((0, 0, 0), 245, [.inr (.inr (.inl 221)), .inl (ck_one 0)], ([], [], []), ([(221, 0, 47)], []), [(.inr none, 245, ([], [], []))])
set_option maxRecDepth 100000 in
theorem p15x_149_e : ck_ok p1_O none [] [] 8 [(5, [some (.inr (.inr (.inl 221))), some (.inl (ck_one 0)), some (.inl (0, 48, none)), some (.inl (ck_one 48))], ([], [], []), 100, .inl 2, true)] 130 p15x_149 = true := by decide +kernel
theorem p15x_149_s {X : Int → Int} {LX : Nat} : ck_Ok p1_O X LX 8 p15x_149 := ck_ok_s (ck_E0) ck_X0 ck_l0 p15x_149_e
set_option maxRecDepth 100000 in
def p15x_150 : ck_Sum := ((1, 0, 0), 245, [.inr (.inr (.inl 220)), .inl (ck_one 0)], ([], [], [(220, 0, 0, ck_one 24)]), ([(220, 3, 3), (221, 0, 47)], []), [(.inr none, 245, ([], [], [(220, 3, 3, ck_one 0)]))])
set_option maxRecDepth 100000 in
theorem p15x_150_e : ck_ok p1_O none [] [(8, [p15x_149])] 25 [] 96 p15x_150 = true := by decide +kernel
theorem p15x_150_s {X : Int → Int} {LX : Nat} : ck_Ok p1_O X LX 25 p15x_150 := ck_ok_s (ck_E1 (ck_S1 p15x_149_s ck_S0) ck_E0) ck_X0 ck_l0 p15x_150_e
set_option maxRecDepth 100000 in
def p15x_152 : ck_Sum := ((2, 0, 0), 245, [.inr (.inr (.inl 1))], ([], [], [(1, 15, 15, ck_one 0), (220, 0, 0, ck_one 24), (220, 3, 3, ck_one 0), (10, 3, 3, ck_one 0)]), ([(1, 15, 15), (220, 3, 3), (221, 0, 47)], []), [(.inr none, 245, ([], [], [(1, 15, 15, ck_one 1), (220, 3, 3, ck_one 0)]))])
set_option maxRecDepth 100000 in
theorem p15x_152_e : ck_ok p1_O none [] [(9, [p15x_148, p15x_151]), (25, [p15x_150])] 24 [(27, [some (.inr (.inr (.inl 1))), some (.inl (ck_one 0))], ([], [], [(220, 3, 3, ck_one 0), (1, 15, 15, ck_one 0), (220, 0, 0, ck_one 24), (10, 3, 3, ck_one 0)]), 100, .inl 1, true)] 142 p15x_152 = true := by decide +kernel
theorem p15x_152_s {X : Int → Int} {LX : Nat} : ck_Ok p1_O X LX 24 p15x_152 := ck_ok_s (ck_E1 (ck_S1 p15x_148_s (ck_S1 p15x_151_s ck_S0)) (ck_E1 (ck_S1 p15x_150_s ck_S0) ck_E0)) ck_X0 ck_l0 p15x_152_e
set_option maxRecDepth 100000 in
def p15x_237 : ck_Sum := ((1, 0, 0), 245, [.inr (.inr (.inl 1))], ([], [], [(10, 3, 3, ck_one 0)]), ([(3, 6, 6)], []), [(.inr (some (.inl (ck_one 0))), 245, ([], [], []))])
set_option maxRecDepth 100000 in
theorem p15x_237_e : ck_ok p1_O none [] [(9, [p15x_148])] 162 [(17, [some (.inr (.inr (.inl 1))), some (.inl (ck_one 0)), some (.inl (ck_one 0)), none], ([], [], [(10, 3, 3, ck_one 0)]), 100, .inl 1, true)] 138 p15x_237 = true := by decide +kernel
theorem p15x_237_s {X : Int → Int} {LX : Nat} : ck_Ok p1_O X LX 162 p15x_237 := ck_ok_s (ck_E1 (ck_S1 p15x_148_s ck_S0) ck_E0) ck_X0 ck_l0 p15x_237_e
set_option maxRecDepth 100000 in
def p15x_238 : ck_Sum := ((4, 0, 0), 245, [.inr (.inr (.inl 1)), .inl (1, 50, none)], ([], [(3, 8, 0), (44, 8, 0)], [(1, 15, 15, ck_one 0), (220, 0, 0, ck_one 24), (220, 3, 3, ck_one 0), (42, 2, 2, ck_one 0), (42, 1, 1, ck_one 0), (14, 3, 3, ck_one 0), (12, 3, 3, ck_one 0), (10, 3, 3, ck_one 0), (8, 3, 3, ck_one 0), (6, 3, 3, ck_one 0), (4, 3, 3, ck_one 0), (3, 7, 7, ck_one 0), (3, 6, 6, ck_one 0), (3, 5, 5, ck_one 1), (3, 4, 4, ck_one 3), (3, 3, 3, ck_one 2), (3, 2, 2, ck_one 10), (3, 1, 1, ck_one 40), (3, 0, 0, ck_one 3)]), ([(1, 15, 15), (3, 6, 6), (42, 1, 2), (44, 0, 7), (45, 3, 3), (46, 0, 55), (47, 3, 3), (48, 0, 23), (49, 3, 3), (50, 0, 23), (51, 3, 3), (52, 0, 167), (53, 3, 3), (54, 0, 35), (55, 3, 3), (56, 0, 71), (220, 3, 3), (221, 0, 47)], [(44, 8)]), [(.inr (some (.inl (ck_one 0))), 245, ([], [(44, 8, 0)], [(1, 15, 15, ck_one 1), (220, 3, 3, ck_one 0), (42, 2, 2, ck_one 1), (42, 1, 1, ck_one 1), (55, 3, 3, ((-2147483648), 0, none)), (53, 3, 3, ((-2147483648), 0, none)), (51, 3, 3, ((-2147483648), 0, none)), (49, 3, 3, ((-2147483648), 0, none)), (47, 3, 3, ((-2147483648), 0, none)), (45, 3, 3, ((-2147483648), 0, none)), (44, 7, 7, ck_one 0), (44, 6, 6, ck_one 0), (44, 5, 5, ck_one 1), (44, 4, 4, ck_one 3), (44, 3, 3, ck_one 2), (44, 2, 2, ck_one 10), (44, 1, 1, ck_one 40), (44, 0, 0, ck_one 3)]))])
set_option maxRecDepth 100000 in
theorem p15x_238_e : ck_ok p1_O none [] [(154, [p15x_147]), (24, [p15x_152]), (162, [p15x_237])] 161 [(56, [some (.inr (.inr (.inl 1))), some (.inl (1, 50, none)), some (.inl (ck_one 0)), some (.inl (0, 50, none))], ([], [(3, 8, 0), (44, 8, 0)], [(1, 15, 15, ck_one 1), (220, 3, 3, ck_one 0), (42, 2, 2, ck_one 1), (42, 1, 1, ck_one 1), (55, 3, 3, ((-2147483648), 0, none)), (53, 3, 3, ((-2147483648), 0, none)), (51, 3, 3, ((-2147483648), 0, none)), (49, 3, 3, ((-2147483648), 0, none)), (47, 3, 3, ((-2147483648), 0, none)), (45, 3, 3, ((-2147483648), 0, none)), (44, 7, 7, ck_one 0), (44, 6, 6, ck_one 0), (44, 5, 5, ck_one 1), (44, 4, 4, ck_one 3), (44, 3, 3, ck_one 2), (44, 2, 2, ck_one 10), (44, 1, 1, ck_one 40), (44, 0, 0, ck_one 3), (220, 0, 0, ck_one 24), (14, 3, 3, ck_one 0), (12, 3, 3, ck_one 0), (10, 3, 3, ck_one 0), (8, 3, 3, ck_one 0), (6, 3, 3, ck_one 0), (4, 3, 3, ck_one 0), (3, 7, 7, ck_one 0), (3, 5, 5, ck_one 1), (3, 4, 4, ck_one 3), (3, 3, 3, ck_one 2), (3, 2, 2, ck_one 10), (3, 1, 1, ck_one 40), (3, 0, 0, ck_one 3)]), 100, .inl 3, true)] 190 p15x_238 = true := by decide +kernel
theorem p15x_238_s {X : Int → Int} {LX : Nat} : ck_Ok p1_O X LX 161 p15x_238 := ck_ok_s (ck_E1 (ck_S1 p15x_147_s ck_S0) (ck_E1 (ck_S1 p15x_152_s ck_S0) (ck_E1 (ck_S1 p15x_237_s ck_S0) ck_E0))) ck_X0 ck_l0 p15x_238_e
set_option maxRecDepth 100000 in
def p15x_239 : ck_Sum := ((5, 0, 0), 245, [.inr (.inr (.inl 1)), .inl (1, 50, none), .inr (.inr (.inl 245))], ([], [(3, 8, 0), (44, 8, 0)], [(1, 15, 15, ck_one 0), (220, 0, 0, ck_one 24), (220, 3, 3, ck_one 0), (42, 2, 2, ck_one 0), (42, 1, 1, ck_one 0), (14, 3, 3, ck_one 0), (12, 3, 3, ck_one 0), (10, 3, 3, ck_one 0), (8, 3, 3, ck_one 0), (6, 3, 3, ck_one 0), (4, 3, 3, ck_one 0), (3, 7, 7, ck_one 0), (3, 6, 6, ck_one 0), (3, 5, 5, ck_one 1), (3, 4, 4, ck_one 3), (3, 3, 3, ck_one 2), (3, 2, 2, ck_one 10), (3, 1, 1, ck_one 40), (3, 0, 0, ck_one 3)]), ([(1, 15, 15), (3, 6, 6), (42, 1, 2), (44, 0, 7), (45, 3, 3), (46, 0, 55), (47, 3, 3), (48, 0, 23), (49, 3, 3), (50, 0, 23), (51, 3, 3), (52, 0, 167), (53, 3, 3), (54, 0, 35), (55, 3, 3), (56, 0, 71), (220, 3, 3), (221, 0, 47), (245, 0, 0)], [(44, 8)]), [(.inr (some (.inl (ck_one 0))), 245, ([], [(44, 8, 0)], [(245, 0, 0, ck_one 0), (1, 15, 15, ck_one 1), (220, 3, 3, ck_one 0), (42, 2, 2, ck_one 1), (42, 1, 1, ck_one 1), (55, 3, 3, ((-2147483648), 0, none)), (53, 3, 3, ((-2147483648), 0, none)), (51, 3, 3, ((-2147483648), 0, none)), (49, 3, 3, ((-2147483648), 0, none)), (47, 3, 3, ((-2147483648), 0, none)), (45, 3, 3, ((-2147483648), 0, none)), (44, 7, 7, ck_one 0), (44, 6, 6, ck_one 0), (44, 5, 5, ck_one 1), (44, 4, 4, ck_one 3), (44, 3, 3, ck_one 2), (44, 2, 2, ck_one 10), (44, 1, 1, ck_one 40), (44, 0, 0, ck_one 3)]))])
set_option maxRecDepth 100000 in
theorem p15x_239_e : ck_ok p1_O none [] [(161, [p15x_238])] 160 [] 90 p15x_239 = true := by decide +kernel
theorem p15x_239_s {X : Int → Int} {LX : Nat} : ck_Ok p1_O X LX 160 p15x_239 := ck_ok_s (ck_E1 (ck_S1 p15x_238_s ck_S0) ck_E0) ck_X0 ck_l0 p15x_239_e
set_option maxRecDepth 100000 in
def p15x_332 : ck_Sum := ((6, 1, 6), 245, [.inr (.inr (.inl 1)), .inl (51, 2147483647, none)], ([], [], []), ([], []), [(.inl 0, 245, ([], [], []))])
set_option maxRecDepth 100000 in
theorem p15x_332_e : ck_ok p1_O none [] [] 161 [] 84 p15x_332 = true := by decide +kernel
theorem p15x_332_s {X : Int → Int} {LX : Nat} : ck_Ok p1_O X LX 161 p15x_332 := ck_ok_s (ck_E0) ck_X0 ck_l0 p15x_332_e
set_option maxRecDepth 100000 in
def p15x_333 : ck_Sum := ((7, 1, 6), 245, [.inr (.inr (.inl 1)), .inl (51, 2147483647, none), .inr (.inr (.inl 245))], ([], [], []), ([], []), [(.inr (some (.inl (ck_one 1))), 245, ([], [], []))])
set_option maxRecDepth 100000 in
theorem p15x_333_e : ck_ok p1_O none [] [(161, [p15x_332])] 160 [] 86 p15x_333 = true := by decide +kernel
theorem p15x_333_s {X : Int → Int} {LX : Nat} : ck_Ok p1_O X LX 160 p15x_333 := ck_ok_s (ck_E1 (ck_S1 p15x_332_s ck_S0) ck_E0) ck_X0 ck_l0 p15x_333_e
set_option maxRecDepth 100000 in
def p15x_135 : ck_Sum := ((0, 0, 0), 245, [.inl ((-2147483648), 0, none), .inl (ck_one 1), .inl (ck_one 50)], ([], [], []), ([], []), [(.inr (some (.inl (ck_one 0))), 245, ([], [], []))])
set_option maxRecDepth 100000 in
theorem p15x_135_e : ck_ok p1_O none [] [] 287 [] 80 p15x_135 = true := by decide +kernel
theorem p15x_135_s {X : Int → Int} {LX : Nat} : ck_Ok p1_O X LX 287 p15x_135 := ck_ok_s (ck_E0) ck_X0 ck_l0 p15x_135_e
set_option maxRecDepth 100000 in
def p15x_136 : ck_Sum := ((0, 0, 0), 245, [.inr (.inr (.inl 226)), .inl (ck_one 1), .inl (ck_one 1)], ([], [], []), ([(226, 0, 0)], []), [(.inr (some (.inl (ck_one 1))), 245, ([], [], [(226, 0, 0, ck_one 1)]))])
set_option maxRecDepth 100000 in
theorem p15x_136_e : ck_ok p1_O none [] [] 283 [] 84 p15x_136 = true := by decide +kernel
theorem p15x_136_s {X : Int → Int} {LX : Nat} : ck_Ok p1_O X LX 283 p15x_136 := ck_ok_s (ck_E0) ck_X0 ck_l0 p15x_136_e
set_option maxRecDepth 100000 in
def p15x_137 : ck_Sum := ((1, 0, 0), 245, [.inr (.inr (.inl 226)), .inl ((-2147483648), 0, none)], ([], [], []), ([(226, 0, 0)], []), [(.inr (some (.inl (ck_one 0))), 245, ([], [], [(226, 0, 0, ck_one 1)]))])
set_option maxRecDepth 100000 in
theorem p15x_137_e : ck_ok p1_O none [] [(287, [p15x_135]), (283, [p15x_136])] 321 [] 102 p15x_137 = true := by decide +kernel
theorem p15x_137_s {X : Int → Int} {LX : Nat} : ck_Ok p1_O X LX 321 p15x_137 := ck_ok_s (ck_E1 (ck_S1 p15x_135_s ck_S0) (ck_E1 (ck_S1 p15x_136_s ck_S0) ck_E0)) ck_X0 ck_l0 p15x_137_e
set_option maxRecDepth 100000 in
def p15x_240 : ck_Sum := ((0, 0, 0), 245, [.inl (1, 50, none), .inl (ck_one 1), .inl (ck_one 50)], ([], [], []), ([], []), [(.inr (some (.inl (ck_one 1))), 245, ([], [], []))])
set_option maxRecDepth 100000 in
theorem p15x_240_e : ck_ok p1_O none [] [] 287 [] 88 p15x_240 = true := by decide +kernel
theorem p15x_240_s {X : Int → Int} {LX : Nat} : ck_Ok p1_O X LX 287 p15x_240 := ck_ok_s (ck_E0) ck_X0 ck_l0 p15x_240_e
set_option maxRecDepth 100000 in
def p15x_241 : ck_Sum := ((0, 0, 0), 245, [.inr (.inr (.inl 226))], ([], [], [(227, 2, 9, ck_one 0)]), ([], []), [(.inr (some (.inl (ck_one 0))), 245, ([], [], []))])
set_option maxRecDepth 100000 in
theorem p15x_241_e : ck_ok p1_O none [] [] 267 [] 80 p15x_241 = true := by decide +kernel
theorem p15x_241_s {X : Int → Int} {LX : Nat} : ck_Ok p1_O X LX 267 p15x_241 := ck_ok_s (ck_E0) ck_X0 ck_l0 p15x_241_e
set_option maxRecDepth 100000 in
def p15x_242 : ck_Sum := ((0, 0, 0), 245, [.inr (.inr (.inl 226)), .inl (ck_one 0), .inl (ck_one 1)], ([], [], []), ([], []), [(.inr (some (.inl (ck_one 0))), 245, ([], [], []))])
set_option maxRecDepth 100000 in
theorem p15x_242_e : ck_ok p1_O none [] [] 283 [] 78 p15x_242 = true := by decide +kernel
theorem p15x_242_s {X : Int → Int} {LX : Nat} : ck_Ok p1_O X LX 283 p15x_242 := ck_ok_s (ck_E0) ck_X0 ck_l0 p15x_242_e
set_option maxRecDepth 100000 in
def p15x_243 : ck_Sum := ((0, 0, 0), 245, [.inr (.inr (.inl 226))], ([], [], [(226, 6, 6, ck_one 0)]), ([(226, 6, 6), (230, 0, 394)], []), [(.inr none, 245, ([], [], [(226, 6, 6, ck_one 1)]))])
set_option maxRecDepth 100000 in
theorem p15x_243_e : ck_ok p1_O none [] [] 317 [(55, [some (.inr (.inr (.inl 226))), some (.inl (0, 395, none))], ([], [], [(226, 6, 6, ck_one 1)]), 300, .inl 1, true)] 174 p15x_243 = true := by decide +kernel
theorem p15x_243_s {X : Int → Int} {LX : Nat} : ck_Ok p1_O X LX 317 p15x_243 := ck_ok_s (ck_E0) ck_X0 ck_l0 p15x_243_e
set_option maxRecDepth 100000 in
def p15x_244 : ck_Sum := ((0, 0, 0), 245, [.inr (.inr (.inl 226))], ([], [], [(227, 2, 8, ck_one 0)]), ([], []), [(.inr (some (.inl (ck_one 0))), 245, ([], [], []))])
set_option maxRecDepth 100000 in
theorem p15x_244_e : ck_ok p1_O none [] [] 255 [] 80 p15x_244 = true := by decide +kernel
theorem p15x_244_s {X : Int → Int} {LX : Nat} : ck_Ok p1_O X LX 255 p15x_244 := ck_ok_s (ck_E0) ck_X0 ck_l0 p15x_244_e
set_option maxRecDepth 100000 in
def p15x_329 : ck_Sum := ((1, 0, 0), 245, [.inr (.inr (.inl 226))], ([], [], [(227, 2, 8, ck_one 0)]), ([(227, 9, 9)], []), [(.inr (some (.inl (ck_one 0))), 245, ([], [], []))])
set_option maxRecDepth 100000 in
theorem p15x_329_e : ck_ok p1_O none [] [(255, [p15x_244])] 322 [(15, [some (.inr (.inr (.inl 226))), some (.inl (ck_one 0)), some (.inl (ck_one 0)), none], ([], [], [(227, 2, 8, ck_one 0)]), 100, .inl 1, true)] 142 p15x_329 = true := by decide +kernel
theorem p15x_329_s {X : Int → Int} {LX : Nat} : ck_Ok p1_O X LX 322 p15x_329 := ck_ok_s (ck_E1 (ck_S1 p15x_244_s ck_S0) ck_E0) ck_X0 ck_l0 p15x_329_e
set_option maxRecDepth 100000 in
def p15x_330 : ck_Sum := ((2, 0, 0), 245, [.inr (.inr (.inl 226)), .inl (1, 50, none)], ([], [], [(227, 2, 9, ck_one 0), (226, 0, 0, ck_one 0), (226, 6, 6, ck_one 0)]), ([(226, 0, 0), (226, 6, 6), (227, 9, 9), (230, 0, 394)], []), [(.inr (some (.inl (ck_one 0))), 245, ([], [], [(226, 6, 6, ck_one 1), (226, 0, 0, ck_one 0)]))])
set_option maxRecDepth 100000 in
theorem p15x_330_e : ck_ok p1_O none [] [(287, [p15x_240]), (267, [p15x_241]), (283, [p15x_242]), (317, [p15x_243]), (322, [p15x_329])] 321 [(50, [some (.inr (.inr (.inl 226))), some (.inl (1, 50, none)), some (.inl (ck_one 0)), some (.inl (0, 50, none))], ([], [], [(226, 6, 6, ck_one 1), (226, 0, 0, ck_one 0), (227, 2, 8, ck_one 0)]), 100, .inl 3, true)] 194 p15x_330 = true := by decide +kernel
theorem p15x_330_s {X : Int → Int} {LX : Nat} : ck_Ok p1_O X LX 321 p15x_330 := ck_ok_s (ck_E1 (ck_S1 p15x_240_s ck_S0) (ck_E1 (ck_S1 p15x_241_s ck_S0) (ck_E1 (ck_S1 p15x_242_s ck_S0) (ck_E1 (ck_S1 p15x_243_s ck_S0) (ck_E1 (ck_S1 p15x_329_s ck_S0) ck_E0))))) ck_X0 ck_l0 p15x_330_e
set_option maxRecDepth 100000 in
def p15x_334 : ck_Sum := ((0, 0, 0), 245, [.inl (51, 2147483647, none), .inl (ck_one 1), .inl (ck_one 50)], ([], [], []), ([], []), [(.inr (some (.inl (ck_one 0))), 245, ([], [], []))])
set_option maxRecDepth 100000 in
theorem p15x_334_e : ck_ok p1_O none [] [] 287 [] 86 p15x_334 = true := by decide +kernel
theorem p15x_334_s {X : Int → Int} {LX : Nat} : ck_Ok p1_O X LX 287 p15x_334 := ck_ok_s (ck_E0) ck_X0 ck_l0 p15x_334_e
set_option maxRecDepth 100000 in
def p15x_335 : ck_Sum := ((1, 0, 0), 245, [.inr (.inr (.inl 226)), .inl (51, 2147483647, none)], ([], [], []), ([(226, 0, 0)], []), [(.inr (some (.inl (ck_one 0))), 245, ([], [], [(226, 0, 0, ck_one 1)]))])
set_option maxRecDepth 100000 in
theorem p15x_335_e : ck_ok p1_O none [] [(287, [p15x_334]), (283, [p15x_136])] 321 [] 102 p15x_335 = true := by decide +kernel
theorem p15x_335_s {X : Int → Int} {LX : Nat} : ck_Ok p1_O X LX 321 p15x_335 := ck_ok_s (ck_E1 (ck_S1 p15x_334_s ck_S0) (ck_E1 (ck_S1 p15x_136_s ck_S0) ck_E0)) ck_X0 ck_l0 p15x_335_e
set_option maxRecDepth 100000 in
def p15x_138 : ck_Sum := ((0, 0, 0), 245, [.inr (.inr (.inl 226))], ([], [], [(226, 0, 0, ck_one 1)]), ([], []), [(.inr (some (.inl (ck_one 1))), 245, ([], [], []))])
set_option maxRecDepth 100000 in
theorem p15x_138_e : ck_ok p1_O none [] [] 234 [] 76 p15x_138 = true := by decide +kernel
theorem p15x_138_s {X : Int → Int} {LX : Nat} : ck_Ok p1_O X LX 234 p15x_138 := ck_ok_s (ck_E0) ck_X0 ck_l0 p15x_138_e
set_option maxRecDepth 100000 in
def p15x_331 : ck_Sum := ((0, 0, 0), 245, [.inr (.inr (.inl 226))], ([], [], [(226, 0, 0, ck_one 0)]), ([], []), [(.inr (some (.inl (ck_one 0))), 245, ([], [], []))])
set_option maxRecDepth 100000 in
theorem p15x_331_e : ck_ok p1_O none [] [] 234 [] 76 p15x_331 = true := by decide +kernel
theorem p15x_331_s {X : Int → Int} {LX : Nat} : ck_Ok p1_O X LX 234 p15x_331 := ck_ok_s (ck_E0) ck_X0 ck_l0 p15x_331_e
set_option maxRecDepth 100000 in
def p15_F : ck_F := ([], [(3, 8, 0), (16, 8, 0), (29, 8, 0), (44, 8, 0), (57, 8, 0), (70, 8, 0), (83, 8, 0), (96, 8, 0), (109, 8, 0), (122, 8, 0), (135, 8, 0), (148, 8, 0), (161, 8, 0), (174, 8, 0), (187, 8, 0)], [(245, 0, 0, ck_one 0), (227, 2, 9, ck_one 0), (226, 0, 0, ck_one 0), (226, 6, 6, ck_one 0), (1, 15, 15, ck_one 0), (220, 0, 0, ck_one 24), (220, 3, 3, ck_one 0), (42, 2, 2, ck_one 0), (42, 1, 1, ck_one 0), (14, 3, 3, ck_one 0), (12, 3, 3, ck_one 0), (10, 3, 3, ck_one 0), (8, 3, 3, ck_one 0), (6, 3, 3, ck_one 0), (4, 3, 3, ck_one 0), (3, 7, 7, ck_one 0), (3, 6, 6, ck_one 0), (3, 5, 5, ck_one 1), (3, 4, 4, ck_one 3), (3, 3, 3, ck_one 2), (3, 2, 2, ck_one 10), (3, 1, 1, ck_one 40), (3, 0, 0, ck_one 3)])
def p15_E : List (Nat × List ck_Sum) := [(160, [p15x_134, p15x_239, p15x_333]), (321, [p15x_137, p15x_330, p15x_335]), (234, [p15x_138, p15x_331])]
theorem p15_h {X : Int → Int} {LX : Nat} : ck_OkE p1_O X LX p15_E := ck_E1 (ck_S1 p15x_134_s (ck_S1 p15x_239_s (ck_S1 p15x_333_s ck_S0))) (ck_E1 (ck_S1 p15x_137_s (ck_S1 p15x_330_s (ck_S1 p15x_335_s ck_S0))) (ck_E1 (ck_S1 p15x_138_s (ck_S1 p15x_331_s ck_S0)) ck_E0))
set_option maxRecDepth 100000 in
theorem p15_b : (ck_prod [(1, [((-2147483648), 0), (1, 50), (51, 2147483647)])]).all (fun xf => ck_go p1_O (some 6) xf p15_E 370 280 245 p1_W p1_outs [] 132 false [] 1000 2000 1111 p1_L [] 245 p15_F) = true := by decide +kernel
theorem p15_s {X : Int → Int} {LX : Nat} (hLX : 6 = LX) (hX : ∀ j, gm_ir (X j)) {σ : Nat → Int} {L : gm_L} {K0 K : gm_K} {R0 R : gm_R} {M0 M : gm_M} (hS : ck_St p1_O σ p1_W 245 K0 R0 M0 p1_L [] p15_F L [] 245 K R M) : gm_Wp X LX 280 1000 2000 370 1111 L [] 245 K R M (ck_Q p1_O σ p1_W 245 K0 R0 M0 p1_outs) := ck_boxes p15_h hLX hX (by decide +kernel) p15_b hS
