/-! valley, on a new object: laid by wip/am/p1g.py. -/
set_option maxRecDepth 100000 in
def p2x_133 : ck_Sum := ((1, 0, 0), 245, [.inr (.inr (.inl 17)), .inr (.inr (.inl 4))], ([], [], [(17, 0, 0, ck_one 8), (4, 3, 3, ck_one 0)]), ([(17, 3, 3), (18, 0, 55)], []), [(.inr none, 245, ([], [], [(17, 3, 3, ck_one 0)]))])
set_option maxRecDepth 100000 in
theorem p2x_133_e : ck_ok p1_O none [] [] 58 [] 114 p2x_133 = true := by decide +kernel
theorem p2x_133_s {X : Int → Int} {LX : Nat} : ck_Ok p1_O X LX 58 p2x_133 := ck_ok_s (ck_E0) ck_X0 ck_l0 p2x_133_e
set_option maxRecDepth 100000 in
def p2x_134 : ck_Sum := ((1, 0, 0), 245, [.inr (.inr (.inl 19)), .inr (.inr (.inl 6))], ([], [], [(19, 0, 0, ck_one 8), (6, 3, 3, ck_one 0)]), ([(19, 3, 3), (20, 0, 23)], []), [(.inr none, 245, ([], [], [(19, 3, 3, ck_one 0)]))])
set_option maxRecDepth 100000 in
theorem p2x_134_e : ck_ok p1_O none [] [] 58 [] 114 p2x_134 = true := by decide +kernel
theorem p2x_134_s {X : Int → Int} {LX : Nat} : ck_Ok p1_O X LX 58 p2x_134 := ck_ok_s (ck_E0) ck_X0 ck_l0 p2x_134_e
set_option maxRecDepth 100000 in
def p2x_135 : ck_Sum := ((1, 0, 0), 245, [.inr (.inr (.inl 21)), .inr (.inr (.inl 8))], ([], [], [(21, 0, 0, ck_one 8), (8, 3, 3, ck_one 0)]), ([(21, 3, 3), (22, 0, 23)], []), [(.inr none, 245, ([], [], [(21, 3, 3, ck_one 0)]))])
set_option maxRecDepth 100000 in
theorem p2x_135_e : ck_ok p1_O none [] [] 58 [] 114 p2x_135 = true := by decide +kernel
theorem p2x_135_s {X : Int → Int} {LX : Nat} : ck_Ok p1_O X LX 58 p2x_135 := ck_ok_s (ck_E0) ck_X0 ck_l0 p2x_135_e
set_option maxRecDepth 100000 in
def p2x_136 : ck_Sum := ((1, 0, 0), 245, [.inr (.inr (.inl 23)), .inr (.inr (.inl 10))], ([], [], [(23, 0, 0, ck_one 24), (10, 3, 3, ck_one 0)]), ([(23, 3, 3), (24, 0, 167)], []), [(.inr none, 245, ([], [], [(23, 3, 3, ck_one 0)]))])
set_option maxRecDepth 100000 in
theorem p2x_136_e : ck_ok p1_O none [] [] 58 [] 114 p2x_136 = true := by decide +kernel
theorem p2x_136_s {X : Int → Int} {LX : Nat} : ck_Ok p1_O X LX 58 p2x_136 := ck_ok_s (ck_E0) ck_X0 ck_l0 p2x_136_e
set_option maxRecDepth 100000 in
def p2x_137 : ck_Sum := ((1, 0, 0), 245, [.inr (.inr (.inl 25)), .inr (.inr (.inl 12))], ([], [], [(25, 0, 0, ck_one 6), (12, 3, 3, ck_one 0)]), ([(25, 3, 3), (26, 0, 35)], []), [(.inr none, 245, ([], [], [(25, 3, 3, ck_one 0)]))])
set_option maxRecDepth 100000 in
theorem p2x_137_e : ck_ok p1_O none [] [] 58 [] 114 p2x_137 = true := by decide +kernel
theorem p2x_137_s {X : Int → Int} {LX : Nat} : ck_Ok p1_O X LX 58 p2x_137 := ck_ok_s (ck_E0) ck_X0 ck_l0 p2x_137_e
set_option maxRecDepth 100000 in
def p2x_138 : ck_Sum := ((1, 0, 0), 245, [.inr (.inr (.inl 27)), .inr (.inr (.inl 14))], ([], [], [(27, 0, 0, ck_one 24), (14, 3, 3, ck_one 0)]), ([(27, 3, 3), (28, 0, 71)], []), [(.inr none, 245, ([], [], [(27, 3, 3, ck_one 0)]))])
set_option maxRecDepth 100000 in
theorem p2x_138_e : ck_ok p1_O none [] [] 58 [] 114 p2x_138 = true := by decide +kernel
theorem p2x_138_s {X : Int → Int} {LX : Nat} : ck_Ok p1_O X LX 58 p2x_138 := ck_ok_s (ck_E0) ck_X0 ck_l0 p2x_138_e
set_option maxRecDepth 100000 in
def p2x_139 : ck_Sum := ((2, 0, 0), 245, [.inr (.inr (.inl 16)), .inr (.inr (.inl 3))], ([], [(3, 8, 0)], [(27, 0, 0, ck_one 24), (25, 0, 0, ck_one 6), (23, 0, 0, ck_one 24), (21, 0, 0, ck_one 8), (19, 0, 0, ck_one 8), (17, 0, 0, ck_one 8), (14, 3, 3, ck_one 0), (12, 3, 3, ck_one 0), (10, 3, 3, ck_one 0), (8, 3, 3, ck_one 0), (6, 3, 3, ck_one 0), (4, 3, 3, ck_one 0), (3, 7, 7, ck_one 0), (3, 6, 6, ck_one 0), (3, 5, 5, ck_one 1), (3, 4, 4, ck_one 3), (3, 3, 3, ck_one 2), (3, 2, 2, ck_one 10), (3, 1, 1, ck_one 40), (3, 0, 0, ck_one 3)]), ([(16, 0, 7), (17, 3, 3), (18, 0, 55), (19, 3, 3), (20, 0, 23), (21, 3, 3), (22, 0, 23), (23, 3, 3), (24, 0, 167), (25, 3, 3), (26, 0, 35), (27, 3, 3), (28, 0, 71)], [(16, 8)]), [(.inr none, 245, ([], [(16, 8, 0)], [(27, 3, 3, ck_one 0), (25, 3, 3, ck_one 0), (23, 3, 3, ck_one 0), (21, 3, 3, ck_one 0), (19, 3, 3, ck_one 0), (17, 3, 3, ck_one 0), (16, 7, 7, ck_one 0), (16, 6, 6, ck_one 0), (16, 5, 5, ck_one 1), (16, 4, 4, ck_one 3), (16, 3, 3, ck_one 2), (16, 2, 2, ck_one 10), (16, 1, 1, ck_one 40), (16, 0, 0, ck_one 3)]))])
set_option maxRecDepth 100000 in
theorem p2x_139_e : ck_ok p1_O none [] [(58, [p2x_133, p2x_134, p2x_135, p2x_136, p2x_137, p2x_138])] 57 [] 204 p2x_139 = true := by decide +kernel
theorem p2x_139_s {X : Int → Int} {LX : Nat} : ck_Ok p1_O X LX 57 p2x_139 := ck_ok_s (ck_E1 (ck_S1 p2x_133_s (ck_S1 p2x_134_s (ck_S1 p2x_135_s (ck_S1 p2x_136_s (ck_S1 p2x_137_s (ck_S1 p2x_138_s ck_S0)))))) ck_E0) ck_X0 ck_l0 p2x_139_e
set_option maxRecDepth 100000 in
def p2x_144 : ck_Sum := ((1, 0, 0), 245, [.inr (.inr (.inl 4)), .inr (.inr (.inl 17))], ([], [], [(17, 3, 3, ck_one 0), (4, 0, 0, ck_one 8)]), ([(4, 3, 3), (5, 0, 55)], []), [(.inr none, 245, ([], [], [(4, 3, 3, ck_one 0)]))])
set_option maxRecDepth 100000 in
theorem p2x_144_e : ck_ok p1_O none [] [] 58 [] 114 p2x_144 = true := by decide +kernel
theorem p2x_144_s {X : Int → Int} {LX : Nat} : ck_Ok p1_O X LX 58 p2x_144 := ck_ok_s (ck_E0) ck_X0 ck_l0 p2x_144_e
set_option maxRecDepth 100000 in
def p2x_145 : ck_Sum := ((1, 0, 0), 245, [.inr (.inr (.inl 6)), .inr (.inr (.inl 19))], ([], [], [(19, 3, 3, ck_one 0), (6, 0, 0, ck_one 8)]), ([(6, 3, 3), (7, 0, 23)], []), [(.inr none, 245, ([], [], [(6, 3, 3, ck_one 0)]))])
set_option maxRecDepth 100000 in
theorem p2x_145_e : ck_ok p1_O none [] [] 58 [] 114 p2x_145 = true := by decide +kernel
theorem p2x_145_s {X : Int → Int} {LX : Nat} : ck_Ok p1_O X LX 58 p2x_145 := ck_ok_s (ck_E0) ck_X0 ck_l0 p2x_145_e
set_option maxRecDepth 100000 in
def p2x_146 : ck_Sum := ((1, 0, 0), 245, [.inr (.inr (.inl 8)), .inr (.inr (.inl 21))], ([], [], [(21, 3, 3, ck_one 0), (8, 0, 0, ck_one 8)]), ([(8, 3, 3), (9, 0, 23)], []), [(.inr none, 245, ([], [], [(8, 3, 3, ck_one 0)]))])
set_option maxRecDepth 100000 in
theorem p2x_146_e : ck_ok p1_O none [] [] 58 [] 114 p2x_146 = true := by decide +kernel
theorem p2x_146_s {X : Int → Int} {LX : Nat} : ck_Ok p1_O X LX 58 p2x_146 := ck_ok_s (ck_E0) ck_X0 ck_l0 p2x_146_e
set_option maxRecDepth 100000 in
def p2x_147 : ck_Sum := ((1, 0, 0), 245, [.inr (.inr (.inl 10)), .inr (.inr (.inl 23))], ([], [], [(23, 3, 3, ck_one 0), (10, 0, 0, ck_one 24)]), ([(10, 3, 3), (11, 0, 167)], []), [(.inr none, 245, ([], [], [(10, 3, 3, ck_one 0)]))])
set_option maxRecDepth 100000 in
theorem p2x_147_e : ck_ok p1_O none [] [] 58 [] 114 p2x_147 = true := by decide +kernel
theorem p2x_147_s {X : Int → Int} {LX : Nat} : ck_Ok p1_O X LX 58 p2x_147 := ck_ok_s (ck_E0) ck_X0 ck_l0 p2x_147_e
set_option maxRecDepth 100000 in
def p2x_148 : ck_Sum := ((1, 0, 0), 245, [.inr (.inr (.inl 12)), .inr (.inr (.inl 25))], ([], [], [(25, 3, 3, ck_one 0), (12, 0, 0, ck_one 6)]), ([(12, 3, 3), (13, 0, 35)], []), [(.inr none, 245, ([], [], [(12, 3, 3, ck_one 0)]))])
set_option maxRecDepth 100000 in
theorem p2x_148_e : ck_ok p1_O none [] [] 58 [] 114 p2x_148 = true := by decide +kernel
theorem p2x_148_s {X : Int → Int} {LX : Nat} : ck_Ok p1_O X LX 58 p2x_148 := ck_ok_s (ck_E0) ck_X0 ck_l0 p2x_148_e
set_option maxRecDepth 100000 in
def p2x_149 : ck_Sum := ((1, 0, 0), 245, [.inr (.inr (.inl 14)), .inr (.inr (.inl 27))], ([], [], [(27, 3, 3, ck_one 0), (14, 0, 0, ck_one 24)]), ([(14, 3, 3), (15, 0, 71)], []), [(.inr none, 245, ([], [], [(14, 3, 3, ck_one 0)]))])
set_option maxRecDepth 100000 in
theorem p2x_149_e : ck_ok p1_O none [] [] 58 [] 114 p2x_149 = true := by decide +kernel
theorem p2x_149_s {X : Int → Int} {LX : Nat} : ck_Ok p1_O X LX 58 p2x_149 := ck_ok_s (ck_E0) ck_X0 ck_l0 p2x_149_e
set_option maxRecDepth 100000 in
def p2x_150 : ck_Sum := ((2, 0, 0), 245, [.inr (.inr (.inl 3)), .inr (.inr (.inl 16))], ([], [(16, 8, 0)], [(27, 3, 3, ck_one 0), (25, 3, 3, ck_one 0), (23, 3, 3, ck_one 0), (21, 3, 3, ck_one 0), (19, 3, 3, ck_one 0), (17, 3, 3, ck_one 0), (16, 7, 7, ck_one 0), (16, 6, 6, ck_one 0), (16, 5, 5, ck_one 1), (16, 4, 4, ck_one 3), (16, 3, 3, ck_one 2), (16, 2, 2, ck_one 10), (16, 1, 1, ck_one 40), (16, 0, 0, ck_one 3), (14, 0, 0, ck_one 24), (12, 0, 0, ck_one 6), (10, 0, 0, ck_one 24), (8, 0, 0, ck_one 8), (6, 0, 0, ck_one 8), (4, 0, 0, ck_one 8)]), ([(3, 0, 7), (4, 3, 3), (5, 0, 55), (6, 3, 3), (7, 0, 23), (8, 3, 3), (9, 0, 23), (10, 3, 3), (11, 0, 167), (12, 3, 3), (13, 0, 35), (14, 3, 3), (15, 0, 71)], [(3, 8)]), [(.inr none, 245, ([], [(3, 8, 0)], [(14, 3, 3, ck_one 0), (12, 3, 3, ck_one 0), (10, 3, 3, ck_one 0), (8, 3, 3, ck_one 0), (6, 3, 3, ck_one 0), (4, 3, 3, ck_one 0), (3, 7, 7, ck_one 0), (3, 6, 6, ck_one 0), (3, 5, 5, ck_one 1), (3, 4, 4, ck_one 3), (3, 3, 3, ck_one 2), (3, 2, 2, ck_one 10), (3, 1, 1, ck_one 40), (3, 0, 0, ck_one 3)]))])
set_option maxRecDepth 100000 in
theorem p2x_150_e : ck_ok p1_O none [] [(58, [p2x_144, p2x_145, p2x_146, p2x_147, p2x_148, p2x_149])] 57 [] 204 p2x_150 = true := by decide +kernel
theorem p2x_150_s {X : Int → Int} {LX : Nat} : ck_Ok p1_O X LX 57 p2x_150 := ck_ok_s (ck_E1 (ck_S1 p2x_144_s (ck_S1 p2x_145_s (ck_S1 p2x_146_s (ck_S1 p2x_147_s (ck_S1 p2x_148_s (ck_S1 p2x_149_s ck_S0)))))) ck_E0) ck_X0 ck_l0 p2x_150_e
set_option maxRecDepth 100000 in
def p2x_140 : ck_Sum := ((0, 0, 0), 245, [.inr (.inr (.inl 213))], ([], [], []), ([], []), [(.inr none, 245, ([], [], []))])
set_option maxRecDepth 100000 in
theorem p2x_140_e : ck_ok p1_O none [] [] 74 [] 72 p2x_140 = true := by decide +kernel
theorem p2x_140_s {X : Int → Int} {LX : Nat} : ck_Ok p1_O X LX 74 p2x_140 := ck_ok_s (ck_E0) ck_X0 ck_l0 p2x_140_e
set_option maxRecDepth 100000 in
def p2x_141 : ck_Sum := ((0, 0, 0), 245, [.inr (.inr (.inl 214))], ([], [], [(214, 3, 3, ck_one 0), (214, 2, 2, ck_one 0), (214, 7, 7, ck_one (-1)), (214, 6, 6, ck_one 256), (214, 4, 4, ck_one 0)]), ([(214, 4, 4), (214, 6, 7)], []), [(.inr none, 245, ([], [], [(214, 6, 6, ck_one 256), (214, 7, 7, ck_one (-1)), (214, 4, 4, ck_one 0)]))])
set_option maxRecDepth 100000 in
theorem p2x_141_e : ck_ok p1_O none [] [] 76 [(0, [some (.inr (.inr (.inl 214))), none], ([], [], [(214, 3, 3, ck_one 0), (214, 2, 2, ck_one 0), (214, 7, 7, ck_one (-1)), (214, 6, 6, ck_one 256), (214, 4, 4, ck_one 0)]), 100, .inr (214, 3), true)] 178 p2x_141 = true := by decide +kernel
theorem p2x_141_s {X : Int → Int} {LX : Nat} : ck_Ok p1_O X LX 76 p2x_141 := ck_ok_s (ck_E0) ck_X0 ck_l0 p2x_141_e
set_option maxRecDepth 100000 in
def p2x_142 : ck_Sum := ((1, 0, 0), 245, [.inr (.inr (.inl 214)), .inl (ck_one 0)], ([], [], [(214, 7, 7, ck_one (-1)), (214, 6, 6, ck_one 256), (214, 4, 4, ck_one 0), (214, 3, 3, ck_one 0), (214, 2, 2, ck_one 0)]), ([(214, 2, 7)], []), [(.inr none, 245, ([], [], [(214, 6, 6, ck_one 256), (214, 7, 7, ck_one (-1)), (214, 4, 4, ck_one 0), (214, 5, 5, ck_one (-1)), (214, 3, 3, ck_one 0), (214, 2, 2, ck_one 0)]))])
set_option maxRecDepth 100000 in
theorem p2x_142_e : ck_ok p1_O none [] [(76, [p2x_141])] 75 [] 102 p2x_142 = true := by decide +kernel
theorem p2x_142_s {X : Int → Int} {LX : Nat} : ck_Ok p1_O X LX 75 p2x_142 := ck_ok_s (ck_E1 (ck_S1 p2x_141_s ck_S0) ck_E0) ck_X0 ck_l0 p2x_142_e
set_option maxRecDepth 100000 in
def p2x_143 : ck_Sum := ((2, 0, 0), 245, [.inr (.inr (.inl 213)), .inl (ck_one 0)], ([], [], [(214, 7, 7, ck_one (-1)), (214, 6, 6, ck_one 256), (214, 4, 4, ck_one 0), (214, 3, 3, ck_one 0), (214, 2, 2, ck_one 0)]), ([(214, 2, 7)], []), [(.inr (some (.inl (ck_one (-1)))), 245, ([], [], [(214, 6, 6, ck_one 256), (214, 7, 7, ck_one (-1)), (214, 4, 4, ck_one 0), (214, 5, 5, ck_one (-1)), (214, 3, 3, ck_one 0), (214, 2, 2, ck_one 0)]))])
set_option maxRecDepth 100000 in
theorem p2x_143_e : ck_ok p1_O none [] [(74, [p2x_140]), (75, [p2x_142])] 72 [] 96 p2x_143 = true := by decide +kernel
theorem p2x_143_s {X : Int → Int} {LX : Nat} : ck_Ok p1_O X LX 72 p2x_143 := ck_ok_s (ck_E1 (ck_S1 p2x_140_s ck_S0) (ck_E1 (ck_S1 p2x_142_s ck_S0) ck_E0)) ck_X0 ck_l0 p2x_143_e
set_option maxRecDepth 100000 in
def p2x_151 : ck_Sum := ((0, 0, 0), 245, [.inr (.inr (.inl 200))], ([], [], [(3, 5, 5, ck_one 1), (201, 0, 299, (0, 9, none))]), ([(201, 0, 299)], []), [(.inr none, 245, ([], [], [(201, 0, 299, (0, 9, none))]))])
set_option maxRecDepth 100000 in
theorem p2x_151_e : ck_ok p1_O none [] [] 6 [(10, [some (.inr (.inr (.inl 200))), some (.inl ((-2147483648), 2147483647, none)), some (.inl (0, 300, none))], ([], [], [(3, 5, 5, ck_one 1), (201, 0, 299, (0, 9, none))]), 100, .inl 2, true)] 182 p2x_151 = true := by decide +kernel
theorem p2x_151_s {X : Int → Int} {LX : Nat} : ck_Ok p1_O X LX 6 p2x_151 := ck_ok_s (ck_E0) ck_X0 ck_l0 p2x_151_e
set_option maxRecDepth 100000 in
def p2x_152 : ck_Sum := ((0, 0, 0), 245, [.inr (.inr (.inl 202)), .inl (ck_one 0)], ([], [], [(202, 0, 593, ck_one 0)]), ([(202, 0, 593)], []), [(.inr none, 245, ([], [], [(202, 0, 593, ck_one 0)]))])
set_option maxRecDepth 100000 in
theorem p2x_152_e : ck_ok p1_O none [] [] 8 [(5, [some (.inr (.inr (.inl 202))), some (.inl (ck_one 0)), some (.inl (0, 594, none)), some (.inl (ck_one 594))], ([], [], [(202, 0, 593, ck_one 0)]), 100, .inl 2, true)] 130 p2x_152 = true := by decide +kernel
theorem p2x_152_s {X : Int → Int} {LX : Nat} : ck_Ok p1_O X LX 8 p2x_152 := ck_ok_s (ck_E0) ck_X0 ck_l0 p2x_152_e
set_option maxRecDepth 100000 in
def p2x_153 : ck_Sum := ((0, 0, 0), 245, [.inr (.inr (.inl 4))], ([], [], [(4, 3, 3, ck_one 0)]), ([], []), [(.inr (some (.inl (ck_one 0))), 245, ([], [], []))])
set_option maxRecDepth 100000 in
theorem p2x_153_e : ck_ok p1_O none [] [] 9 [] 76 p2x_153 = true := by decide +kernel
theorem p2x_153_s {X : Int → Int} {LX : Nat} : ck_Ok p1_O X LX 9 p2x_153 := ck_ok_s (ck_E0) ck_X0 ck_l0 p2x_153_e
set_option maxRecDepth 100000 in
def p2x_154 : ck_Sum := ((1, 0, 0), 245, [.inr (.inr (.inl 200))], ([], [], [(4, 3, 3, ck_one 0), (202, 0, 593, ck_one 0)]), ([(202, 0, 593)], []), [(.inr none, 245, ([], [], [(202, 0, 593, ck_one 0)]))])
set_option maxRecDepth 100000 in
theorem p2x_154_e : ck_ok p1_O none [] [(8, [p2x_152]), (9, [p2x_153])] 7 [(10, [some (.inr (.inr (.inl 200))), some (.inl (ck_one 0)), none, none, none, none], ([], [], [(202, 0, 593, ck_one 0), (4, 3, 3, ck_one 0)]), 100, .inl 1, true)] 118 p2x_154 = true := by decide +kernel
theorem p2x_154_s {X : Int → Int} {LX : Nat} : ck_Ok p1_O X LX 7 p2x_154 := ck_ok_s (ck_E1 (ck_S1 p2x_152_s ck_S0) (ck_E1 (ck_S1 p2x_153_s ck_S0) ck_E0)) ck_X0 ck_l0 p2x_154_e
set_option maxRecDepth 100000 in
def p2x_155 : ck_Sum := ((0, 0, 0), 245, [.inr (.inr (.inl 203)), .inl (ck_one 0)], ([], [], [(203, 0, 299, ck_one 0)]), ([(203, 0, 299)], []), [(.inr none, 245, ([], [], [(203, 0, 299, ck_one 0)]))])
set_option maxRecDepth 100000 in
theorem p2x_155_e : ck_ok p1_O none [] [] 8 [(5, [some (.inr (.inr (.inl 203))), some (.inl (ck_one 0)), some (.inl (0, 300, none)), some (.inl (ck_one 300))], ([], [], [(203, 0, 299, ck_one 0)]), 100, .inl 2, true)] 130 p2x_155 = true := by decide +kernel
theorem p2x_155_s {X : Int → Int} {LX : Nat} : ck_Ok p1_O X LX 8 p2x_155 := ck_ok_s (ck_E0) ck_X0 ck_l0 p2x_155_e
set_option maxRecDepth 100000 in
def p2x_156 : ck_Sum := ((0, 0, 0), 245, [.inr (.inr (.inl 6))], ([], [], [(6, 3, 3, ck_one 0)]), ([], []), [(.inr (some (.inl (ck_one 0))), 245, ([], [], []))])
set_option maxRecDepth 100000 in
theorem p2x_156_e : ck_ok p1_O none [] [] 9 [] 76 p2x_156 = true := by decide +kernel
theorem p2x_156_s {X : Int → Int} {LX : Nat} : ck_Ok p1_O X LX 9 p2x_156 := ck_ok_s (ck_E0) ck_X0 ck_l0 p2x_156_e
set_option maxRecDepth 100000 in
def p2x_157 : ck_Sum := ((1, 0, 0), 245, [.inr (.inr (.inl 200))], ([], [], [(6, 3, 3, ck_one 0), (203, 0, 299, ck_one 0)]), ([(203, 0, 299)], []), [(.inr none, 245, ([], [], [(203, 0, 299, ck_one 0)]))])
set_option maxRecDepth 100000 in
theorem p2x_157_e : ck_ok p1_O none [] [(8, [p2x_155]), (9, [p2x_156])] 12 [(10, [some (.inr (.inr (.inl 200))), some (.inl (ck_one 0)), none], ([], [], [(203, 0, 299, ck_one 0), (6, 3, 3, ck_one 0)]), 100, .inl 1, true)] 118 p2x_157 = true := by decide +kernel
theorem p2x_157_s {X : Int → Int} {LX : Nat} : ck_Ok p1_O X LX 12 p2x_157 := ck_ok_s (ck_E1 (ck_S1 p2x_155_s ck_S0) (ck_E1 (ck_S1 p2x_156_s ck_S0) ck_E0)) ck_X0 ck_l0 p2x_157_e
set_option maxRecDepth 100000 in
def p2x_158 : ck_Sum := ((2, 0, 0), 245, [.inr (.inr (.inl 200))], ([], [], [(6, 3, 3, ck_one 0), (4, 3, 3, ck_one 0), (3, 5, 5, ck_one 1), (203, 0, 299, ck_one 0), (202, 0, 593, ck_one 0), (201, 0, 299, (0, 9, none))]), ([(200, 6, 6), (201, 0, 299), (202, 0, 593), (203, 0, 299)], []), [(.inr none, 245, ([], [], [(200, 6, 6, ck_one 1), (203, 0, 299, ck_one 0), (201, 0, 299, (0, 9, none)), (202, 0, 593, ck_one 0)]))])
set_option maxRecDepth 100000 in
theorem p2x_158_e : ck_ok p1_O none [] [(6, [p2x_151]), (7, [p2x_154]), (12, [p2x_157])] 5 [] 90 p2x_158 = true := by decide +kernel
theorem p2x_158_s {X : Int → Int} {LX : Nat} : ck_Ok p1_O X LX 5 p2x_158 := ck_ok_s (ck_E1 (ck_S1 p2x_151_s ck_S0) (ck_E1 (ck_S1 p2x_154_s ck_S0) (ck_E1 (ck_S1 p2x_157_s ck_S0) ck_E0))) ck_X0 ck_l0 p2x_158_e
set_option maxRecDepth 100000 in
def p2x_159 : ck_Sum := ((0, 0, 0), 245, [.inr (.inr (.inl 42))], ([], [], []), ([(42, 2, 2)], []), [(.inr none, 245, ([], [], [(42, 2, 2, ck_one 0)]))])
set_option maxRecDepth 100000 in
theorem p2x_159_e : ck_ok p1_O none [] [] 62 [] 78 p2x_159 = true := by decide +kernel
theorem p2x_159_s {X : Int → Int} {LX : Nat} : ck_Ok p1_O X LX 62 p2x_159 := ck_ok_s (ck_E0) ck_X0 ck_l0 p2x_159_e
set_option maxRecDepth 100000 in
def p2x_160 : ck_Sum := ((3, 0, 0), 245, [.inr (.inr (.inl 1))], ([], [], [(6, 3, 3, ck_one 0), (4, 3, 3, ck_one 0), (3, 5, 5, ck_one 1), (203, 0, 299, ck_one 0), (202, 0, 593, ck_one 0), (201, 0, 299, (0, 9, none))]), ([(1, 15, 15), (42, 2, 2), (200, 6, 6), (201, 0, 299), (202, 0, 593), (203, 0, 299)], []), [(.inr none, 245, ([], [], [(1, 15, 15, ck_one 0), (42, 2, 2, ck_one 0), (200, 6, 6, ck_one 1), (203, 0, 299, ck_one 0), (201, 0, 299, (0, 9, none)), (202, 0, 593, ck_one 0)]))])
set_option maxRecDepth 100000 in
theorem p2x_160_e : ck_ok p1_O none [] [(5, [p2x_158]), (62, [p2x_159])] 61 [] 90 p2x_160 = true := by decide +kernel
theorem p2x_160_s {X : Int → Int} {LX : Nat} : ck_Ok p1_O X LX 61 p2x_160 := ck_ok_s (ck_E1 (ck_S1 p2x_158_s ck_S0) (ck_E1 (ck_S1 p2x_159_s ck_S0) ck_E0)) ck_X0 ck_l0 p2x_160_e
set_option maxRecDepth 100000 in
def p2x_161 : ck_Sum := ((4, 0, 0), 245, [.inr (.inr (.inl 1))], ([], [(3, 8, 0), (16, 8, 0)], [(214, 7, 7, ck_one (-1)), (214, 6, 6, ck_one 256), (214, 4, 4, ck_one 0), (214, 3, 3, ck_one 0), (214, 2, 2, ck_one 0), (27, 0, 0, ck_one 24), (27, 3, 3, ck_one 0), (25, 0, 0, ck_one 6), (25, 3, 3, ck_one 0), (23, 0, 0, ck_one 24), (23, 3, 3, ck_one 0), (21, 0, 0, ck_one 8), (21, 3, 3, ck_one 0), (19, 0, 0, ck_one 8), (19, 3, 3, ck_one 0), (17, 0, 0, ck_one 8), (17, 3, 3, ck_one 0), (16, 7, 7, ck_one 0), (16, 6, 6, ck_one 0), (16, 5, 5, ck_one 1), (16, 4, 4, ck_one 3), (16, 3, 3, ck_one 2), (16, 2, 2, ck_one 10), (16, 1, 1, ck_one 40), (16, 0, 0, ck_one 3), (14, 0, 0, ck_one 24), (14, 3, 3, ck_one 0), (12, 0, 0, ck_one 6), (12, 3, 3, ck_one 0), (10, 0, 0, ck_one 24), (10, 3, 3, ck_one 0), (8, 0, 0, ck_one 8), (8, 3, 3, ck_one 0), (6, 0, 0, ck_one 8), (6, 3, 3, ck_one 0), (4, 0, 0, ck_one 8), (4, 3, 3, ck_one 0), (3, 7, 7, ck_one 0), (3, 6, 6, ck_one 0), (3, 5, 5, ck_one 1), (3, 4, 4, ck_one 3), (3, 3, 3, ck_one 2), (3, 2, 2, ck_one 10), (3, 1, 1, ck_one 40), (3, 0, 0, ck_one 3), (1, 2, 2, ck_one (-1)), (1, 1, 1, ck_one 0), (203, 0, 299, ck_one 0), (202, 0, 593, ck_one 0), (201, 0, 299, (0, 9, none))]), ([(1, 1, 2), (1, 15, 15), (3, 0, 7), (4, 3, 3), (5, 0, 55), (6, 3, 3), (7, 0, 23), (8, 3, 3), (9, 0, 23), (10, 3, 3), (11, 0, 167), (12, 3, 3), (13, 0, 35), (14, 3, 3), (15, 0, 71), (16, 0, 7), (17, 3, 3), (18, 0, 55), (19, 3, 3), (20, 0, 23), (21, 3, 3), (22, 0, 23), (23, 3, 3), (24, 0, 167), (25, 3, 3), (26, 0, 35), (27, 3, 3), (28, 0, 71), (42, 2, 2), (200, 6, 6), (201, 0, 299), (202, 0, 593), (203, 0, 299), (214, 2, 7)], [(3, 8), (16, 8)]), [(.inr (some (.inl (ck_one 1))), 245, ([], [(3, 8, 0), (16, 8, 0)], [(1, 15, 15, ck_one 0), (42, 2, 2, ck_one 0), (200, 6, 6, ck_one 1), (3, 7, 7, ck_one 1), (14, 3, 3, ck_one 0), (12, 3, 3, ck_one 0), (10, 3, 3, ck_one 0), (8, 3, 3, ck_one 0), (6, 3, 3, ck_one 0), (4, 3, 3, ck_one 0), (3, 6, 6, ck_one 0), (3, 5, 5, ck_one 1), (3, 4, 4, ck_one 3), (3, 3, 3, ck_one 2), (3, 2, 2, ck_one 10), (3, 1, 1, ck_one 40), (3, 0, 0, ck_one 3), (1, 1, 1, ck_one 0), (1, 2, 2, ck_one (-1)), (214, 6, 6, ck_one 256), (214, 7, 7, ck_one (-1)), (214, 4, 4, ck_one 0), (214, 5, 5, ck_one (-1)), (214, 3, 3, ck_one 0), (214, 2, 2, ck_one 0), (27, 3, 3, ck_one 0), (25, 3, 3, ck_one 0), (23, 3, 3, ck_one 0), (21, 3, 3, ck_one 0), (19, 3, 3, ck_one 0), (17, 3, 3, ck_one 0), (16, 7, 7, ck_one 0), (16, 6, 6, ck_one 0), (16, 5, 5, ck_one 1), (16, 4, 4, ck_one 3), (16, 3, 3, ck_one 2), (16, 2, 2, ck_one 10), (16, 1, 1, ck_one 40), (16, 0, 0, ck_one 3), (203, 0, 299, ck_one 0), (201, 0, 299, (0, 9, none)), (202, 0, 593, ck_one 0)]))])
set_option maxRecDepth 100000 in
theorem p2x_161_e : ck_ok p1_O none [] [(57, [p2x_139, p2x_150]), (72, [p2x_143]), (61, [p2x_160])] 71 [] 154 p2x_161 = true := by decide +kernel
theorem p2x_161_s {X : Int → Int} {LX : Nat} : ck_Ok p1_O X LX 71 p2x_161 := ck_ok_s (ck_E1 (ck_S1 p2x_139_s (ck_S1 p2x_150_s ck_S0)) (ck_E1 (ck_S1 p2x_143_s ck_S0) (ck_E1 (ck_S1 p2x_160_s ck_S0) ck_E0))) ck_X0 ck_l0 p2x_161_e
set_option maxRecDepth 100000 in
def p2x_162 : ck_Sum := ((5, 0, 0), 245, [.inr (.inr (.inl 1)), .inr (.inr (.inl 245))], ([], [(3, 8, 0), (16, 8, 0)], [(214, 7, 7, ck_one (-1)), (214, 6, 6, ck_one 256), (214, 4, 4, ck_one 0), (214, 3, 3, ck_one 0), (214, 2, 2, ck_one 0), (27, 0, 0, ck_one 24), (27, 3, 3, ck_one 0), (25, 0, 0, ck_one 6), (25, 3, 3, ck_one 0), (23, 0, 0, ck_one 24), (23, 3, 3, ck_one 0), (21, 0, 0, ck_one 8), (21, 3, 3, ck_one 0), (19, 0, 0, ck_one 8), (19, 3, 3, ck_one 0), (17, 0, 0, ck_one 8), (17, 3, 3, ck_one 0), (16, 7, 7, ck_one 0), (16, 6, 6, ck_one 0), (16, 5, 5, ck_one 1), (16, 4, 4, ck_one 3), (16, 3, 3, ck_one 2), (16, 2, 2, ck_one 10), (16, 1, 1, ck_one 40), (16, 0, 0, ck_one 3), (14, 0, 0, ck_one 24), (14, 3, 3, ck_one 0), (12, 0, 0, ck_one 6), (12, 3, 3, ck_one 0), (10, 0, 0, ck_one 24), (10, 3, 3, ck_one 0), (8, 0, 0, ck_one 8), (8, 3, 3, ck_one 0), (6, 0, 0, ck_one 8), (6, 3, 3, ck_one 0), (4, 0, 0, ck_one 8), (4, 3, 3, ck_one 0), (3, 7, 7, ck_one 0), (3, 6, 6, ck_one 0), (3, 5, 5, ck_one 1), (3, 4, 4, ck_one 3), (3, 3, 3, ck_one 2), (3, 2, 2, ck_one 10), (3, 1, 1, ck_one 40), (3, 0, 0, ck_one 3), (1, 2, 2, ck_one (-1)), (1, 1, 1, ck_one 0), (203, 0, 299, ck_one 0), (202, 0, 593, ck_one 0), (201, 0, 299, (0, 9, none))]), ([(1, 1, 2), (1, 15, 15), (3, 0, 7), (4, 3, 3), (5, 0, 55), (6, 3, 3), (7, 0, 23), (8, 3, 3), (9, 0, 23), (10, 3, 3), (11, 0, 167), (12, 3, 3), (13, 0, 35), (14, 3, 3), (15, 0, 71), (16, 0, 7), (17, 3, 3), (18, 0, 55), (19, 3, 3), (20, 0, 23), (21, 3, 3), (22, 0, 23), (23, 3, 3), (24, 0, 167), (25, 3, 3), (26, 0, 35), (27, 3, 3), (28, 0, 71), (42, 2, 2), (200, 6, 6), (201, 0, 299), (202, 0, 593), (203, 0, 299), (214, 2, 7), (245, 0, 0)], [(3, 8), (16, 8)]), [(.inr (some (.inl (ck_one 0))), 245, ([], [(3, 8, 0), (16, 8, 0)], [(245, 0, 0, ck_one 1), (1, 15, 15, ck_one 0), (42, 2, 2, ck_one 0), (200, 6, 6, ck_one 1), (3, 7, 7, ck_one 1), (14, 3, 3, ck_one 0), (12, 3, 3, ck_one 0), (10, 3, 3, ck_one 0), (8, 3, 3, ck_one 0), (6, 3, 3, ck_one 0), (4, 3, 3, ck_one 0), (3, 6, 6, ck_one 0), (3, 5, 5, ck_one 1), (3, 4, 4, ck_one 3), (3, 3, 3, ck_one 2), (3, 2, 2, ck_one 10), (3, 1, 1, ck_one 40), (3, 0, 0, ck_one 3), (1, 1, 1, ck_one 0), (1, 2, 2, ck_one (-1)), (214, 6, 6, ck_one 256), (214, 7, 7, ck_one (-1)), (214, 4, 4, ck_one 0), (214, 5, 5, ck_one (-1)), (214, 3, 3, ck_one 0), (214, 2, 2, ck_one 0), (27, 3, 3, ck_one 0), (25, 3, 3, ck_one 0), (23, 3, 3, ck_one 0), (21, 3, 3, ck_one 0), (19, 3, 3, ck_one 0), (17, 3, 3, ck_one 0), (16, 7, 7, ck_one 0), (16, 6, 6, ck_one 0), (16, 5, 5, ck_one 1), (16, 4, 4, ck_one 3), (16, 3, 3, ck_one 2), (16, 2, 2, ck_one 10), (16, 1, 1, ck_one 40), (16, 0, 0, ck_one 3), (203, 0, 299, ck_one 0), (201, 0, 299, (0, 9, none)), (202, 0, 593, ck_one 0)]))])
set_option maxRecDepth 100000 in
theorem p2x_162_e : ck_ok p1_O none [] [(71, [p2x_161])] 70 [] 88 p2x_162 = true := by decide +kernel
theorem p2x_162_s {X : Int → Int} {LX : Nat} : ck_Ok p1_O X LX 70 p2x_162 := ck_ok_s (ck_E1 (ck_S1 p2x_161_s ck_S0) ck_E0) ck_X0 ck_l0 p2x_162_e
set_option maxRecDepth 100000 in
def p2x_163 : ck_Sum := ((0, 0, 0), 245, [.inr (.inr (.inl 226))], ([], [], [(226, 8, 8, ck_one 0)]), ([(226, 0, 0), (226, 8, 10)], []), [(.inr none, 245, ([], [], [(226, 9, 9, ck_one 0), (226, 8, 8, ck_one 0), (226, 10, 10, ck_one 0), (226, 0, 0, ck_one 0)]))])
set_option maxRecDepth 100000 in
theorem p2x_163_e : ck_ok p1_O none [] [] 245 [] 98 p2x_163 = true := by decide +kernel
theorem p2x_163_s {X : Int → Int} {LX : Nat} : ck_Ok p1_O X LX 245 p2x_163 := ck_ok_s (ck_E0) ck_X0 ck_l0 p2x_163_e
set_option maxRecDepth 100000 in
def p2x_169 : ck_Sum := ((0, 0, 0), 245, [.inr (.inr (.inl 226)), .inl (ck_one 32), .inl (ck_one 32)], ([], [], [(226, 9, 9, ck_one 0), (226, 10, 10, ck_one 0)]), ([], []), [(.inr (some (.inl (ck_one 0))), 245, ([], [], []))])
set_option maxRecDepth 100000 in
theorem p2x_169_e : ck_ok p1_O none [] [] 247 [] 84 p2x_169 = true := by decide +kernel
theorem p2x_169_s {X : Int → Int} {LX : Nat} : ck_Ok p1_O X LX 247 p2x_169 := ck_ok_s (ck_E0) ck_X0 ck_l0 p2x_169_e
set_option maxRecDepth 100000 in
def p2x_170 : ck_Sum := ((1, 0, 0), 245, [.inr (.inr (.inl 226))], ([], [], [(226, 9, 9, ck_one 0), (226, 10, 10, ck_one 0), (226, 11, 11, ck_one 0)]), ([(226, 11, 11)], []), [(.inr none, 245, ([], [], [(226, 11, 11, ck_one 0)]))])
set_option maxRecDepth 100000 in
theorem p2x_170_e : ck_ok p1_O none [] [(247, [p2x_169])] 246 [(0, [some (.inr (.inr (.inl 226)))], ([], [], [(226, 9, 9, ck_one 0), (226, 10, 10, ck_one 0), (226, 11, 11, ck_one 0)]), 100, .inr (226, 9), true)] 130 p2x_170 = true := by decide +kernel
theorem p2x_170_s {X : Int → Int} {LX : Nat} : ck_Ok p1_O X LX 246 p2x_170 := ck_ok_s (ck_E1 (ck_S1 p2x_169_s ck_S0) ck_E0) ck_X0 ck_l0 p2x_170_e
set_option maxRecDepth 100000 in
def p2x_171 : ck_Sum := ((2, 0, 0), 245, [.inr (.inr (.inl 226)), .inl (ck_one 1)], ([], [], [(226, 8, 8, ck_one 0), (226, 9, 9, ck_one 0), (226, 10, 10, ck_one 0), (226, 11, 11, ck_one 0)]), ([(226, 0, 0), (226, 8, 11), (226, 15, 15)], []), [(.inr (some (.inl (ck_one 0))), 245, ([], [], [(226, 11, 11, ck_one 0), (226, 15, 15, ck_one 0), (226, 9, 9, ck_one 0), (226, 8, 8, ck_one 0), (226, 10, 10, ck_one 0), (226, 0, 0, ck_one 0)]))])
set_option maxRecDepth 100000 in
theorem p2x_171_e : ck_ok p1_O none [] [(245, [p2x_163]), (246, [p2x_170])] 244 [] 98 p2x_171 = true := by decide +kernel
theorem p2x_171_s {X : Int → Int} {LX : Nat} : ck_Ok p1_O X LX 244 p2x_171 := ck_ok_s (ck_E1 (ck_S1 p2x_163_s ck_S0) (ck_E1 (ck_S1 p2x_170_s ck_S0) ck_E0)) ck_X0 ck_l0 p2x_171_e
set_option maxRecDepth 100000 in
def p2x_172 : ck_Sum := ((0, 0, 0), 245, [.inr (.inr (.inl 226)), .inl (ck_one 0), .inl (ck_one 1)], ([], [], []), ([], []), [(.inr (some (.inl (ck_one 0))), 245, ([], [], []))])
set_option maxRecDepth 100000 in
theorem p2x_172_e : ck_ok p1_O none [] [] 283 [] 78 p2x_172 = true := by decide +kernel
theorem p2x_172_s {X : Int → Int} {LX : Nat} : ck_Ok p1_O X LX 283 p2x_172 := ck_ok_s (ck_E0) ck_X0 ck_l0 p2x_172_e
set_option maxRecDepth 100000 in
def p2x_173 : ck_Sum := ((0, 0, 0), 245, [.inr (.inr (.inl 226)), .inl (ck_one 0), .inl (ck_one 2)], ([], [], []), ([], []), [(.inr (some (.inl (ck_one 0))), 245, ([], [], []))])
set_option maxRecDepth 100000 in
theorem p2x_173_e : ck_ok p1_O none [] [] 283 [] 78 p2x_173 = true := by decide +kernel
theorem p2x_173_s {X : Int → Int} {LX : Nat} : ck_Ok p1_O X LX 283 p2x_173 := ck_ok_s (ck_E0) ck_X0 ck_l0 p2x_173_e
set_option maxRecDepth 100000 in
def p2x_174 : ck_Sum := ((0, 0, 0), 245, [.inr (.inr (.inl 226))], ([], [], [(226, 26, 26, ck_one (-1)), (227, 13, 13, ck_one 1), (234, 0, 299, (0, 9, none))]), ([(226, 26, 26), (234, 0, 299)], []), [(.inr none, 245, ([], [], [(226, 26, 26, ck_one (-1)), (234, 0, 299, (0, 9, none))]))])
set_option maxRecDepth 100000 in
theorem p2x_174_e : ck_ok p1_O none [] [] 236 [(10, [some (.inr (.inr (.inl 226))), some (.inl ((-2147483648), 2147483647, none)), some (.inl (0, 300, none))], ([], [], [(226, 26, 26, ck_one (-1)), (227, 13, 13, ck_one 1), (234, 0, 299, (0, 9, none))]), 100, .inl 2, true)] 182 p2x_174 = true := by decide +kernel
theorem p2x_174_s {X : Int → Int} {LX : Nat} : ck_Ok p1_O X LX 236 p2x_174 := ck_ok_s (ck_E0) ck_X0 ck_l0 p2x_174_e
set_option maxRecDepth 100000 in
def p2x_175 : ck_Sum := ((3, 0, 0), 245, [.inr (.inr (.inl 226))], ([], [], [(226, 26, 26, ck_one (-1)), (227, 13, 13, ck_one 1), (226, 13, 13, ck_one (-1)), (227, 2, 9, ck_one 0), (226, 0, 0, ck_one 0), (226, 6, 6, ck_one 0), (226, 8, 8, ck_one 0), (226, 9, 9, ck_one 0), (226, 10, 10, ck_one 0), (226, 11, 11, ck_one 0), (226, 15, 15, ck_one 0), (234, 0, 299, (0, 9, none))]), ([(226, 0, 0), (226, 6, 6), (226, 8, 11), (226, 13, 13), (226, 15, 15), (226, 26, 26), (227, 7, 7), (229, 0, 1243), (234, 0, 299)], []), [(.inr (some (.inl (ck_one 1))), 245, ([], [], [(226, 26, 26, ck_one (-1)), (226, 6, 6, ck_one 0), (227, 7, 7, ck_one 1), (226, 13, 13, ck_one (-1)), (226, 11, 11, ck_one 0), (226, 15, 15, ck_one 0), (226, 9, 9, ck_one 0), (226, 8, 8, ck_one 0), (226, 10, 10, ck_one 0), (226, 0, 0, ck_one 0), (234, 0, 299, (0, 9, none))]))])
set_option maxRecDepth 100000 in
theorem p2x_175_e : ck_ok p1_O none [] [(244, [p2x_171]), (283, [p2x_172, p2x_173]), (236, [p2x_174])] 243 [(2, [some (.inr (.inr (.inl 226))), some (.inl (0, 1244, none)), none], ([], [], [(226, 26, 26, ck_one (-1)), (227, 13, 13, ck_one 1), (226, 13, 13, ck_one (-1)), (227, 2, 9, ck_one 0), (226, 0, 0, ck_one 0), (226, 6, 6, ck_one 0), (226, 8, 8, ck_one 0), (226, 9, 9, ck_one 0), (226, 10, 10, ck_one 0), (226, 11, 11, ck_one 0), (226, 15, 15, ck_one 0), (234, 0, 299, (0, 9, none))]), 100, .inl 1, true)] 282 p2x_175 = true := by decide +kernel
theorem p2x_175_s {X : Int → Int} {LX : Nat} : ck_Ok p1_O X LX 243 p2x_175 := ck_ok_s (ck_E1 (ck_S1 p2x_171_s ck_S0) (ck_E1 (ck_S1 p2x_172_s (ck_S1 p2x_173_s ck_S0)) (ck_E1 (ck_S1 p2x_174_s ck_S0) ck_E0))) ck_X0 ck_l0 p2x_175_e
set_option maxRecDepth 100000 in
def p2x_176 : ck_Sum := ((0, 0, 0), 245, [.inr (.inr (.inl 226))], ([], [], [(226, 0, 0, ck_one 0)]), ([], []), [(.inr (some (.inl (ck_one 0))), 245, ([], [], []))])
set_option maxRecDepth 100000 in
theorem p2x_176_e : ck_ok p1_O none [] [] 234 [] 76 p2x_176 = true := by decide +kernel
theorem p2x_176_s {X : Int → Int} {LX : Nat} : ck_Ok p1_O X LX 234 p2x_176 := ck_ok_s (ck_E0) ck_X0 ck_l0 p2x_176_e
set_option maxRecDepth 100000 in
def p2_F : ck_F := ([], [(3, 8, 0), (16, 8, 0), (29, 8, 0), (44, 8, 0), (57, 8, 0), (70, 8, 0), (83, 8, 0), (96, 8, 0), (109, 8, 0), (122, 8, 0), (135, 8, 0), (148, 8, 0), (161, 8, 0), (174, 8, 0), (187, 8, 0)], [(245, 0, 0, ck_one 0), (226, 26, 26, ck_one (-1)), (227, 13, 13, ck_one 1), (226, 13, 13, ck_one (-1)), (227, 2, 9, ck_one 0), (226, 0, 0, ck_one 0), (226, 6, 6, ck_one 0), (226, 8, 8, ck_one 0), (226, 9, 9, ck_one 0), (226, 10, 10, ck_one 0), (226, 11, 11, ck_one 0), (226, 15, 15, ck_one 0), (214, 7, 7, ck_one (-1)), (214, 6, 6, ck_one 256), (214, 4, 4, ck_one 0), (214, 3, 3, ck_one 0), (214, 2, 2, ck_one 0), (27, 0, 0, ck_one 24), (27, 3, 3, ck_one 0), (25, 0, 0, ck_one 6), (25, 3, 3, ck_one 0), (23, 0, 0, ck_one 24), (23, 3, 3, ck_one 0), (21, 0, 0, ck_one 8), (21, 3, 3, ck_one 0), (19, 0, 0, ck_one 8), (19, 3, 3, ck_one 0), (17, 0, 0, ck_one 8), (17, 3, 3, ck_one 0), (16, 7, 7, ck_one 0), (16, 6, 6, ck_one 0), (16, 5, 5, ck_one 1), (16, 4, 4, ck_one 3), (16, 3, 3, ck_one 2), (16, 2, 2, ck_one 10), (16, 1, 1, ck_one 40), (16, 0, 0, ck_one 3), (14, 0, 0, ck_one 24), (14, 3, 3, ck_one 0), (12, 0, 0, ck_one 6), (12, 3, 3, ck_one 0), (10, 0, 0, ck_one 24), (10, 3, 3, ck_one 0), (8, 0, 0, ck_one 8), (8, 3, 3, ck_one 0), (6, 0, 0, ck_one 8), (6, 3, 3, ck_one 0), (4, 0, 0, ck_one 8), (4, 3, 3, ck_one 0), (3, 7, 7, ck_one 0), (3, 6, 6, ck_one 0), (3, 5, 5, ck_one 1), (3, 4, 4, ck_one 3), (3, 3, 3, ck_one 2), (3, 2, 2, ck_one 10), (3, 1, 1, ck_one 40), (3, 0, 0, ck_one 3), (1, 2, 2, ck_one (-1)), (1, 1, 1, ck_one 0), (203, 0, 299, ck_one 0), (202, 0, 593, ck_one 0), (234, 0, 299, (0, 9, none)), (201, 0, 299, (0, 9, none))])
def p2_E : List (Nat × List ck_Sum) := [(70, [p2x_162]), (243, [p2x_175]), (234, [p2x_176])]
theorem p2_h {X : Int → Int} {LX : Nat} : ck_OkE p1_O X LX p2_E := ck_E1 (ck_S1 p2x_162_s ck_S0) (ck_E1 (ck_S1 p2x_175_s ck_S0) (ck_E1 (ck_S1 p2x_176_s ck_S0) ck_E0))
set_option maxRecDepth 100000 in
theorem p2_b : (ck_prod []).all (fun xf => ck_go p1_O (some 6) xf p2_E 370 280 245 p1_W p1_outs [] 112 false [] 1000 2000 342 p1_L [] 245 p2_F) = true := by decide +kernel
theorem p2_s {X : Int → Int} {LX : Nat} (hLX : 6 = LX) (hX : ∀ j, gm_ir (X j)) {σ : Nat → Int} {L : gm_L} {K0 K : gm_K} {R0 R : gm_R} {M0 M : gm_M} (hS : ck_St p1_O σ p1_W 245 K0 R0 M0 p1_L [] p2_F L [] 245 K R M) : gm_Wp X LX 280 1000 2000 370 342 L [] 245 K R M (ck_Q p1_O σ p1_W 245 K0 R0 M0 p1_outs) := ck_boxes p2_h hLX hX (by decide +kernel) p2_b hS
