/-! law, on a new object: laid by wip/am/p1g.py. -/
set_option maxRecDepth 100000 in
def p3x_133 : ck_Sum := ((0, 0, 0), 245, [.inr (.inr (.inl 218)), .inl (ck_one 0)], ([], [], []), ([(218, 0, 47)], []), [(.inr none, 245, ([], [], []))])
set_option maxRecDepth 100000 in
theorem p3x_133_e : ck_ok p1_O none [] [] 8 [(5, [some (.inr (.inr (.inl 218))), some (.inl (ck_one 0)), some (.inl (0, 48, none)), some (.inl (ck_one 48))], ([], [], []), 100, .inl 2, true)] 130 p3x_133 = true := by decide +kernel
theorem p3x_133_s {X : Int → Int} {LX : Nat} : ck_Ok p1_O X LX 8 p3x_133 := ck_ok_s (ck_E0) ck_X0 ck_l0 p3x_133_e
set_option maxRecDepth 100000 in
def p3x_134 : ck_Sum := ((1, 0, 0), 245, [.inr (.inr (.inl 217)), .inl (ck_one 0)], ([], [], [(217, 0, 0, ck_one 12)]), ([(217, 3, 3), (218, 0, 47)], []), [(.inr none, 245, ([], [], [(217, 3, 3, ck_one 0)]))])
set_option maxRecDepth 100000 in
theorem p3x_134_e : ck_ok p1_O none [] [(8, [p3x_133])] 25 [] 96 p3x_134 = true := by decide +kernel
theorem p3x_134_s {X : Int → Int} {LX : Nat} : ck_Ok p1_O X LX 25 p3x_134 := ck_ok_s (ck_E1 (ck_S1 p3x_133_s ck_S0) ck_E0) ck_X0 ck_l0 p3x_134_e
set_option maxRecDepth 100000 in
def p3x_135 : ck_Sum := ((2, 0, 0), 245, [.inr (.inr (.inl 215))], ([], [], [(217, 0, 0, ck_one 12)]), ([(215, 4, 4), (217, 3, 3), (218, 0, 47)], []), [(.inr none, 245, ([], [], [(215, 4, 4, ck_one 0), (217, 3, 3, ck_one 0)]))])
set_option maxRecDepth 100000 in
theorem p3x_135_e : ck_ok p1_O none [] [(25, [p3x_134])] 73 [] 86 p3x_135 = true := by decide +kernel
theorem p3x_135_s {X : Int → Int} {LX : Nat} : ck_Ok p1_O X LX 73 p3x_135 := ck_ok_s (ck_E1 (ck_S1 p3x_134_s ck_S0) ck_E0) ck_X0 ck_l0 p3x_135_e
set_option maxRecDepth 100000 in
def p3x_136 : ck_Sum := ((0, 0, 0), 245, [.inr (.inr (.inl 216))], ([], [], [(216, 3, 3, ck_one 0), (216, 2, 2, ck_one 0), (216, 7, 7, ck_one (-1)), (216, 6, 6, ck_one 256), (216, 4, 4, ck_one 0)]), ([(216, 4, 4), (216, 6, 7)], []), [(.inr none, 245, ([], [], [(216, 6, 6, ck_one 256), (216, 7, 7, ck_one (-1)), (216, 4, 4, ck_one 0)]))])
set_option maxRecDepth 100000 in
theorem p3x_136_e : ck_ok p1_O none [] [] 76 [(0, [some (.inr (.inr (.inl 216))), none], ([], [], [(216, 3, 3, ck_one 0), (216, 2, 2, ck_one 0), (216, 7, 7, ck_one (-1)), (216, 6, 6, ck_one 256), (216, 4, 4, ck_one 0)]), 100, .inr (216, 3), true)] 178 p3x_136 = true := by decide +kernel
theorem p3x_136_s {X : Int → Int} {LX : Nat} : ck_Ok p1_O X LX 76 p3x_136 := ck_ok_s (ck_E0) ck_X0 ck_l0 p3x_136_e
set_option maxRecDepth 100000 in
def p3x_137 : ck_Sum := ((1, 0, 0), 245, [.inr (.inr (.inl 216)), .inl (ck_one 0)], ([], [], [(216, 7, 7, ck_one (-1)), (216, 6, 6, ck_one 256), (216, 4, 4, ck_one 0), (216, 3, 3, ck_one 0), (216, 2, 2, ck_one 0)]), ([(216, 2, 7)], []), [(.inr none, 245, ([], [], [(216, 6, 6, ck_one 256), (216, 7, 7, ck_one (-1)), (216, 4, 4, ck_one 0), (216, 5, 5, ck_one (-1)), (216, 3, 3, ck_one 0), (216, 2, 2, ck_one 0)]))])
set_option maxRecDepth 100000 in
theorem p3x_137_e : ck_ok p1_O none [] [(76, [p3x_136])] 75 [] 102 p3x_137 = true := by decide +kernel
theorem p3x_137_s {X : Int → Int} {LX : Nat} : ck_Ok p1_O X LX 75 p3x_137 := ck_ok_s (ck_E1 (ck_S1 p3x_136_s ck_S0) ck_E0) ck_X0 ck_l0 p3x_137_e
set_option maxRecDepth 100000 in
def p3x_138 : ck_Sum := ((3, 0, 0), 245, [.inr (.inr (.inl 215)), .inl (ck_one 0)], ([], [], [(217, 0, 0, ck_one 12), (216, 7, 7, ck_one (-1)), (216, 6, 6, ck_one 256), (216, 4, 4, ck_one 0), (216, 3, 3, ck_one 0), (216, 2, 2, ck_one 0)]), ([(215, 4, 4), (216, 2, 7), (217, 3, 3), (218, 0, 47)], []), [(.inr (some (.inl (ck_one (-1)))), 245, ([], [], [(216, 6, 6, ck_one 256), (216, 7, 7, ck_one (-1)), (216, 4, 4, ck_one 0), (216, 5, 5, ck_one (-1)), (216, 3, 3, ck_one 0), (216, 2, 2, ck_one 0), (215, 4, 4, ck_one 0), (217, 3, 3, ck_one 0)]))])
set_option maxRecDepth 100000 in
theorem p3x_138_e : ck_ok p1_O none [] [(73, [p3x_135]), (75, [p3x_137])] 72 [] 96 p3x_138 = true := by decide +kernel
theorem p3x_138_s {X : Int → Int} {LX : Nat} : ck_Ok p1_O X LX 72 p3x_138 := ck_ok_s (ck_E1 (ck_S1 p3x_135_s ck_S0) (ck_E1 (ck_S1 p3x_137_s ck_S0) ck_E0)) ck_X0 ck_l0 p3x_138_e
set_option maxRecDepth 100000 in
def p3x_139 : ck_Sum := ((1, 1, 0), 246, [.inr (.inr (.inl 219)), .inl (ck_one 0)], ([], [], []), ([], []), [(.inr (some (.inr (.inr (.inl 247)))), 247, ([(247, 0, 0)], [], [(247, 0, (-1), ck_one 0)]))])
set_option maxRecDepth 100000 in
theorem p3x_139_e : ck_ok p1_O none [] [] 125 [] 106 p3x_139 = true := by decide +kernel
theorem p3x_139_s {X : Int → Int} {LX : Nat} : ck_Ok p1_O X LX 125 p3x_139 := ck_ok_s (ck_E0) ck_X0 ck_l0 p3x_139_e
set_option maxRecDepth 100000 in
def p3x_140 : ck_Sum := ((1, 1, 48), 248, [.inr (.inr (.inl 248)), .inl (ck_one 12), .inl (ck_one 4)], ([(248, 6, 0)], [], []), ([(248, 0, 1), (248, 3, 3)], [(248, 2)]), [(.inr none, 249, ([(249, 0, 48)], [(248, 2, 249)], [(248, 1, 1, ck_one 4), (248, 0, 0, ck_one 12), (248, 3, 3, ck_one 0)]))])
set_option maxRecDepth 100000 in
theorem p3x_140_e : ck_ok p1_O none [] [] 2 [] 106 p3x_140 = true := by decide +kernel
theorem p3x_140_s {X : Int → Int} {LX : Nat} : ck_Ok p1_O X LX 2 p3x_140 := ck_ok_s (ck_E0) ck_X0 ck_l0 p3x_140_e
set_option maxRecDepth 100000 in
def p3x_141 : ck_Sum := ((1, 0, 0), 249, [.inr (.inr (.inl 248)), .inr (.inr (.inl 217))], ([(248, 6, 0), (249, 0, 48)], [(248, 2, 249)], [(248, 0, 0, ck_one 12), (217, 3, 3, ck_one 0)]), ([(248, 3, 3), (249, 0, 47)], []), [(.inr none, 249, ([], [], [(248, 3, 3, ck_one 0)]))])
set_option maxRecDepth 100000 in
theorem p3x_141_e : ck_ok p1_O none [] [] 58 [] 114 p3x_141 = true := by decide +kernel
theorem p3x_141_s {X : Int → Int} {LX : Nat} : ck_Ok p1_O X LX 58 p3x_141 := ck_ok_s (ck_E0) ck_X0 ck_l0 p3x_141_e
set_option maxRecDepth 100000 in
def p3x_142 : ck_Sum := ((2, 2, 52), 247, [.inr (.inr (.inl 246)), .inr (.inr (.inl 217)), .inr (.inr (.inl 247))], ([(246, 14, 0)], [], [(217, 3, 3, ck_one 0)]), ([], [(246, 0), (246, 1)]), [(.inr none, 249, ([(248, 6, 0), (249, 0, 48)], [(246, 0, 248), (246, 1, 247), (248, 2, 249)], [(248, 3, 3, ck_one 0), (248, 1, 1, ck_one 4), (248, 0, 0, ck_one 12), (248, 2, 2, ck_one 0)]))])
set_option maxRecDepth 100000 in
theorem p3x_142_e : ck_ok p1_O none [] [(2, [p3x_140]), (58, [p3x_141])] 126 [] 104 p3x_142 = true := by decide +kernel
theorem p3x_142_s {X : Int → Int} {LX : Nat} : ck_Ok p1_O X LX 126 p3x_142 := ck_ok_s (ck_E1 (ck_S1 p3x_140_s ck_S0) (ck_E1 (ck_S1 p3x_141_s ck_S0) ck_E0)) ck_X0 ck_l0 p3x_142_e
set_option maxRecDepth 100000 in
def p3x_143 : ck_Sum := ((3, 4, 54), 245, [.inr (.inr (.inl 215))], ([], [], [(215, 4, 4, ck_one 0), (217, 3, 3, ck_one 0)]), ([], []), [(.inr (some (.inr (.inr (.inl 246)))), 249, ([(246, 14, 0), (247, 0, 0), (248, 6, 0), (249, 0, 48)], [(246, 0, 248), (246, 1, 247), (248, 2, 249)], [(247, 0, (-1), ck_one 0), (248, 3, 3, ck_one 0), (248, 1, 1, ck_one 4), (248, 0, 0, ck_one 12), (248, 2, 2, ck_one 0), (246, 0, 0, ck_one 0), (246, 1, 1, ck_one 0)]))])
set_option maxRecDepth 100000 in
theorem p3x_143_e : ck_ok p1_O none [] [(125, [p3x_139]), (126, [p3x_142])] 124 [] 92 p3x_143 = true := by decide +kernel
theorem p3x_143_s {X : Int → Int} {LX : Nat} : ck_Ok p1_O X LX 124 p3x_143 := ck_ok_s (ck_E1 (ck_S1 p3x_139_s ck_S0) (ck_E1 (ck_S1 p3x_142_s ck_S0) ck_E0)) ck_X0 ck_l0 p3x_143_e
set_option maxRecDepth 100000 in
def p3x_144 : ck_Sum := ((0, 0, 0), 249, [.inr (.inr (.inl 200))], ([], [], [(3, 5, 5, ck_one 1), (201, 0, 299, (0, 9, none))]), ([(201, 0, 299)], []), [(.inr none, 249, ([], [], [(201, 0, 299, (0, 9, none))]))])
set_option maxRecDepth 100000 in
theorem p3x_144_e : ck_ok p1_O none [] [] 6 [(10, [some (.inr (.inr (.inl 200))), some (.inl ((-2147483648), 2147483647, none)), some (.inl (0, 300, none))], ([], [], [(3, 5, 5, ck_one 1), (201, 0, 299, (0, 9, none))]), 100, .inl 2, true)] 182 p3x_144 = true := by decide +kernel
theorem p3x_144_s {X : Int → Int} {LX : Nat} : ck_Ok p1_O X LX 6 p3x_144 := ck_ok_s (ck_E0) ck_X0 ck_l0 p3x_144_e
set_option maxRecDepth 100000 in
def p3x_145 : ck_Sum := ((0, 0, 0), 249, [.inr (.inr (.inl 202)), .inl (ck_one 0)], ([], [], [(202, 0, 593, ck_one 0)]), ([(202, 0, 593)], []), [(.inr none, 249, ([], [], [(202, 0, 593, ck_one 0)]))])
set_option maxRecDepth 100000 in
theorem p3x_145_e : ck_ok p1_O none [] [] 8 [(5, [some (.inr (.inr (.inl 202))), some (.inl (ck_one 0)), some (.inl (0, 594, none)), some (.inl (ck_one 594))], ([], [], [(202, 0, 593, ck_one 0)]), 100, .inl 2, true)] 130 p3x_145 = true := by decide +kernel
theorem p3x_145_s {X : Int → Int} {LX : Nat} : ck_Ok p1_O X LX 8 p3x_145 := ck_ok_s (ck_E0) ck_X0 ck_l0 p3x_145_e
set_option maxRecDepth 100000 in
def p3x_146 : ck_Sum := ((0, 0, 0), 249, [.inr (.inr (.inl 4))], ([], [], [(4, 3, 3, ck_one 0)]), ([], []), [(.inr (some (.inl (ck_one 0))), 249, ([], [], []))])
set_option maxRecDepth 100000 in
theorem p3x_146_e : ck_ok p1_O none [] [] 9 [] 76 p3x_146 = true := by decide +kernel
theorem p3x_146_s {X : Int → Int} {LX : Nat} : ck_Ok p1_O X LX 9 p3x_146 := ck_ok_s (ck_E0) ck_X0 ck_l0 p3x_146_e
set_option maxRecDepth 100000 in
def p3x_147 : ck_Sum := ((1, 0, 0), 249, [.inr (.inr (.inl 200))], ([], [], [(4, 3, 3, ck_one 0), (202, 0, 593, ck_one 0)]), ([(202, 0, 593)], []), [(.inr none, 249, ([], [], [(202, 0, 593, ck_one 0)]))])
set_option maxRecDepth 100000 in
theorem p3x_147_e : ck_ok p1_O none [] [(8, [p3x_145]), (9, [p3x_146])] 7 [(10, [some (.inr (.inr (.inl 200))), some (.inl (ck_one 0)), none, none, none, none], ([], [], [(202, 0, 593, ck_one 0), (4, 3, 3, ck_one 0)]), 100, .inl 1, true)] 118 p3x_147 = true := by decide +kernel
theorem p3x_147_s {X : Int → Int} {LX : Nat} : ck_Ok p1_O X LX 7 p3x_147 := ck_ok_s (ck_E1 (ck_S1 p3x_145_s ck_S0) (ck_E1 (ck_S1 p3x_146_s ck_S0) ck_E0)) ck_X0 ck_l0 p3x_147_e
set_option maxRecDepth 100000 in
def p3x_148 : ck_Sum := ((0, 0, 0), 249, [.inr (.inr (.inl 203)), .inl (ck_one 0)], ([], [], [(203, 0, 299, ck_one 0)]), ([(203, 0, 299)], []), [(.inr none, 249, ([], [], [(203, 0, 299, ck_one 0)]))])
set_option maxRecDepth 100000 in
theorem p3x_148_e : ck_ok p1_O none [] [] 8 [(5, [some (.inr (.inr (.inl 203))), some (.inl (ck_one 0)), some (.inl (0, 300, none)), some (.inl (ck_one 300))], ([], [], [(203, 0, 299, ck_one 0)]), 100, .inl 2, true)] 130 p3x_148 = true := by decide +kernel
theorem p3x_148_s {X : Int → Int} {LX : Nat} : ck_Ok p1_O X LX 8 p3x_148 := ck_ok_s (ck_E0) ck_X0 ck_l0 p3x_148_e
set_option maxRecDepth 100000 in
def p3x_149 : ck_Sum := ((0, 0, 0), 249, [.inr (.inr (.inl 6))], ([], [], [(6, 3, 3, ck_one 0)]), ([], []), [(.inr (some (.inl (ck_one 0))), 249, ([], [], []))])
set_option maxRecDepth 100000 in
theorem p3x_149_e : ck_ok p1_O none [] [] 9 [] 76 p3x_149 = true := by decide +kernel
theorem p3x_149_s {X : Int → Int} {LX : Nat} : ck_Ok p1_O X LX 9 p3x_149 := ck_ok_s (ck_E0) ck_X0 ck_l0 p3x_149_e
set_option maxRecDepth 100000 in
def p3x_150 : ck_Sum := ((1, 0, 0), 249, [.inr (.inr (.inl 200))], ([], [], [(6, 3, 3, ck_one 0), (203, 0, 299, ck_one 0)]), ([(203, 0, 299)], []), [(.inr none, 249, ([], [], [(203, 0, 299, ck_one 0)]))])
set_option maxRecDepth 100000 in
theorem p3x_150_e : ck_ok p1_O none [] [(8, [p3x_148]), (9, [p3x_149])] 12 [(10, [some (.inr (.inr (.inl 200))), some (.inl (ck_one 0)), none], ([], [], [(203, 0, 299, ck_one 0), (6, 3, 3, ck_one 0)]), 100, .inl 1, true)] 118 p3x_150 = true := by decide +kernel
theorem p3x_150_s {X : Int → Int} {LX : Nat} : ck_Ok p1_O X LX 12 p3x_150 := ck_ok_s (ck_E1 (ck_S1 p3x_148_s ck_S0) (ck_E1 (ck_S1 p3x_149_s ck_S0) ck_E0)) ck_X0 ck_l0 p3x_150_e
set_option maxRecDepth 100000 in
def p3x_151 : ck_Sum := ((2, 0, 0), 249, [.inr (.inr (.inl 200))], ([], [], [(6, 3, 3, ck_one 0), (4, 3, 3, ck_one 0), (3, 5, 5, ck_one 1), (203, 0, 299, ck_one 0), (202, 0, 593, ck_one 0), (201, 0, 299, (0, 9, none))]), ([(200, 6, 6), (201, 0, 299), (202, 0, 593), (203, 0, 299)], []), [(.inr none, 249, ([], [], [(200, 6, 6, ck_one 1), (203, 0, 299, ck_one 0), (201, 0, 299, (0, 9, none)), (202, 0, 593, ck_one 0)]))])
set_option maxRecDepth 100000 in
theorem p3x_151_e : ck_ok p1_O none [] [(6, [p3x_144]), (7, [p3x_147]), (12, [p3x_150])] 5 [] 90 p3x_151 = true := by decide +kernel
theorem p3x_151_s {X : Int → Int} {LX : Nat} : ck_Ok p1_O X LX 5 p3x_151 := ck_ok_s (ck_E1 (ck_S1 p3x_144_s ck_S0) (ck_E1 (ck_S1 p3x_147_s ck_S0) (ck_E1 (ck_S1 p3x_150_s ck_S0) ck_E0))) ck_X0 ck_l0 p3x_151_e
set_option maxRecDepth 100000 in
def p3x_152 : ck_Sum := ((0, 0, 0), 249, [.inr (.inr (.inl 42))], ([], [], []), ([(42, 2, 2)], []), [(.inr none, 249, ([], [], [(42, 2, 2, ck_one 0)]))])
set_option maxRecDepth 100000 in
theorem p3x_152_e : ck_ok p1_O none [] [] 62 [] 78 p3x_152 = true := by decide +kernel
theorem p3x_152_s {X : Int → Int} {LX : Nat} : ck_Ok p1_O X LX 62 p3x_152 := ck_ok_s (ck_E0) ck_X0 ck_l0 p3x_152_e
set_option maxRecDepth 100000 in
def p3x_153 : ck_Sum := ((3, 0, 0), 249, [.inr (.inr (.inl 1))], ([], [], [(6, 3, 3, ck_one 0), (4, 3, 3, ck_one 0), (3, 5, 5, ck_one 1), (203, 0, 299, ck_one 0), (202, 0, 593, ck_one 0), (201, 0, 299, (0, 9, none))]), ([(1, 15, 15), (42, 2, 2), (200, 6, 6), (201, 0, 299), (202, 0, 593), (203, 0, 299)], []), [(.inr none, 249, ([], [], [(1, 15, 15, ck_one 0), (42, 2, 2, ck_one 0), (200, 6, 6, ck_one 1), (203, 0, 299, ck_one 0), (201, 0, 299, (0, 9, none)), (202, 0, 593, ck_one 0)]))])
set_option maxRecDepth 100000 in
theorem p3x_153_e : ck_ok p1_O none [] [(5, [p3x_151]), (62, [p3x_152])] 61 [] 90 p3x_153 = true := by decide +kernel
theorem p3x_153_s {X : Int → Int} {LX : Nat} : ck_Ok p1_O X LX 61 p3x_153 := ck_ok_s (ck_E1 (ck_S1 p3x_151_s ck_S0) (ck_E1 (ck_S1 p3x_152_s ck_S0) ck_E0)) ck_X0 ck_l0 p3x_153_e
set_option maxRecDepth 100000 in
def p3x_154 : ck_Sum := ((0, 0, 0), 249, [.inr (.inr (.inl 248))], ([(248, 6, 0)], [], [(248, 3, 3, ck_one 0)]), ([], []), [(.inr (some (.inl (ck_one 0))), 249, ([], [], []))])
set_option maxRecDepth 100000 in
theorem p3x_154_e : ck_ok p1_O none [] [] 9 [] 76 p3x_154 = true := by decide +kernel
theorem p3x_154_s {X : Int → Int} {LX : Nat} : ck_Ok p1_O X LX 9 p3x_154 := ck_ok_s (ck_E0) ck_X0 ck_l0 p3x_154_e
set_option maxRecDepth 100000 in
def p3x_155 : ck_Sum := ((1, 0, 0), 249, [.inr (.inr (.inl 1))], ([(246, 14, 0), (248, 6, 0)], [(3, 8, 246), (246, 0, 248)], [(248, 3, 3, ck_one 0)]), ([], []), [(.inr (some (.inl (ck_one 0))), 249, ([], [], []))])
set_option maxRecDepth 100000 in
theorem p3x_155_e : ck_ok p1_O none [] [(9, [p3x_154])] 64 [] 90 p3x_155 = true := by decide +kernel
theorem p3x_155_s {X : Int → Int} {LX : Nat} : ck_Ok p1_O X LX 64 p3x_155 := ck_ok_s (ck_E1 (ck_S1 p3x_154_s ck_S0) ck_E0) ck_X0 ck_l0 p3x_155_e
set_option maxRecDepth 100000 in
def p3x_156 : ck_Sum := ((4, 4, 54), 245, [.inr (.inr (.inl 1))], ([], [(3, 8, 0)], [(215, 4, 4, ck_one 0), (217, 0, 0, ck_one 12), (217, 3, 3, ck_one 0), (216, 7, 7, ck_one (-1)), (216, 6, 6, ck_one 256), (216, 4, 4, ck_one 0), (216, 3, 3, ck_one 0), (216, 2, 2, ck_one 0), (6, 3, 3, ck_one 0), (4, 3, 3, ck_one 0), (3, 5, 5, ck_one 1), (1, 2, 2, ck_one (-1)), (1, 1, 1, ck_one 0), (203, 0, 299, ck_one 0), (202, 0, 593, ck_one 0), (201, 0, 299, (0, 9, none))]), ([(1, 1, 2), (1, 15, 15), (42, 2, 2), (200, 6, 6), (201, 0, 299), (202, 0, 593), (203, 0, 299), (215, 4, 4), (216, 2, 7), (217, 3, 3), (218, 0, 47)], [(3, 8)]), [(.inr (some (.inl (ck_one 0))), 249, ([(246, 14, 0), (247, 0, 0), (248, 6, 0), (249, 0, 48)], [(3, 8, 246), (246, 0, 248), (246, 1, 247), (248, 2, 249)], [(247, 0, (-1), ck_one 0), (1, 15, 15, ck_one 0), (42, 2, 2, ck_one 0), (200, 6, 6, ck_one 1), (248, 3, 3, ck_one 0), (248, 1, 1, ck_one 4), (248, 0, 0, ck_one 12), (248, 2, 2, ck_one 0), (246, 0, 0, ck_one 0), (246, 1, 1, ck_one 0), (1, 1, 1, ck_one 0), (1, 2, 2, ck_one (-1)), (216, 6, 6, ck_one 256), (216, 7, 7, ck_one (-1)), (216, 4, 4, ck_one 0), (216, 5, 5, ck_one (-1)), (216, 3, 3, ck_one 0), (216, 2, 2, ck_one 0), (215, 4, 4, ck_one 0), (217, 3, 3, ck_one 0), (203, 0, 299, ck_one 0), (201, 0, 299, (0, 9, none)), (202, 0, 593, ck_one 0)]))])
set_option maxRecDepth 100000 in
theorem p3x_156_e : ck_ok p1_O none [] [(72, [p3x_138]), (124, [p3x_143]), (61, [p3x_153]), (64, [p3x_155])] 123 [] 120 p3x_156 = true := by decide +kernel
theorem p3x_156_s {X : Int → Int} {LX : Nat} : ck_Ok p1_O X LX 123 p3x_156 := ck_ok_s (ck_E1 (ck_S1 p3x_138_s ck_S0) (ck_E1 (ck_S1 p3x_143_s ck_S0) (ck_E1 (ck_S1 p3x_153_s ck_S0) (ck_E1 (ck_S1 p3x_155_s ck_S0) ck_E0)))) ck_X0 ck_l0 p3x_156_e
set_option maxRecDepth 100000 in
def p3x_157 : ck_Sum := ((5, 4, 54), 245, [.inr (.inr (.inl 1)), .inr (.inr (.inl 245))], ([], [(3, 8, 0)], [(215, 4, 4, ck_one 0), (217, 0, 0, ck_one 12), (217, 3, 3, ck_one 0), (216, 7, 7, ck_one (-1)), (216, 6, 6, ck_one 256), (216, 4, 4, ck_one 0), (216, 3, 3, ck_one 0), (216, 2, 2, ck_one 0), (6, 3, 3, ck_one 0), (4, 3, 3, ck_one 0), (3, 5, 5, ck_one 1), (1, 2, 2, ck_one (-1)), (1, 1, 1, ck_one 0), (203, 0, 299, ck_one 0), (202, 0, 593, ck_one 0), (201, 0, 299, (0, 9, none))]), ([(1, 1, 2), (1, 15, 15), (42, 2, 2), (200, 6, 6), (201, 0, 299), (202, 0, 593), (203, 0, 299), (215, 4, 4), (216, 2, 7), (217, 3, 3), (218, 0, 47), (245, 0, 0)], [(3, 8)]), [(.inr (some (.inl (ck_one 0))), 249, ([(246, 14, 0), (247, 0, 0), (248, 6, 0), (249, 0, 48)], [(3, 8, 246), (246, 0, 248), (246, 1, 247), (248, 2, 249)], [(247, 0, (-1), ck_one 0), (245, 0, 0, ck_one 0), (1, 15, 15, ck_one 0), (42, 2, 2, ck_one 0), (200, 6, 6, ck_one 1), (248, 3, 3, ck_one 0), (248, 1, 1, ck_one 4), (248, 0, 0, ck_one 12), (248, 2, 2, ck_one 0), (246, 0, 0, ck_one 0), (246, 1, 1, ck_one 0), (1, 1, 1, ck_one 0), (1, 2, 2, ck_one (-1)), (216, 6, 6, ck_one 256), (216, 7, 7, ck_one (-1)), (216, 4, 4, ck_one 0), (216, 5, 5, ck_one (-1)), (216, 3, 3, ck_one 0), (216, 2, 2, ck_one 0), (215, 4, 4, ck_one 0), (217, 3, 3, ck_one 0), (203, 0, 299, ck_one 0), (201, 0, 299, (0, 9, none)), (202, 0, 593, ck_one 0)]))])
set_option maxRecDepth 100000 in
theorem p3x_157_e : ck_ok p1_O none [] [(123, [p3x_156])] 122 [] 88 p3x_157 = true := by decide +kernel
theorem p3x_157_s {X : Int → Int} {LX : Nat} : ck_Ok p1_O X LX 122 p3x_157 := ck_ok_s (ck_E1 (ck_S1 p3x_156_s ck_S0) ck_E0) ck_X0 ck_l0 p3x_157_e
set_option maxRecDepth 100000 in
def p3x_158 : ck_Sum := ((0, 0, 0), 249, [.inr (.inr (.inl 226))], ([], [], [(226, 8, 8, ck_one 0)]), ([(226, 0, 0), (226, 8, 10)], []), [(.inr none, 249, ([], [], [(226, 9, 9, ck_one 0), (226, 8, 8, ck_one 0), (226, 10, 10, ck_one 0), (226, 0, 0, ck_one 0)]))])
set_option maxRecDepth 100000 in
theorem p3x_158_e : ck_ok p1_O none [] [] 245 [] 98 p3x_158 = true := by decide +kernel
theorem p3x_158_s {X : Int → Int} {LX : Nat} : ck_Ok p1_O X LX 245 p3x_158 := ck_ok_s (ck_E0) ck_X0 ck_l0 p3x_158_e
set_option maxRecDepth 100000 in
def p3x_164 : ck_Sum := ((0, 0, 0), 249, [.inr (.inr (.inl 226)), .inl (ck_one 32), .inl (ck_one 32)], ([], [], [(226, 9, 9, ck_one 0), (226, 10, 10, ck_one 0)]), ([], []), [(.inr (some (.inl (ck_one 0))), 249, ([], [], []))])
set_option maxRecDepth 100000 in
theorem p3x_164_e : ck_ok p1_O none [] [] 247 [] 84 p3x_164 = true := by decide +kernel
theorem p3x_164_s {X : Int → Int} {LX : Nat} : ck_Ok p1_O X LX 247 p3x_164 := ck_ok_s (ck_E0) ck_X0 ck_l0 p3x_164_e
set_option maxRecDepth 100000 in
def p3x_165 : ck_Sum := ((1, 0, 0), 249, [.inr (.inr (.inl 226))], ([], [], [(226, 9, 9, ck_one 0), (226, 10, 10, ck_one 0), (226, 11, 11, ck_one 0)]), ([(226, 11, 11)], []), [(.inr none, 249, ([], [], [(226, 11, 11, ck_one 0)]))])
set_option maxRecDepth 100000 in
theorem p3x_165_e : ck_ok p1_O none [] [(247, [p3x_164])] 246 [(0, [some (.inr (.inr (.inl 226)))], ([], [], [(226, 9, 9, ck_one 0), (226, 10, 10, ck_one 0), (226, 11, 11, ck_one 0)]), 100, .inr (226, 9), true)] 130 p3x_165 = true := by decide +kernel
theorem p3x_165_s {X : Int → Int} {LX : Nat} : ck_Ok p1_O X LX 246 p3x_165 := ck_ok_s (ck_E1 (ck_S1 p3x_164_s ck_S0) ck_E0) ck_X0 ck_l0 p3x_165_e
set_option maxRecDepth 100000 in
def p3x_166 : ck_Sum := ((2, 0, 0), 249, [.inr (.inr (.inl 226)), .inl (ck_one 0)], ([], [], [(226, 8, 8, ck_one 0), (226, 9, 9, ck_one 0), (226, 10, 10, ck_one 0), (226, 11, 11, ck_one 0)]), ([(226, 0, 0), (226, 8, 11), (226, 15, 15)], []), [(.inr (some (.inl (ck_one 0))), 249, ([], [], [(226, 11, 11, ck_one 0), (226, 15, 15, ck_one 0), (226, 9, 9, ck_one 0), (226, 8, 8, ck_one 0), (226, 10, 10, ck_one 0), (226, 0, 0, ck_one 0)]))])
set_option maxRecDepth 100000 in
theorem p3x_166_e : ck_ok p1_O none [] [(245, [p3x_158]), (246, [p3x_165])] 244 [] 98 p3x_166 = true := by decide +kernel
theorem p3x_166_s {X : Int → Int} {LX : Nat} : ck_Ok p1_O X LX 244 p3x_166 := ck_ok_s (ck_E1 (ck_S1 p3x_158_s ck_S0) (ck_E1 (ck_S1 p3x_165_s ck_S0) ck_E0)) ck_X0 ck_l0 p3x_166_e
set_option maxRecDepth 100000 in
def p3x_167 : ck_Sum := ((0, 0, 0), 249, [.inr (.inr (.inl 226)), .inl (ck_one 0), .inl (ck_one 1)], ([], [], []), ([], []), [(.inr (some (.inl (ck_one 0))), 249, ([], [], []))])
set_option maxRecDepth 100000 in
theorem p3x_167_e : ck_ok p1_O none [] [] 283 [] 78 p3x_167 = true := by decide +kernel
theorem p3x_167_s {X : Int → Int} {LX : Nat} : ck_Ok p1_O X LX 283 p3x_167 := ck_ok_s (ck_E0) ck_X0 ck_l0 p3x_167_e
set_option maxRecDepth 100000 in
def p3x_168 : ck_Sum := ((0, 0, 0), 249, [.inr (.inr (.inl 226))], ([], [], [(226, 26, 26, ck_one (-1)), (227, 13, 13, ck_one 1), (234, 0, 299, (0, 9, none))]), ([(226, 26, 26), (234, 0, 299)], []), [(.inr none, 249, ([], [], [(226, 26, 26, ck_one (-1)), (234, 0, 299, (0, 9, none))]))])
set_option maxRecDepth 100000 in
theorem p3x_168_e : ck_ok p1_O none [] [] 236 [(10, [some (.inr (.inr (.inl 226))), some (.inl ((-2147483648), 2147483647, none)), some (.inl (0, 300, none))], ([], [], [(226, 26, 26, ck_one (-1)), (227, 13, 13, ck_one 1), (234, 0, 299, (0, 9, none))]), 100, .inl 2, true)] 182 p3x_168 = true := by decide +kernel
theorem p3x_168_s {X : Int → Int} {LX : Nat} : ck_Ok p1_O X LX 236 p3x_168 := ck_ok_s (ck_E0) ck_X0 ck_l0 p3x_168_e
set_option maxRecDepth 100000 in
def p3x_169 : ck_Sum := ((3, 0, 0), 249, [.inr (.inr (.inl 226))], ([], [], [(226, 26, 26, ck_one (-1)), (227, 13, 13, ck_one 1), (226, 13, 13, ck_one (-1)), (227, 2, 9, ck_one 0), (226, 0, 0, ck_one 0), (226, 6, 6, ck_one 0), (226, 8, 8, ck_one 0), (226, 9, 9, ck_one 0), (226, 10, 10, ck_one 0), (226, 11, 11, ck_one 0), (226, 15, 15, ck_one 0), (234, 0, 299, (0, 9, none))]), ([(226, 0, 0), (226, 6, 6), (226, 8, 11), (226, 13, 13), (226, 15, 15), (226, 26, 26), (227, 8, 8), (227, 395, 1244), (234, 0, 299)], []), [(.inr (some (.inl (ck_one 0))), 249, ([], [], [(226, 26, 26, ck_one (-1)), (226, 6, 6, ck_one 0), (227, 8, 8, ck_one 1), (227, 1244, 1244, ck_one 0), (226, 13, 13, ck_one (-1)), (226, 11, 11, ck_one 0), (226, 15, 15, ck_one 0), (226, 9, 9, ck_one 0), (226, 8, 8, ck_one 0), (226, 10, 10, ck_one 0), (226, 0, 0, ck_one 0), (234, 0, 299, (0, 9, none))]))])
set_option maxRecDepth 100000 in
theorem p3x_169_e : ck_ok p1_O none [] [(244, [p3x_166]), (283, [p3x_167]), (236, [p3x_168])] 284 [(52, [some (.inr (.inr (.inl 226))), some (.inl (ck_one 0)), some (.inl (0, 849, none))], ([], [], [(227, 1244, 1244, ck_one 0), (226, 13, 13, ck_one (-1)), (226, 11, 11, ck_one 0), (226, 15, 15, ck_one 0), (226, 9, 9, ck_one 0), (226, 8, 8, ck_one 0), (226, 10, 10, ck_one 0), (226, 0, 0, ck_one 0), (226, 26, 26, ck_one (-1)), (227, 13, 13, ck_one 1), (227, 2, 9, ck_one 0), (226, 6, 6, ck_one 0), (234, 0, 299, (0, 9, none))]), 100, .inl 2, true)] 186 p3x_169 = true := by decide +kernel
theorem p3x_169_s {X : Int → Int} {LX : Nat} : ck_Ok p1_O X LX 284 p3x_169 := ck_ok_s (ck_E1 (ck_S1 p3x_166_s ck_S0) (ck_E1 (ck_S1 p3x_167_s ck_S0) (ck_E1 (ck_S1 p3x_168_s ck_S0) ck_E0))) ck_X0 ck_l0 p3x_169_e
set_option maxRecDepth 100000 in
def p3x_170 : ck_Sum := ((0, 0, 0), 249, [.inr (.inr (.inl 226))], ([], [], [(226, 0, 0, ck_one 0)]), ([], []), [(.inr (some (.inl (ck_one 0))), 249, ([], [], []))])
set_option maxRecDepth 100000 in
theorem p3x_170_e : ck_ok p1_O none [] [] 234 [] 76 p3x_170 = true := by decide +kernel
theorem p3x_170_s {X : Int → Int} {LX : Nat} : ck_Ok p1_O X LX 234 p3x_170 := ck_ok_s (ck_E0) ck_X0 ck_l0 p3x_170_e
set_option maxRecDepth 100000 in
def p3_F : ck_F := ([], [(3, 8, 0), (16, 8, 0), (29, 8, 0), (44, 8, 0), (57, 8, 0), (70, 8, 0), (83, 8, 0), (96, 8, 0), (109, 8, 0), (122, 8, 0), (135, 8, 0), (148, 8, 0), (161, 8, 0), (174, 8, 0), (187, 8, 0)], [(245, 0, 0, ck_one 0), (226, 26, 26, ck_one (-1)), (227, 13, 13, ck_one 1), (226, 13, 13, ck_one (-1)), (227, 2, 9, ck_one 0), (226, 0, 0, ck_one 0), (226, 6, 6, ck_one 0), (226, 8, 8, ck_one 0), (226, 9, 9, ck_one 0), (226, 10, 10, ck_one 0), (226, 11, 11, ck_one 0), (226, 15, 15, ck_one 0), (215, 4, 4, ck_one 0), (217, 0, 0, ck_one 12), (217, 3, 3, ck_one 0), (216, 7, 7, ck_one (-1)), (216, 6, 6, ck_one 256), (216, 4, 4, ck_one 0), (216, 3, 3, ck_one 0), (216, 2, 2, ck_one 0), (6, 3, 3, ck_one 0), (4, 3, 3, ck_one 0), (3, 5, 5, ck_one 1), (1, 2, 2, ck_one (-1)), (1, 1, 1, ck_one 0), (203, 0, 299, ck_one 0), (202, 0, 593, ck_one 0), (234, 0, 299, (0, 9, none)), (201, 0, 299, (0, 9, none))])
def p3_E : List (Nat × List ck_Sum) := [(122, [p3x_157]), (284, [p3x_169]), (234, [p3x_170])]
theorem p3_h {X : Int → Int} {LX : Nat} : ck_OkE p1_O X LX p3_E := ck_E1 (ck_S1 p3x_157_s ck_S0) (ck_E1 (ck_S1 p3x_169_s ck_S0) (ck_E1 (ck_S1 p3x_170_s ck_S0) ck_E0))
set_option maxRecDepth 100000 in
theorem p3_b : (ck_prod []).all (fun xf => ck_go p1_O (some 6) xf p3_E 370 280 245 p1_W p1_outs [] 112 false [] 1000 2000 386 p1_L [] 245 p3_F) = true := by decide +kernel
theorem p3_s {X : Int → Int} {LX : Nat} (hLX : 6 = LX) (hX : ∀ j, gm_ir (X j)) {σ : Nat → Int} {L : gm_L} {K0 K : gm_K} {R0 R : gm_R} {M0 M : gm_M} (hS : ck_St p1_O σ p1_W 245 K0 R0 M0 p1_L [] p3_F L [] 245 K R M) : gm_Wp X LX 280 1000 2000 370 386 L [] 245 K R M (ck_Q p1_O σ p1_W 245 K0 R0 M0 p1_outs) := ck_boxes p3_h hLX hX (by decide +kernel) p3_b hS
