/-! log, on a new object: laid by wip/am/p1g.py. -/
set_option maxRecDepth 100000 in
def p42x_133 : ck_Sum := ((6, 1, 6), 245, [.inr (.inr (.inl 1)), .inl ((-2147483648), 2147483647, none), .inl ((-2147483648), (-1), none)], ([], [], []), ([], []), [(.inl 4, 245, ([], [], []))])
set_option maxRecDepth 100000 in
theorem p42x_133_e : ck_ok p1_O none [] [] 233 [] 76 p42x_133 = true := by decide +kernel
theorem p42x_133_s {X : Int → Int} {LX : Nat} : ck_Ok p1_O X LX 233 p42x_133 := ck_ok_s (ck_E0) ck_X0 ck_l0 p42x_133_e
set_option maxRecDepth 100000 in
def p42x_134 : ck_Sum := ((7, 1, 6), 245, [.inr (.inr (.inl 1)), .inl ((-2147483648), 2147483647, none), .inl ((-2147483648), (-1), none), .inr (.inr (.inl 245))], ([], [], []), ([], []), [(.inr (some (.inl (ck_one 1))), 245, ([], [], []))])
set_option maxRecDepth 100000 in
theorem p42x_134_e : ck_ok p1_O none [] [(233, [p42x_133])] 232 [] 88 p42x_134 = true := by decide +kernel
theorem p42x_134_s {X : Int → Int} {LX : Nat} : ck_Ok p1_O X LX 232 p42x_134 := ck_ok_s (ck_E1 (ck_S1 p42x_133_s ck_S0) ck_E0) ck_X0 ck_l0 p42x_134_e
set_option maxRecDepth 100000 in
def p42x_139 : ck_Sum := ((0, 0, 0), 245, [.inr (.inr (.inl 14)), .inl ((-2147483648), 2147483647, none), .inl (ck_one 0)], ([], [], [(14, 3, 3, ck_one 0)]), ([], []), [(.inr (some (.inl (ck_one (-1)))), 245, ([], [], []))])
set_option maxRecDepth 100000 in
theorem p42x_139_e : ck_ok p1_O none [] [] 10 [] 86 p42x_139 = true := by decide +kernel
theorem p42x_139_s {X : Int → Int} {LX : Nat} : ck_Ok p1_O X LX 10 p42x_139 := ck_ok_s (ck_E0) ck_X0 ck_l0 p42x_139_e
set_option maxRecDepth 100000 in
def p42x_140 : ck_Sum := ((1, 0, 0), 245, [.inr (.inr (.inl 1)), .inl ((-2147483648), 2147483647, none), .inl (ck_one 0)], ([], [], [(14, 3, 3, ck_one 0)]), ([], []), [(.inr (some (.inl (ck_one (-1)))), 245, ([], [], []))])
set_option maxRecDepth 100000 in
theorem p42x_140_e : ck_ok p1_O none [] [(10, [p42x_139])] 233 [] 94 p42x_140 = true := by decide +kernel
theorem p42x_140_s {X : Int → Int} {LX : Nat} : ck_Ok p1_O X LX 233 p42x_140 := ck_ok_s (ck_E1 (ck_S1 p42x_139_s ck_S0) ck_E0) ck_X0 ck_l0 p42x_140_e
set_option maxRecDepth 100000 in
def p42x_141 : ck_Sum := ((2, 0, 0), 245, [.inr (.inr (.inl 1)), .inl ((-2147483648), 2147483647, none), .inl (ck_one 0), .inr (.inr (.inl 245))], ([], [], [(14, 3, 3, ck_one 0)]), ([(245, 0, 0)], []), [(.inr (some (.inl (ck_one 0))), 245, ([], [], [(245, 0, 0, ck_one (-1))]))])
set_option maxRecDepth 100000 in
theorem p42x_141_e : ck_ok p1_O none [] [(233, [p42x_140])] 232 [] 92 p42x_141 = true := by decide +kernel
theorem p42x_141_s {X : Int → Int} {LX : Nat} : ck_Ok p1_O X LX 232 p42x_141 := ck_ok_s (ck_E1 (ck_S1 p42x_140_s ck_S0) ck_E0) ck_X0 ck_l0 p42x_141_e
set_option maxRecDepth 100000 in
def p42x_147 : ck_Sum := ((0, 0, 0), 245, [.inr (.inr (.inl 14)), .inl ((-2147483648), 2147483647, none), .inl (ck_one 1)], ([], [], [(14, 3, 3, ck_one 0)]), ([], []), [(.inr (some (.inl (ck_one (-1)))), 245, ([], [], []))])
set_option maxRecDepth 100000 in
theorem p42x_147_e : ck_ok p1_O none [] [] 10 [] 86 p42x_147 = true := by decide +kernel
theorem p42x_147_s {X : Int → Int} {LX : Nat} : ck_Ok p1_O X LX 10 p42x_147 := ck_ok_s (ck_E0) ck_X0 ck_l0 p42x_147_e
set_option maxRecDepth 100000 in
def p42x_148 : ck_Sum := ((1, 0, 0), 245, [.inr (.inr (.inl 1)), .inl ((-2147483648), 2147483647, none), .inl (ck_one 1)], ([], [], [(14, 3, 3, ck_one 0)]), ([], []), [(.inr (some (.inl (ck_one (-1)))), 245, ([], [], []))])
set_option maxRecDepth 100000 in
theorem p42x_148_e : ck_ok p1_O none [] [(10, [p42x_147])] 233 [] 94 p42x_148 = true := by decide +kernel
theorem p42x_148_s {X : Int → Int} {LX : Nat} : ck_Ok p1_O X LX 233 p42x_148 := ck_ok_s (ck_E1 (ck_S1 p42x_147_s ck_S0) ck_E0) ck_X0 ck_l0 p42x_148_e
set_option maxRecDepth 100000 in
def p42x_149 : ck_Sum := ((2, 0, 0), 245, [.inr (.inr (.inl 1)), .inl ((-2147483648), 2147483647, none), .inl (ck_one 1), .inr (.inr (.inl 245))], ([], [], [(14, 3, 3, ck_one 0)]), ([(245, 0, 0)], []), [(.inr (some (.inl (ck_one 0))), 245, ([], [], [(245, 0, 0, ck_one (-1))]))])
set_option maxRecDepth 100000 in
theorem p42x_149_e : ck_ok p1_O none [] [(233, [p42x_148])] 232 [] 92 p42x_149 = true := by decide +kernel
theorem p42x_149_s {X : Int → Int} {LX : Nat} : ck_Ok p1_O X LX 232 p42x_149 := ck_ok_s (ck_E1 (ck_S1 p42x_148_s ck_S0) ck_E0) ck_X0 ck_l0 p42x_149_e
set_option maxRecDepth 100000 in
def p42x_152 : ck_Sum := ((0, 0, 0), 245, [.inr (.inr (.inl 14)), .inl ((-2147483648), 2147483647, none), .inl (ck_one 2)], ([], [], [(14, 3, 3, ck_one 0)]), ([], []), [(.inr (some (.inl (ck_one (-1)))), 245, ([], [], []))])
set_option maxRecDepth 100000 in
theorem p42x_152_e : ck_ok p1_O none [] [] 10 [] 86 p42x_152 = true := by decide +kernel
theorem p42x_152_s {X : Int → Int} {LX : Nat} : ck_Ok p1_O X LX 10 p42x_152 := ck_ok_s (ck_E0) ck_X0 ck_l0 p42x_152_e
set_option maxRecDepth 100000 in
def p42x_153 : ck_Sum := ((1, 0, 0), 245, [.inr (.inr (.inl 1)), .inl ((-2147483648), 2147483647, none), .inl (ck_one 2)], ([], [], [(14, 3, 3, ck_one 0)]), ([], []), [(.inr (some (.inl (ck_one (-1)))), 245, ([], [], []))])
set_option maxRecDepth 100000 in
theorem p42x_153_e : ck_ok p1_O none [] [(10, [p42x_152])] 233 [] 94 p42x_153 = true := by decide +kernel
theorem p42x_153_s {X : Int → Int} {LX : Nat} : ck_Ok p1_O X LX 233 p42x_153 := ck_ok_s (ck_E1 (ck_S1 p42x_152_s ck_S0) ck_E0) ck_X0 ck_l0 p42x_153_e
set_option maxRecDepth 100000 in
def p42x_154 : ck_Sum := ((2, 0, 0), 245, [.inr (.inr (.inl 1)), .inl ((-2147483648), 2147483647, none), .inl (ck_one 2), .inr (.inr (.inl 245))], ([], [], [(14, 3, 3, ck_one 0)]), ([(245, 0, 0)], []), [(.inr (some (.inl (ck_one 0))), 245, ([], [], [(245, 0, 0, ck_one (-1))]))])
set_option maxRecDepth 100000 in
theorem p42x_154_e : ck_ok p1_O none [] [(233, [p42x_153])] 232 [] 92 p42x_154 = true := by decide +kernel
theorem p42x_154_s {X : Int → Int} {LX : Nat} : ck_Ok p1_O X LX 232 p42x_154 := ck_ok_s (ck_E1 (ck_S1 p42x_153_s ck_S0) ck_E0) ck_X0 ck_l0 p42x_154_e
set_option maxRecDepth 100000 in
def p42x_157 : ck_Sum := ((6, 1, 6), 245, [.inr (.inr (.inl 1)), .inl ((-2147483648), 2147483647, none), .inl (3, 2147483647, none)], ([], [], []), ([], []), [(.inl 4, 245, ([], [], []))])
set_option maxRecDepth 100000 in
theorem p42x_157_e : ck_ok p1_O none [] [] 233 [] 82 p42x_157 = true := by decide +kernel
theorem p42x_157_s {X : Int → Int} {LX : Nat} : ck_Ok p1_O X LX 233 p42x_157 := ck_ok_s (ck_E0) ck_X0 ck_l0 p42x_157_e
set_option maxRecDepth 100000 in
def p42x_158 : ck_Sum := ((7, 1, 6), 245, [.inr (.inr (.inl 1)), .inl ((-2147483648), 2147483647, none), .inl (3, 2147483647, none), .inr (.inr (.inl 245))], ([], [], []), ([], []), [(.inr (some (.inl (ck_one 1))), 245, ([], [], []))])
set_option maxRecDepth 100000 in
theorem p42x_158_e : ck_ok p1_O none [] [(233, [p42x_157])] 232 [] 88 p42x_158 = true := by decide +kernel
theorem p42x_158_s {X : Int → Int} {LX : Nat} : ck_Ok p1_O X LX 232 p42x_158 := ck_ok_s (ck_E1 (ck_S1 p42x_157_s ck_S0) ck_E0) ck_X0 ck_l0 p42x_158_e
set_option maxRecDepth 100000 in
def p42x_135 : ck_Sum := ((0, 0, 0), 245, [.inl ((-2147483648), (-1), none), .inl (ck_one 0), .inl (ck_one 2)], ([], [], []), ([], []), [(.inr (some (.inl (ck_one 0))), 245, ([], [], []))])
set_option maxRecDepth 100000 in
theorem p42x_135_e : ck_ok p1_O none [] [] 287 [] 80 p42x_135 = true := by decide +kernel
theorem p42x_135_s {X : Int → Int} {LX : Nat} : ck_Ok p1_O X LX 287 p42x_135 := ck_ok_s (ck_E0) ck_X0 ck_l0 p42x_135_e
set_option maxRecDepth 100000 in
def p42x_136 : ck_Sum := ((0, 0, 0), 245, [.inr (.inr (.inl 226)), .inl (ck_one 1), .inl (ck_one 1)], ([], [], []), ([(226, 0, 0)], []), [(.inr (some (.inl (ck_one 1))), 245, ([], [], [(226, 0, 0, ck_one 1)]))])
set_option maxRecDepth 100000 in
theorem p42x_136_e : ck_ok p1_O none [] [] 283 [] 84 p42x_136 = true := by decide +kernel
theorem p42x_136_s {X : Int → Int} {LX : Nat} : ck_Ok p1_O X LX 283 p42x_136 := ck_ok_s (ck_E0) ck_X0 ck_l0 p42x_136_e
set_option maxRecDepth 100000 in
def p42x_137 : ck_Sum := ((1, 0, 0), 245, [.inr (.inr (.inl 226)), .inl ((-2147483648), 2147483647, none), .inl ((-2147483648), (-1), none)], ([], [], []), ([(226, 0, 0)], []), [(.inr (some (.inl (ck_one 0))), 245, ([], [], [(226, 0, 0, ck_one 1)]))])
set_option maxRecDepth 100000 in
theorem p42x_137_e : ck_ok p1_O none [] [(287, [p42x_135]), (283, [p42x_136])] 368 [] 102 p42x_137 = true := by decide +kernel
theorem p42x_137_s {X : Int → Int} {LX : Nat} : ck_Ok p1_O X LX 368 p42x_137 := ck_ok_s (ck_E1 (ck_S1 p42x_135_s ck_S0) (ck_E1 (ck_S1 p42x_136_s ck_S0) ck_E0)) ck_X0 ck_l0 p42x_137_e
set_option maxRecDepth 100000 in
def p42x_142 : ck_Sum := ((0, 0, 0), 245, [.inl (ck_one 0), .inl (ck_one 0), .inl (ck_one 2)], ([], [], []), ([], []), [(.inr (some (.inl (ck_one 1))), 245, ([], [], []))])
set_option maxRecDepth 100000 in
theorem p42x_142_e : ck_ok p1_O none [] [] 287 [] 88 p42x_142 = true := by decide +kernel
theorem p42x_142_s {X : Int → Int} {LX : Nat} : ck_Ok p1_O X LX 287 p42x_142 := ck_ok_s (ck_E0) ck_X0 ck_l0 p42x_142_e
set_option maxRecDepth 100000 in
def p42x_144 : ck_Sum := ((0, 0, 0), 245, [.inl ((-2147483648), 2147483647, none), .inl (ck_one 0), .inl (ck_one (-1))], ([], [], []), ([], []), [(.inr (some (.inl (ck_one 0))), 245, ([], [], []))])
set_option maxRecDepth 100000 in
theorem p42x_144_e : ck_ok p1_O none [] [] 287 [] 86 p42x_144 = true := by decide +kernel
theorem p42x_144_s {X : Int → Int} {LX : Nat} : ck_Ok p1_O X LX 287 p42x_144 := ck_ok_s (ck_E0) ck_X0 ck_l0 p42x_144_e
set_option maxRecDepth 100000 in
def p42x_143 : ck_Sum := ((0, 0, 0), 245, [.inr (.inr (.inl 226)), .inl (ck_one 0), .inl (ck_one 1)], ([], [], []), ([], []), [(.inr (some (.inl (ck_one 0))), 245, ([], [], []))])
set_option maxRecDepth 100000 in
theorem p42x_143_e : ck_ok p1_O none [] [] 283 [] 78 p42x_143 = true := by decide +kernel
theorem p42x_143_s {X : Int → Int} {LX : Nat} : ck_Ok p1_O X LX 283 p42x_143 := ck_ok_s (ck_E0) ck_X0 ck_l0 p42x_143_e
set_option maxRecDepth 100000 in
def p42x_145 : ck_Sum := ((1, 0, 0), 245, [.inr (.inr (.inl 226)), .inl ((-2147483648), 2147483647, none), .inl (ck_one 0)], ([], [], [(227, 14, 2092, ck_one 0)]), ([(226, 0, 0)], []), [(.inr (some (.inl (ck_one (-1)))), 245, ([], [], [(226, 0, 0, ck_one 0)]))])
set_option maxRecDepth 100000 in
theorem p42x_145_e : ck_ok p1_O none [] [(287, [p42x_142, p42x_144]), (283, [p42x_143])] 368 [] 120 p42x_145 = true := by decide +kernel
theorem p42x_145_s {X : Int → Int} {LX : Nat} : ck_Ok p1_O X LX 368 p42x_145 := ck_ok_s (ck_E1 (ck_S1 p42x_142_s (ck_S1 p42x_144_s ck_S0)) (ck_E1 (ck_S1 p42x_143_s ck_S0) ck_E0)) ck_X0 ck_l0 p42x_145_e
set_option maxRecDepth 100000 in
def p42x_150 : ck_Sum := ((0, 0, 0), 245, [.inl (ck_one 1), .inl (ck_one 0), .inl (ck_one 2)], ([], [], []), ([], []), [(.inr (some (.inl (ck_one 1))), 245, ([], [], []))])
set_option maxRecDepth 100000 in
theorem p42x_150_e : ck_ok p1_O none [] [] 287 [] 88 p42x_150 = true := by decide +kernel
theorem p42x_150_s {X : Int → Int} {LX : Nat} : ck_Ok p1_O X LX 287 p42x_150 := ck_ok_s (ck_E0) ck_X0 ck_l0 p42x_150_e
set_option maxRecDepth 100000 in
def p42x_151 : ck_Sum := ((1, 0, 0), 245, [.inr (.inr (.inl 226)), .inl ((-2147483648), 2147483647, none), .inl (ck_one 1)], ([], [], [(227, 14, 2092, ck_one 0)]), ([(226, 0, 0)], []), [(.inr (some (.inl (ck_one (-1)))), 245, ([], [], [(226, 0, 0, ck_one 0)]))])
set_option maxRecDepth 100000 in
theorem p42x_151_e : ck_ok p1_O none [] [(287, [p42x_150, p42x_144]), (283, [p42x_143])] 368 [] 120 p42x_151 = true := by decide +kernel
theorem p42x_151_s {X : Int → Int} {LX : Nat} : ck_Ok p1_O X LX 368 p42x_151 := ck_ok_s (ck_E1 (ck_S1 p42x_150_s (ck_S1 p42x_144_s ck_S0)) (ck_E1 (ck_S1 p42x_143_s ck_S0) ck_E0)) ck_X0 ck_l0 p42x_151_e
set_option maxRecDepth 100000 in
def p42x_155 : ck_Sum := ((0, 0, 0), 245, [.inl (ck_one 2), .inl (ck_one 0), .inl (ck_one 2)], ([], [], []), ([], []), [(.inr (some (.inl (ck_one 1))), 245, ([], [], []))])
set_option maxRecDepth 100000 in
theorem p42x_155_e : ck_ok p1_O none [] [] 287 [] 88 p42x_155 = true := by decide +kernel
theorem p42x_155_s {X : Int → Int} {LX : Nat} : ck_Ok p1_O X LX 287 p42x_155 := ck_ok_s (ck_E0) ck_X0 ck_l0 p42x_155_e
set_option maxRecDepth 100000 in
def p42x_156 : ck_Sum := ((1, 0, 0), 245, [.inr (.inr (.inl 226)), .inl ((-2147483648), 2147483647, none), .inl (ck_one 2)], ([], [], [(227, 14, 2092, ck_one 0)]), ([(226, 0, 0)], []), [(.inr (some (.inl (ck_one (-1)))), 245, ([], [], [(226, 0, 0, ck_one 0)]))])
set_option maxRecDepth 100000 in
theorem p42x_156_e : ck_ok p1_O none [] [(287, [p42x_155, p42x_144]), (283, [p42x_143])] 368 [] 120 p42x_156 = true := by decide +kernel
theorem p42x_156_s {X : Int → Int} {LX : Nat} : ck_Ok p1_O X LX 368 p42x_156 := ck_ok_s (ck_E1 (ck_S1 p42x_155_s (ck_S1 p42x_144_s ck_S0)) (ck_E1 (ck_S1 p42x_143_s ck_S0) ck_E0)) ck_X0 ck_l0 p42x_156_e
set_option maxRecDepth 100000 in
def p42x_159 : ck_Sum := ((0, 0, 0), 245, [.inl (3, 2147483647, none), .inl (ck_one 0), .inl (ck_one 2)], ([], [], []), ([], []), [(.inr (some (.inl (ck_one 0))), 245, ([], [], []))])
set_option maxRecDepth 100000 in
theorem p42x_159_e : ck_ok p1_O none [] [] 287 [] 86 p42x_159 = true := by decide +kernel
theorem p42x_159_s {X : Int → Int} {LX : Nat} : ck_Ok p1_O X LX 287 p42x_159 := ck_ok_s (ck_E0) ck_X0 ck_l0 p42x_159_e
set_option maxRecDepth 100000 in
def p42x_160 : ck_Sum := ((1, 0, 0), 245, [.inr (.inr (.inl 226)), .inl ((-2147483648), 2147483647, none), .inl (3, 2147483647, none)], ([], [], []), ([(226, 0, 0)], []), [(.inr (some (.inl (ck_one 0))), 245, ([], [], [(226, 0, 0, ck_one 1)]))])
set_option maxRecDepth 100000 in
theorem p42x_160_e : ck_ok p1_O none [] [(287, [p42x_159]), (283, [p42x_136])] 368 [] 102 p42x_160 = true := by decide +kernel
theorem p42x_160_s {X : Int → Int} {LX : Nat} : ck_Ok p1_O X LX 368 p42x_160 := ck_ok_s (ck_E1 (ck_S1 p42x_159_s ck_S0) (ck_E1 (ck_S1 p42x_136_s ck_S0) ck_E0)) ck_X0 ck_l0 p42x_160_e
set_option maxRecDepth 100000 in
def p42x_138 : ck_Sum := ((0, 0, 0), 245, [.inr (.inr (.inl 226))], ([], [], [(226, 0, 0, ck_one 1)]), ([], []), [(.inr (some (.inl (ck_one 1))), 245, ([], [], []))])
set_option maxRecDepth 100000 in
theorem p42x_138_e : ck_ok p1_O none [] [] 234 [] 76 p42x_138 = true := by decide +kernel
theorem p42x_138_s {X : Int → Int} {LX : Nat} : ck_Ok p1_O X LX 234 p42x_138 := ck_ok_s (ck_E0) ck_X0 ck_l0 p42x_138_e
set_option maxRecDepth 100000 in
def p42x_146 : ck_Sum := ((0, 0, 0), 245, [.inr (.inr (.inl 226))], ([], [], [(226, 0, 0, ck_one 0)]), ([], []), [(.inr (some (.inl (ck_one 0))), 245, ([], [], []))])
set_option maxRecDepth 100000 in
theorem p42x_146_e : ck_ok p1_O none [] [] 234 [] 76 p42x_146 = true := by decide +kernel
theorem p42x_146_s {X : Int → Int} {LX : Nat} : ck_Ok p1_O X LX 234 p42x_146 := ck_ok_s (ck_E0) ck_X0 ck_l0 p42x_146_e
set_option maxRecDepth 100000 in
def p42_F : ck_F := ([], [(3, 8, 0), (16, 8, 0), (29, 8, 0), (44, 8, 0), (57, 8, 0), (70, 8, 0), (83, 8, 0), (96, 8, 0), (109, 8, 0), (122, 8, 0), (135, 8, 0), (148, 8, 0), (161, 8, 0), (174, 8, 0), (187, 8, 0)], [(245, 0, 0, ck_one 0), (227, 14, 2092, ck_one 0), (226, 0, 0, ck_one 0), (14, 3, 3, ck_one 0)])
def p42_E : List (Nat × List ck_Sum) := [(232, [p42x_134, p42x_141, p42x_149, p42x_154, p42x_158]), (368, [p42x_137, p42x_145, p42x_151, p42x_156, p42x_160]), (234, [p42x_138, p42x_146])]
theorem p42_h {X : Int → Int} {LX : Nat} : ck_OkE p1_O X LX p42_E := ck_E1 (ck_S1 p42x_134_s (ck_S1 p42x_141_s (ck_S1 p42x_149_s (ck_S1 p42x_154_s (ck_S1 p42x_158_s ck_S0))))) (ck_E1 (ck_S1 p42x_137_s (ck_S1 p42x_145_s (ck_S1 p42x_151_s (ck_S1 p42x_156_s (ck_S1 p42x_160_s ck_S0))))) (ck_E1 (ck_S1 p42x_138_s (ck_S1 p42x_146_s ck_S0)) ck_E0))
set_option maxRecDepth 100000 in
theorem p42_b : (ck_prod [(2, [((-2147483648), (-1)), (0, 0), (1, 1), (2, 2), (3, 2147483647)])]).all (fun xf => ck_go p1_O (some 6) xf p42_E 370 280 245 p1_W p1_outs [] 152 false [] 1000 2000 2850 p1_L [] 245 p42_F) = true := by decide +kernel
theorem p42_s {X : Int → Int} {LX : Nat} (hLX : 6 = LX) (hX : ∀ j, gm_ir (X j)) {σ : Nat → Int} {L : gm_L} {K0 K : gm_K} {R0 R : gm_R} {M0 M : gm_M} (hS : ck_St p1_O σ p1_W 245 K0 R0 M0 p1_L [] p42_F L [] 245 K R M) : gm_Wp X LX 280 1000 2000 370 2850 L [] 245 K R M (ck_Q p1_O σ p1_W 245 K0 R0 M0 p1_outs) := ck_boxes p42_h hLX hX (by decide +kernel) p42_b hS
