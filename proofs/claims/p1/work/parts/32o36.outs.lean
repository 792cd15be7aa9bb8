/-! outs, on a new object: laid by wip/am/p1g.py. -/
set_option maxRecDepth 100000 in
def p36x_133 : ck_Sum := ((6, 1, 6), 245, [.inr (.inr (.inl 1)), .inl ((-2147483648), (-1), none)], ([], [], []), ([], []), [(.inl 0, 245, ([], [], []))])
set_option maxRecDepth 100000 in
theorem p36x_133_e : ck_ok p1_O none [] [] 129 [] 76 p36x_133 = true := by decide +kernel
theorem p36x_133_s {X : Int → Int} {LX : Nat} : ck_Ok p1_O X LX 129 p36x_133 := ck_ok_s (ck_E0) ck_X0 ck_l0 p36x_133_e
set_option maxRecDepth 100000 in
def p36x_134 : ck_Sum := ((7, 1, 6), 245, [.inr (.inr (.inl 1)), .inl ((-2147483648), (-1), none)], ([], [], []), ([], []), [(.inl 0, 245, ([], [], []))])
set_option maxRecDepth 100000 in
theorem p36x_134_e : ck_ok p1_O none [] [(129, [p36x_133])] 223 [] 76 p36x_134 = true := by decide +kernel
theorem p36x_134_s {X : Int → Int} {LX : Nat} : ck_Ok p1_O X LX 223 p36x_134 := ck_ok_s (ck_E1 (ck_S1 p36x_133_s ck_S0) ck_E0) ck_X0 ck_l0 p36x_134_e
set_option maxRecDepth 100000 in
def p36x_135 : ck_Sum := ((8, 1, 6), 245, [.inr (.inr (.inl 1)), .inl ((-2147483648), (-1), none), .inr (.inr (.inl 245))], ([], [], []), ([], []), [(.inr (some (.inl (ck_one 1))), 245, ([], [], []))])
set_option maxRecDepth 100000 in
theorem p36x_135_e : ck_ok p1_O none [] [(223, [p36x_134])] 222 [] 86 p36x_135 = true := by decide +kernel
theorem p36x_135_s {X : Int → Int} {LX : Nat} : ck_Ok p1_O X LX 222 p36x_135 := ck_ok_s (ck_E1 (ck_S1 p36x_134_s ck_S0) ck_E0) ck_X0 ck_l0 p36x_135_e
set_option maxRecDepth 100000 in
def p36x_141 : ck_Sum := ((0, 0, 0), 245, [.inr (.inr (.inl 1)), .inl (0, 299, none)], ([], [], []), ([], []), [(.inr none, 245, ([], [], []))])
set_option maxRecDepth 100000 in
theorem p36x_141_e : ck_ok p1_O none [] [] 129 [] 82 p36x_141 = true := by decide +kernel
theorem p36x_141_s {X : Int → Int} {LX : Nat} : ck_Ok p1_O X LX 129 p36x_141 := ck_ok_s (ck_E0) ck_X0 ck_l0 p36x_141_e
set_option maxRecDepth 100000 in
def p36x_142 : ck_Sum := ((0, 0, 0), 245, [.inr (.inr (.inl 10))], ([], [], [(10, 3, 3, ck_one 0)]), ([], []), [(.inr (some (.inl (ck_one 0))), 245, ([], [], []))])
set_option maxRecDepth 100000 in
theorem p36x_142_e : ck_ok p1_O none [] [] 9 [] 76 p36x_142 = true := by decide +kernel
theorem p36x_142_s {X : Int → Int} {LX : Nat} : ck_Ok p1_O X LX 9 p36x_142 := ck_ok_s (ck_E0) ck_X0 ck_l0 p36x_142_e
set_option maxRecDepth 100000 in
def p36x_145 : ck_Sum := ((0, 0, 0), 245, [.inr (.inr (.inl 220))], ([], [], [(220, 3, 3, ck_one 0)]), ([], []), [(.inr (some (.inl (ck_one 0))), 245, ([], [], []))])
set_option maxRecDepth 100000 in
theorem p36x_145_e : ck_ok p1_O none [] [] 9 [] 76 p36x_145 = true := by decide +kernel
theorem p36x_145_s {X : Int → Int} {LX : Nat} : ck_Ok p1_O X LX 9 p36x_145 := ck_ok_s (ck_E0) ck_X0 ck_l0 p36x_145_e
set_option maxRecDepth 100000 in
def p36x_143 : ck_Sum := ((0, 0, 0), 245, [.inr (.inr (.inl 221)), .inl (ck_one 0)], ([], [], []), ([(221, 0, 47)], []), [(.inr none, 245, ([], [], []))])
set_option maxRecDepth 100000 in
theorem p36x_143_e : ck_ok p1_O none [] [] 8 [(5, [some (.inr (.inr (.inl 221))), some (.inl (ck_one 0)), some (.inl (0, 48, none)), some (.inl (ck_one 48))], ([], [], []), 100, .inl 2, true)] 130 p36x_143 = true := by decide +kernel
theorem p36x_143_s {X : Int → Int} {LX : Nat} : ck_Ok p1_O X LX 8 p36x_143 := ck_ok_s (ck_E0) ck_X0 ck_l0 p36x_143_e
set_option maxRecDepth 100000 in
def p36x_144 : ck_Sum := ((1, 0, 0), 245, [.inr (.inr (.inl 220)), .inl (ck_one 0)], ([], [], [(220, 0, 0, ck_one 24)]), ([(220, 3, 3), (221, 0, 47)], []), [(.inr none, 245, ([], [], [(220, 3, 3, ck_one 0)]))])
set_option maxRecDepth 100000 in
theorem p36x_144_e : ck_ok p1_O none [] [(8, [p36x_143])] 25 [] 96 p36x_144 = true := by decide +kernel
theorem p36x_144_s {X : Int → Int} {LX : Nat} : ck_Ok p1_O X LX 25 p36x_144 := ck_ok_s (ck_E1 (ck_S1 p36x_143_s ck_S0) ck_E0) ck_X0 ck_l0 p36x_144_e
set_option maxRecDepth 100000 in
def p36x_146 : ck_Sum := ((2, 0, 0), 245, [.inr (.inr (.inl 1))], ([], [], [(1, 15, 15, ck_one 0), (220, 0, 0, ck_one 24), (220, 3, 3, ck_one 0), (10, 3, 3, ck_one 0)]), ([(1, 15, 15), (220, 3, 3), (221, 0, 47)], []), [(.inr none, 245, ([], [], [(1, 15, 15, ck_one 1), (220, 3, 3, ck_one 0)]))])
set_option maxRecDepth 100000 in
theorem p36x_146_e : ck_ok p1_O none [] [(9, [p36x_142, p36x_145]), (25, [p36x_144])] 24 [(27, [some (.inr (.inr (.inl 1))), some (.inl (ck_one 0))], ([], [], [(220, 3, 3, ck_one 0), (1, 15, 15, ck_one 0), (220, 0, 0, ck_one 24), (10, 3, 3, ck_one 0)]), 100, .inl 1, true)] 142 p36x_146 = true := by decide +kernel
theorem p36x_146_s {X : Int → Int} {LX : Nat} : ck_Ok p1_O X LX 24 p36x_146 := ck_ok_s (ck_E1 (ck_S1 p36x_142_s (ck_S1 p36x_145_s ck_S0)) (ck_E1 (ck_S1 p36x_144_s ck_S0) ck_E0)) ck_X0 ck_l0 p36x_146_e
set_option maxRecDepth 100000 in
def p36x_147 : ck_Sum := ((1, 0, 0), 245, [.inr (.inr (.inl 1)), .inl (0, 299, none), .inl (ck_one 1)], ([], [], [(220, 3, 3, ck_one 0)]), ([], []), [(.inr (some (.inl (ck_one 0))), 245, ([], [], []))])
set_option maxRecDepth 100000 in
theorem p36x_147_e : ck_ok p1_O none [] [(9, [p36x_145])] 47 [(5, [some (.inr (.inr (.inl 1))), some (.inl (0, 299, none)), some (.inl (ck_one 1)), some (.inl (ck_one 0)), some (.inl (ck_one 0))], ([], [], [(220, 3, 3, ck_one 0)]), 100, .inl 3, true)] 118 p36x_147 = true := by decide +kernel
theorem p36x_147_s {X : Int → Int} {LX : Nat} : ck_Ok p1_O X LX 47 p36x_147 := ck_ok_s (ck_E1 (ck_S1 p36x_145_s ck_S0) ck_E0) ck_X0 ck_l0 p36x_147_e
set_option maxRecDepth 100000 in
def p36x_148 : ck_Sum := ((3, 0, 0), 245, [.inr (.inr (.inl 1)), .inl (0, 299, none)], ([], [], [(1, 15, 15, ck_one 0), (220, 0, 0, ck_one 24), (220, 3, 3, ck_one 0), (10, 3, 3, ck_one 0)]), ([(1, 15, 15), (220, 3, 3), (221, 0, 47)], []), [(.inr (some (.inl (ck_one 0))), 245, ([], [], [(1, 15, 15, ck_one 1), (220, 3, 3, ck_one 0)]))])
set_option maxRecDepth 100000 in
theorem p36x_148_e : ck_ok p1_O none [] [(129, [p36x_141]), (24, [p36x_146]), (47, [p36x_147])] 223 [] 90 p36x_148 = true := by decide +kernel
theorem p36x_148_s {X : Int → Int} {LX : Nat} : ck_Ok p1_O X LX 223 p36x_148 := ck_ok_s (ck_E1 (ck_S1 p36x_141_s ck_S0) (ck_E1 (ck_S1 p36x_146_s ck_S0) (ck_E1 (ck_S1 p36x_147_s ck_S0) ck_E0))) ck_X0 ck_l0 p36x_148_e
set_option maxRecDepth 100000 in
def p36x_149 : ck_Sum := ((4, 0, 0), 245, [.inr (.inr (.inl 1)), .inl (0, 299, none), .inr (.inr (.inl 245))], ([], [], [(1, 15, 15, ck_one 0), (220, 0, 0, ck_one 24), (220, 3, 3, ck_one 0), (10, 3, 3, ck_one 0)]), ([(1, 15, 15), (220, 3, 3), (221, 0, 47), (245, 0, 0)], []), [(.inr (some (.inl (ck_one 0))), 245, ([], [], [(245, 0, 0, ck_one 0), (1, 15, 15, ck_one 1), (220, 3, 3, ck_one 0)]))])
set_option maxRecDepth 100000 in
theorem p36x_149_e : ck_ok p1_O none [] [(223, [p36x_148])] 222 [] 90 p36x_149 = true := by decide +kernel
theorem p36x_149_s {X : Int → Int} {LX : Nat} : ck_Ok p1_O X LX 222 p36x_149 := ck_ok_s (ck_E1 (ck_S1 p36x_148_s ck_S0) ck_E0) ck_X0 ck_l0 p36x_149_e
set_option maxRecDepth 100000 in
def p36x_158 : ck_Sum := ((6, 1, 6), 245, [.inr (.inr (.inl 1)), .inl (300, 2147483647, none)], ([], [], []), ([], []), [(.inl 0, 245, ([], [], []))])
set_option maxRecDepth 100000 in
theorem p36x_158_e : ck_ok p1_O none [] [] 129 [] 82 p36x_158 = true := by decide +kernel
theorem p36x_158_s {X : Int → Int} {LX : Nat} : ck_Ok p1_O X LX 129 p36x_158 := ck_ok_s (ck_E0) ck_X0 ck_l0 p36x_158_e
set_option maxRecDepth 100000 in
def p36x_159 : ck_Sum := ((7, 1, 6), 245, [.inr (.inr (.inl 1)), .inl (300, 2147483647, none)], ([], [], []), ([], []), [(.inl 0, 245, ([], [], []))])
set_option maxRecDepth 100000 in
theorem p36x_159_e : ck_ok p1_O none [] [(129, [p36x_158])] 223 [] 76 p36x_159 = true := by decide +kernel
theorem p36x_159_s {X : Int → Int} {LX : Nat} : ck_Ok p1_O X LX 223 p36x_159 := ck_ok_s (ck_E1 (ck_S1 p36x_158_s ck_S0) ck_E0) ck_X0 ck_l0 p36x_159_e
set_option maxRecDepth 100000 in
def p36x_160 : ck_Sum := ((8, 1, 6), 245, [.inr (.inr (.inl 1)), .inl (300, 2147483647, none), .inr (.inr (.inl 245))], ([], [], []), ([], []), [(.inr (some (.inl (ck_one 1))), 245, ([], [], []))])
set_option maxRecDepth 100000 in
theorem p36x_160_e : ck_ok p1_O none [] [(223, [p36x_159])] 222 [] 86 p36x_160 = true := by decide +kernel
theorem p36x_160_s {X : Int → Int} {LX : Nat} : ck_Ok p1_O X LX 222 p36x_160 := ck_ok_s (ck_E1 (ck_S1 p36x_159_s ck_S0) ck_E0) ck_X0 ck_l0 p36x_160_e
set_option maxRecDepth 100000 in
def p36x_136 : ck_Sum := ((0, 0, 0), 245, [.inl ((-2147483648), (-1), none), .inl (ck_one 0), .inl (ck_one 299)], ([], [], []), ([], []), [(.inr (some (.inl (ck_one 0))), 245, ([], [], []))])
set_option maxRecDepth 100000 in
theorem p36x_136_e : ck_ok p1_O none [] [] 287 [] 80 p36x_136 = true := by decide +kernel
theorem p36x_136_s {X : Int → Int} {LX : Nat} : ck_Ok p1_O X LX 287 p36x_136 := ck_ok_s (ck_E0) ck_X0 ck_l0 p36x_136_e
set_option maxRecDepth 100000 in
def p36x_137 : ck_Sum := ((1, 0, 0), 245, [.inl ((-2147483648), (-1), none)], ([], [], []), ([], []), [(.inr (some (.inl (ck_one 1))), 245, ([], [], []))])
set_option maxRecDepth 100000 in
theorem p36x_137_e : ck_ok p1_O none [] [(287, [p36x_136])] 286 [] 86 p36x_137 = true := by decide +kernel
theorem p36x_137_s {X : Int → Int} {LX : Nat} : ck_Ok p1_O X LX 286 p36x_137 := ck_ok_s (ck_E1 (ck_S1 p36x_136_s ck_S0) ck_E0) ck_X0 ck_l0 p36x_137_e
set_option maxRecDepth 100000 in
def p36x_138 : ck_Sum := ((0, 0, 0), 245, [.inr (.inr (.inl 226)), .inl (ck_one 1), .inl (ck_one 1)], ([], [], []), ([(226, 0, 0)], []), [(.inr (some (.inl (ck_one 1))), 245, ([], [], [(226, 0, 0, ck_one 1)]))])
set_option maxRecDepth 100000 in
theorem p36x_138_e : ck_ok p1_O none [] [] 283 [] 84 p36x_138 = true := by decide +kernel
theorem p36x_138_s {X : Int → Int} {LX : Nat} : ck_Ok p1_O X LX 283 p36x_138 := ck_ok_s (ck_E0) ck_X0 ck_l0 p36x_138_e
set_option maxRecDepth 100000 in
def p36x_139 : ck_Sum := ((2, 0, 0), 245, [.inr (.inr (.inl 226)), .inl ((-2147483648), (-1), none)], ([], [], []), ([(226, 0, 0)], []), [(.inr (some (.inl (ck_one 0))), 245, ([], [], [(226, 0, 0, ck_one 1)]))])
set_option maxRecDepth 100000 in
theorem p36x_139_e : ck_ok p1_O none [] [(286, [p36x_137]), (283, [p36x_138])] 362 [] 92 p36x_139 = true := by decide +kernel
theorem p36x_139_s {X : Int → Int} {LX : Nat} : ck_Ok p1_O X LX 362 p36x_139 := ck_ok_s (ck_E1 (ck_S1 p36x_137_s ck_S0) (ck_E1 (ck_S1 p36x_138_s ck_S0) ck_E0)) ck_X0 ck_l0 p36x_139_e
set_option maxRecDepth 100000 in
def p36x_150 : ck_Sum := ((0, 0, 0), 245, [.inl (0, 299, none), .inl (ck_one 0), .inl (ck_one 299)], ([], [], []), ([], []), [(.inr (some (.inl (ck_one 1))), 245, ([], [], []))])
set_option maxRecDepth 100000 in
theorem p36x_150_e : ck_ok p1_O none [] [] 287 [] 88 p36x_150 = true := by decide +kernel
theorem p36x_150_s {X : Int → Int} {LX : Nat} : ck_Ok p1_O X LX 287 p36x_150 := ck_ok_s (ck_E0) ck_X0 ck_l0 p36x_150_e
set_option maxRecDepth 100000 in
def p36x_151 : ck_Sum := ((1, 0, 0), 245, [.inl (0, 299, none)], ([], [], []), ([], []), [(.inr (some (.inl (ck_one 0))), 245, ([], [], []))])
set_option maxRecDepth 100000 in
theorem p36x_151_e : ck_ok p1_O none [] [(287, [p36x_150])] 286 [] 84 p36x_151 = true := by decide +kernel
theorem p36x_151_s {X : Int → Int} {LX : Nat} : ck_Ok p1_O X LX 286 p36x_151 := ck_ok_s (ck_E1 (ck_S1 p36x_150_s ck_S0) ck_E0) ck_X0 ck_l0 p36x_151_e
set_option maxRecDepth 100000 in
def p36x_152 : ck_Sum := ((0, 0, 0), 245, [.inr (.inr (.inl 226)), .inl (ck_one 0), .inl (ck_one 1)], ([], [], []), ([], []), [(.inr (some (.inl (ck_one 0))), 245, ([], [], []))])
set_option maxRecDepth 100000 in
theorem p36x_152_e : ck_ok p1_O none [] [] 283 [] 78 p36x_152 = true := by decide +kernel
theorem p36x_152_s {X : Int → Int} {LX : Nat} : ck_Ok p1_O X LX 283 p36x_152 := ck_ok_s (ck_E0) ck_X0 ck_l0 p36x_152_e
set_option maxRecDepth 100000 in
def p36x_153 : ck_Sum := ((0, 0, 0), 245, [.inr (.inr (.inl 226))], ([], [], [(227, 2, 9, ck_one 0)]), ([], []), [(.inr (some (.inl (ck_one 0))), 245, ([], [], []))])
set_option maxRecDepth 100000 in
theorem p36x_153_e : ck_ok p1_O none [] [] 255 [] 80 p36x_153 = true := by decide +kernel
theorem p36x_153_s {X : Int → Int} {LX : Nat} : ck_Ok p1_O X LX 255 p36x_153 := ck_ok_s (ck_E0) ck_X0 ck_l0 p36x_153_e
set_option maxRecDepth 100000 in
def p36x_154 : ck_Sum := ((1, 0, 0), 245, [.inr (.inr (.inl 226))], ([], [], [(227, 2, 9, ck_one 0)]), ([], []), [(.inr none, 245, ([], [], []))])
set_option maxRecDepth 100000 in
theorem p36x_154_e : ck_ok p1_O none [] [(255, [p36x_153])] 333 [(2, [some (.inr (.inr (.inl 226))), some (.inl (ck_one 0))], ([], [], [(227, 2, 9, ck_one 0)]), 100, .inl 1, true)] 110 p36x_154 = true := by decide +kernel
theorem p36x_154_s {X : Int → Int} {LX : Nat} : ck_Ok p1_O X LX 333 p36x_154 := ck_ok_s (ck_E1 (ck_S1 p36x_153_s ck_S0) ck_E0) ck_X0 ck_l0 p36x_154_e
set_option maxRecDepth 100000 in
def p36x_155 : ck_Sum := ((1, 0, 0), 245, [.inr (.inr (.inl 226)), .inl (0, 299, none), .inl (ck_one (-1)), .inl (ck_one 1)], ([], [], [(227, 2, 9, ck_one 0)]), ([], []), [(.inr (some (.inl (ck_one 0))), 245, ([], [], []))])
set_option maxRecDepth 100000 in
theorem p36x_155_e : ck_ok p1_O none [] [(255, [p36x_153])] 334 [(6, [some (.inr (.inr (.inl 226))), some (.inl (0, 299, none)), some (.inl (ck_one (-1))), some (.inl (ck_one 1)), some (.inl (ck_one 0)), some (.inl (ck_one 0))], ([], [], [(227, 2, 9, ck_one 0)]), 100, .inl 4, true)] 114 p36x_155 = true := by decide +kernel
theorem p36x_155_s {X : Int → Int} {LX : Nat} : ck_Ok p1_O X LX 334 p36x_155 := ck_ok_s (ck_E1 (ck_S1 p36x_153_s ck_S0) ck_E0) ck_X0 ck_l0 p36x_155_e
set_option maxRecDepth 100000 in
def p36x_156 : ck_Sum := ((2, 0, 0), 245, [.inr (.inr (.inl 226)), .inl (0, 299, none)], ([], [], [(227, 2, 9, ck_one 0)]), ([(226, 0, 0)], []), [(.inr (some (.inl (ck_one 0))), 245, ([], [], [(226, 0, 0, ck_one 0)]))])
set_option maxRecDepth 100000 in
theorem p36x_156_e : ck_ok p1_O none [] [(286, [p36x_151]), (283, [p36x_152]), (333, [p36x_154]), (334, [p36x_155])] 362 [] 104 p36x_156 = true := by decide +kernel
theorem p36x_156_s {X : Int → Int} {LX : Nat} : ck_Ok p1_O X LX 362 p36x_156 := ck_ok_s (ck_E1 (ck_S1 p36x_151_s ck_S0) (ck_E1 (ck_S1 p36x_152_s ck_S0) (ck_E1 (ck_S1 p36x_154_s ck_S0) (ck_E1 (ck_S1 p36x_155_s ck_S0) ck_E0)))) ck_X0 ck_l0 p36x_156_e
set_option maxRecDepth 100000 in
def p36x_161 : ck_Sum := ((0, 0, 0), 245, [.inl (300, 2147483647, none), .inl (ck_one 0), .inl (ck_one 299)], ([], [], []), ([], []), [(.inr (some (.inl (ck_one 0))), 245, ([], [], []))])
set_option maxRecDepth 100000 in
theorem p36x_161_e : ck_ok p1_O none [] [] 287 [] 86 p36x_161 = true := by decide +kernel
theorem p36x_161_s {X : Int → Int} {LX : Nat} : ck_Ok p1_O X LX 287 p36x_161 := ck_ok_s (ck_E0) ck_X0 ck_l0 p36x_161_e
set_option maxRecDepth 100000 in
def p36x_162 : ck_Sum := ((1, 0, 0), 245, [.inl (300, 2147483647, none)], ([], [], []), ([], []), [(.inr (some (.inl (ck_one 1))), 245, ([], [], []))])
set_option maxRecDepth 100000 in
theorem p36x_162_e : ck_ok p1_O none [] [(287, [p36x_161])] 286 [] 86 p36x_162 = true := by decide +kernel
theorem p36x_162_s {X : Int → Int} {LX : Nat} : ck_Ok p1_O X LX 286 p36x_162 := ck_ok_s (ck_E1 (ck_S1 p36x_161_s ck_S0) ck_E0) ck_X0 ck_l0 p36x_162_e
set_option maxRecDepth 100000 in
def p36x_163 : ck_Sum := ((2, 0, 0), 245, [.inr (.inr (.inl 226)), .inl (300, 2147483647, none)], ([], [], []), ([(226, 0, 0)], []), [(.inr (some (.inl (ck_one 0))), 245, ([], [], [(226, 0, 0, ck_one 1)]))])
set_option maxRecDepth 100000 in
theorem p36x_163_e : ck_ok p1_O none [] [(286, [p36x_162]), (283, [p36x_138])] 362 [] 92 p36x_163 = true := by decide +kernel
theorem p36x_163_s {X : Int → Int} {LX : Nat} : ck_Ok p1_O X LX 362 p36x_163 := ck_ok_s (ck_E1 (ck_S1 p36x_162_s ck_S0) (ck_E1 (ck_S1 p36x_138_s ck_S0) ck_E0)) ck_X0 ck_l0 p36x_163_e
set_option maxRecDepth 100000 in
def p36x_140 : ck_Sum := ((0, 0, 0), 245, [.inr (.inr (.inl 226))], ([], [], [(226, 0, 0, ck_one 1)]), ([], []), [(.inr (some (.inl (ck_one 1))), 245, ([], [], []))])
set_option maxRecDepth 100000 in
theorem p36x_140_e : ck_ok p1_O none [] [] 234 [] 76 p36x_140 = true := by decide +kernel
theorem p36x_140_s {X : Int → Int} {LX : Nat} : ck_Ok p1_O X LX 234 p36x_140 := ck_ok_s (ck_E0) ck_X0 ck_l0 p36x_140_e
set_option maxRecDepth 100000 in
def p36x_157 : ck_Sum := ((0, 0, 0), 245, [.inr (.inr (.inl 226))], ([], [], [(226, 0, 0, ck_one 0)]), ([], []), [(.inr (some (.inl (ck_one 0))), 245, ([], [], []))])
set_option maxRecDepth 100000 in
theorem p36x_157_e : ck_ok p1_O none [] [] 234 [] 76 p36x_157 = true := by decide +kernel
theorem p36x_157_s {X : Int → Int} {LX : Nat} : ck_Ok p1_O X LX 234 p36x_157 := ck_ok_s (ck_E0) ck_X0 ck_l0 p36x_157_e
set_option maxRecDepth 100000 in
def p36_F : ck_F := ([], [(3, 8, 0), (16, 8, 0), (29, 8, 0), (44, 8, 0), (57, 8, 0), (70, 8, 0), (83, 8, 0), (96, 8, 0), (109, 8, 0), (122, 8, 0), (135, 8, 0), (148, 8, 0), (161, 8, 0), (174, 8, 0), (187, 8, 0)], [(245, 0, 0, ck_one 0), (227, 2, 9, ck_one 0), (226, 0, 0, ck_one 0), (1, 15, 15, ck_one 0), (220, 0, 0, ck_one 24), (220, 3, 3, ck_one 0), (10, 3, 3, ck_one 0)])
def p36_E : List (Nat × List ck_Sum) := [(222, [p36x_135, p36x_149, p36x_160]), (362, [p36x_139, p36x_156, p36x_163]), (234, [p36x_140, p36x_157])]
theorem p36_h {X : Int → Int} {LX : Nat} : ck_OkE p1_O X LX p36_E := ck_E1 (ck_S1 p36x_135_s (ck_S1 p36x_149_s (ck_S1 p36x_160_s ck_S0))) (ck_E1 (ck_S1 p36x_139_s (ck_S1 p36x_156_s (ck_S1 p36x_163_s ck_S0))) (ck_E1 (ck_S1 p36x_140_s (ck_S1 p36x_157_s ck_S0)) ck_E0))
set_option maxRecDepth 100000 in
theorem p36_b : (ck_prod [(1, [((-2147483648), (-1)), (0, 299), (300, 2147483647)])]).all (fun xf => ck_go p1_O (some 6) xf p36_E 370 280 245 p1_W p1_outs [] 132 false [] 1000 2000 2493 p1_L [] 245 p36_F) = true := by decide +kernel
theorem p36_s {X : Int → Int} {LX : Nat} (hLX : 6 = LX) (hX : ∀ j, gm_ir (X j)) {σ : Nat → Int} {L : gm_L} {K0 K : gm_K} {R0 R : gm_R} {M0 M : gm_M} (hS : ck_St p1_O σ p1_W 245 K0 R0 M0 p1_L [] p36_F L [] 245 K R M) : gm_Wp X LX 280 1000 2000 370 2493 L [] 245 K R M (ck_Q p1_O σ p1_W 245 K0 R0 M0 p1_outs) := ck_boxes p36_h hLX hX (by decide +kernel) p36_b hS
