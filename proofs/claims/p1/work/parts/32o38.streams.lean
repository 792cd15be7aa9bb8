/-! streams, on a new object: laid by wip/am/p1g.py. -/
set_option maxRecDepth 100000 in
def p38x_133 : ck_Sum := ((6, 1, 6), 245, [.inr (.inr (.inl 1)), .inl ((-2147483648), (-1), none)], ([], [], []), ([], []), [(.inl 0, 245, ([], [], []))])
set_option maxRecDepth 100000 in
theorem p38x_133_e : ck_ok p1_O none [] [] 129 [] 76 p38x_133 = true := by decide +kernel
theorem p38x_133_s {X : Int → Int} {LX : Nat} : ck_Ok p1_O X LX 129 p38x_133 := ck_ok_s (ck_E0) ck_X0 ck_l0 p38x_133_e
set_option maxRecDepth 100000 in
def p38x_134 : ck_Sum := ((7, 1, 6), 245, [.inr (.inr (.inl 1)), .inl ((-2147483648), (-1), none), .inl (ck_one 1)], ([], [], []), ([], []), [(.inl 0, 245, ([], [], []))])
set_option maxRecDepth 100000 in
theorem p38x_134_e : ck_ok p1_O none [] [(129, [p38x_133])] 225 [] 76 p38x_134 = true := by decide +kernel
theorem p38x_134_s {X : Int → Int} {LX : Nat} : ck_Ok p1_O X LX 225 p38x_134 := ck_ok_s (ck_E1 (ck_S1 p38x_133_s ck_S0) ck_E0) ck_X0 ck_l0 p38x_134_e
set_option maxRecDepth 100000 in
def p38x_135 : ck_Sum := ((8, 1, 6), 245, [.inr (.inr (.inl 1)), .inl ((-2147483648), (-1), none), .inl (ck_one 1), .inr (.inr (.inl 245))], ([], [], []), ([], []), [(.inr (some (.inl (ck_one 1))), 245, ([], [], []))])
set_option maxRecDepth 100000 in
theorem p38x_135_e : ck_ok p1_O none [] [(225, [p38x_134])] 224 [] 88 p38x_135 = true := by decide +kernel
theorem p38x_135_s {X : Int → Int} {LX : Nat} : ck_Ok p1_O X LX 224 p38x_135 := ck_ok_s (ck_E1 (ck_S1 p38x_134_s ck_S0) ck_E0) ck_X0 ck_l0 p38x_135_e
set_option maxRecDepth 100000 in
def p38x_141 : ck_Sum := ((7, 1, 6), 245, [.inr (.inr (.inl 1)), .inl ((-2147483648), (-1), none), .inl (ck_one 0)], ([], [], []), ([], []), [(.inl 0, 245, ([], [], []))])
set_option maxRecDepth 100000 in
theorem p38x_141_e : ck_ok p1_O none [] [(129, [p38x_133])] 225 [] 76 p38x_141 = true := by decide +kernel
theorem p38x_141_s {X : Int → Int} {LX : Nat} : ck_Ok p1_O X LX 225 p38x_141 := ck_ok_s (ck_E1 (ck_S1 p38x_133_s ck_S0) ck_E0) ck_X0 ck_l0 p38x_141_e
set_option maxRecDepth 100000 in
def p38x_142 : ck_Sum := ((8, 1, 6), 245, [.inr (.inr (.inl 1)), .inl ((-2147483648), (-1), none), .inl (ck_one 0), .inr (.inr (.inl 245))], ([], [], []), ([], []), [(.inr (some (.inl (ck_one 1))), 245, ([], [], []))])
set_option maxRecDepth 100000 in
theorem p38x_142_e : ck_ok p1_O none [] [(225, [p38x_141])] 224 [] 88 p38x_142 = true := by decide +kernel
theorem p38x_142_s {X : Int → Int} {LX : Nat} : ck_Ok p1_O X LX 224 p38x_142 := ck_ok_s (ck_E1 (ck_S1 p38x_141_s ck_S0) ck_E0) ck_X0 ck_l0 p38x_142_e
set_option maxRecDepth 100000 in
def p38x_144 : ck_Sum := ((0, 0, 0), 245, [.inr (.inr (.inl 1)), .inl (0, 299, none)], ([], [], []), ([], []), [(.inr none, 245, ([], [], []))])
set_option maxRecDepth 100000 in
theorem p38x_144_e : ck_ok p1_O none [] [] 129 [] 82 p38x_144 = true := by decide +kernel
theorem p38x_144_s {X : Int → Int} {LX : Nat} : ck_Ok p1_O X LX 129 p38x_144 := ck_ok_s (ck_E0) ck_X0 ck_l0 p38x_144_e
set_option maxRecDepth 100000 in
def p38x_145 : ck_Sum := ((0, 0, 0), 245, [.inr (.inr (.inl 10))], ([], [], [(10, 3, 3, ck_one 0)]), ([], []), [(.inr (some (.inl (ck_one 0))), 245, ([], [], []))])
set_option maxRecDepth 100000 in
theorem p38x_145_e : ck_ok p1_O none [] [] 9 [] 76 p38x_145 = true := by decide +kernel
theorem p38x_145_s {X : Int → Int} {LX : Nat} : ck_Ok p1_O X LX 9 p38x_145 := ck_ok_s (ck_E0) ck_X0 ck_l0 p38x_145_e
set_option maxRecDepth 100000 in
def p38x_148 : ck_Sum := ((0, 0, 0), 245, [.inr (.inr (.inl 220))], ([], [], [(220, 3, 3, ck_one 0)]), ([], []), [(.inr (some (.inl (ck_one 0))), 245, ([], [], []))])
set_option maxRecDepth 100000 in
theorem p38x_148_e : ck_ok p1_O none [] [] 9 [] 76 p38x_148 = true := by decide +kernel
theorem p38x_148_s {X : Int → Int} {LX : Nat} : ck_Ok p1_O X LX 9 p38x_148 := ck_ok_s (ck_E0) ck_X0 ck_l0 p38x_148_e
set_option maxRecDepth 100000 in
def p38x_146 : ck_Sum := ((0, 0, 0), 245, [.inr (.inr (.inl 221)), .inl (ck_one 0)], ([], [], []), ([(221, 0, 47)], []), [(.inr none, 245, ([], [], []))])
set_option maxRecDepth 100000 in
theorem p38x_146_e : ck_ok p1_O none [] [] 8 [(5, [some (.inr (.inr (.inl 221))), some (.inl (ck_one 0)), some (.inl (0, 48, none)), some (.inl (ck_one 48))], ([], [], []), 100, .inl 2, true)] 130 p38x_146 = true := by decide +kernel
theorem p38x_146_s {X : Int → Int} {LX : Nat} : ck_Ok p1_O X LX 8 p38x_146 := ck_ok_s (ck_E0) ck_X0 ck_l0 p38x_146_e
set_option maxRecDepth 100000 in
def p38x_147 : ck_Sum := ((1, 0, 0), 245, [.inr (.inr (.inl 220)), .inl (ck_one 0)], ([], [], [(220, 0, 0, ck_one 24)]), ([(220, 3, 3), (221, 0, 47)], []), [(.inr none, 245, ([], [], [(220, 3, 3, ck_one 0)]))])
set_option maxRecDepth 100000 in
theorem p38x_147_e : ck_ok p1_O none [] [(8, [p38x_146])] 25 [] 96 p38x_147 = true := by decide +kernel
theorem p38x_147_s {X : Int → Int} {LX : Nat} : ck_Ok p1_O X LX 25 p38x_147 := ck_ok_s (ck_E1 (ck_S1 p38x_146_s ck_S0) ck_E0) ck_X0 ck_l0 p38x_147_e
set_option maxRecDepth 100000 in
def p38x_149 : ck_Sum := ((2, 0, 0), 245, [.inr (.inr (.inl 1))], ([], [], [(1, 15, 15, ck_one 0), (220, 0, 0, ck_one 24), (220, 3, 3, ck_one 0), (10, 3, 3, ck_one 0)]), ([(1, 15, 15), (220, 3, 3), (221, 0, 47)], []), [(.inr none, 245, ([], [], [(1, 15, 15, ck_one 1), (220, 3, 3, ck_one 0)]))])
set_option maxRecDepth 100000 in
theorem p38x_149_e : ck_ok p1_O none [] [(9, [p38x_145, p38x_148]), (25, [p38x_147])] 24 [(27, [some (.inr (.inr (.inl 1))), some (.inl (ck_one 0))], ([], [], [(220, 3, 3, ck_one 0), (1, 15, 15, ck_one 0), (220, 0, 0, ck_one 24), (10, 3, 3, ck_one 0)]), 100, .inl 1, true)] 142 p38x_149 = true := by decide +kernel
theorem p38x_149_s {X : Int → Int} {LX : Nat} : ck_Ok p1_O X LX 24 p38x_149 := ck_ok_s (ck_E1 (ck_S1 p38x_145_s (ck_S1 p38x_148_s ck_S0)) (ck_E1 (ck_S1 p38x_147_s ck_S0) ck_E0)) ck_X0 ck_l0 p38x_149_e
set_option maxRecDepth 100000 in
def p38x_150 : ck_Sum := ((3, 0, 0), 245, [.inr (.inr (.inl 1)), .inl (0, 299, none), .inl (ck_one 1)], ([], [], [(1, 15, 15, ck_one 0), (220, 0, 0, ck_one 24), (220, 3, 3, ck_one 0), (10, 3, 3, ck_one 0)]), ([(1, 15, 15), (220, 3, 3), (221, 0, 47)], []), [(.inr (some (.inl (ck_one 0))), 245, ([], [], [(1, 15, 15, ck_one 1), (220, 3, 3, ck_one 0)]))])
set_option maxRecDepth 100000 in
theorem p38x_150_e : ck_ok p1_O none [] [(129, [p38x_144]), (24, [p38x_149]), (9, [p38x_148])] 225 [(14, [some (.inr (.inr (.inl 1))), some (.inl (0, 299, none)), some (.inl (ck_one 1)), some (.inl (ck_one 0)), some (.inl (ck_one 0)), none], ([], [], [(1, 15, 15, ck_one 1), (220, 3, 3, ck_one 0), (220, 0, 0, ck_one 24), (10, 3, 3, ck_one 0)]), 100, .inl 3, true)] 130 p38x_150 = true := by decide +kernel
theorem p38x_150_s {X : Int → Int} {LX : Nat} : ck_Ok p1_O X LX 225 p38x_150 := ck_ok_s (ck_E1 (ck_S1 p38x_144_s ck_S0) (ck_E1 (ck_S1 p38x_149_s ck_S0) (ck_E1 (ck_S1 p38x_148_s ck_S0) ck_E0))) ck_X0 ck_l0 p38x_150_e
set_option maxRecDepth 100000 in
def p38x_151 : ck_Sum := ((4, 0, 0), 245, [.inr (.inr (.inl 1)), .inl (0, 299, none), .inl (ck_one 1), .inr (.inr (.inl 245))], ([], [], [(1, 15, 15, ck_one 0), (220, 0, 0, ck_one 24), (220, 3, 3, ck_one 0), (10, 3, 3, ck_one 0)]), ([(1, 15, 15), (220, 3, 3), (221, 0, 47), (245, 0, 0)], []), [(.inr (some (.inl (ck_one 0))), 245, ([], [], [(245, 0, 0, ck_one 0), (1, 15, 15, ck_one 1), (220, 3, 3, ck_one 0)]))])
set_option maxRecDepth 100000 in
theorem p38x_151_e : ck_ok p1_O none [] [(225, [p38x_150])] 224 [] 92 p38x_151 = true := by decide +kernel
theorem p38x_151_s {X : Int → Int} {LX : Nat} : ck_Ok p1_O X LX 224 p38x_151 := ck_ok_s (ck_E1 (ck_S1 p38x_150_s ck_S0) ck_E0) ck_X0 ck_l0 p38x_151_e
set_option maxRecDepth 100000 in
def p38x_159 : ck_Sum := ((3, 0, 0), 245, [.inr (.inr (.inl 1)), .inl (0, 299, none), .inl (ck_one 0)], ([], [], [(1, 15, 15, ck_one 0), (220, 0, 0, ck_one 24), (220, 3, 3, ck_one 0), (10, 3, 3, ck_one 0)]), ([(1, 15, 15), (220, 3, 3), (221, 0, 47)], []), [(.inr (some (.inl (ck_one 0))), 245, ([], [], [(1, 15, 15, ck_one 1), (220, 3, 3, ck_one 0)]))])
set_option maxRecDepth 100000 in
theorem p38x_159_e : ck_ok p1_O none [] [(129, [p38x_144]), (24, [p38x_149]), (9, [p38x_148])] 225 [(14, [some (.inr (.inr (.inl 1))), some (.inl (0, 299, none)), some (.inl (ck_one 0)), some (.inl (ck_one 0)), some (.inl (ck_one 0)), none], ([], [], [(1, 15, 15, ck_one 1), (220, 3, 3, ck_one 0), (220, 0, 0, ck_one 24), (10, 3, 3, ck_one 0)]), 100, .inl 3, true)] 130 p38x_159 = true := by decide +kernel
theorem p38x_159_s {X : Int → Int} {LX : Nat} : ck_Ok p1_O X LX 225 p38x_159 := ck_ok_s (ck_E1 (ck_S1 p38x_144_s ck_S0) (ck_E1 (ck_S1 p38x_149_s ck_S0) (ck_E1 (ck_S1 p38x_148_s ck_S0) ck_E0))) ck_X0 ck_l0 p38x_159_e
set_option maxRecDepth 100000 in
def p38x_160 : ck_Sum := ((4, 0, 0), 245, [.inr (.inr (.inl 1)), .inl (0, 299, none), .inl (ck_one 0), .inr (.inr (.inl 245))], ([], [], [(1, 15, 15, ck_one 0), (220, 0, 0, ck_one 24), (220, 3, 3, ck_one 0), (10, 3, 3, ck_one 0)]), ([(1, 15, 15), (220, 3, 3), (221, 0, 47), (245, 0, 0)], []), [(.inr (some (.inl (ck_one 0))), 245, ([], [], [(245, 0, 0, ck_one 0), (1, 15, 15, ck_one 1), (220, 3, 3, ck_one 0)]))])
set_option maxRecDepth 100000 in
theorem p38x_160_e : ck_ok p1_O none [] [(225, [p38x_159])] 224 [] 92 p38x_160 = true := by decide +kernel
theorem p38x_160_s {X : Int → Int} {LX : Nat} : ck_Ok p1_O X LX 224 p38x_160 := ck_ok_s (ck_E1 (ck_S1 p38x_159_s ck_S0) ck_E0) ck_X0 ck_l0 p38x_160_e
set_option maxRecDepth 100000 in
def p38x_162 : ck_Sum := ((6, 1, 6), 245, [.inr (.inr (.inl 1)), .inl (300, 2147483647, none)], ([], [], []), ([], []), [(.inl 0, 245, ([], [], []))])
set_option maxRecDepth 100000 in
theorem p38x_162_e : ck_ok p1_O none [] [] 129 [] 82 p38x_162 = true := by decide +kernel
theorem p38x_162_s {X : Int → Int} {LX : Nat} : ck_Ok p1_O X LX 129 p38x_162 := ck_ok_s (ck_E0) ck_X0 ck_l0 p38x_162_e
set_option maxRecDepth 100000 in
def p38x_163 : ck_Sum := ((7, 1, 6), 245, [.inr (.inr (.inl 1)), .inl (300, 2147483647, none), .inl (ck_one 1)], ([], [], []), ([], []), [(.inl 0, 245, ([], [], []))])
set_option maxRecDepth 100000 in
theorem p38x_163_e : ck_ok p1_O none [] [(129, [p38x_162])] 225 [] 76 p38x_163 = true := by decide +kernel
theorem p38x_163_s {X : Int → Int} {LX : Nat} : ck_Ok p1_O X LX 225 p38x_163 := ck_ok_s (ck_E1 (ck_S1 p38x_162_s ck_S0) ck_E0) ck_X0 ck_l0 p38x_163_e
set_option maxRecDepth 100000 in
def p38x_164 : ck_Sum := ((8, 1, 6), 245, [.inr (.inr (.inl 1)), .inl (300, 2147483647, none), .inl (ck_one 1), .inr (.inr (.inl 245))], ([], [], []), ([], []), [(.inr (some (.inl (ck_one 1))), 245, ([], [], []))])
set_option maxRecDepth 100000 in
theorem p38x_164_e : ck_ok p1_O none [] [(225, [p38x_163])] 224 [] 88 p38x_164 = true := by decide +kernel
theorem p38x_164_s {X : Int → Int} {LX : Nat} : ck_Ok p1_O X LX 224 p38x_164 := ck_ok_s (ck_E1 (ck_S1 p38x_163_s ck_S0) ck_E0) ck_X0 ck_l0 p38x_164_e
set_option maxRecDepth 100000 in
def p38x_168 : ck_Sum := ((7, 1, 6), 245, [.inr (.inr (.inl 1)), .inl (300, 2147483647, none), .inl (ck_one 0)], ([], [], []), ([], []), [(.inl 0, 245, ([], [], []))])
set_option maxRecDepth 100000 in
theorem p38x_168_e : ck_ok p1_O none [] [(129, [p38x_162])] 225 [] 76 p38x_168 = true := by decide +kernel
theorem p38x_168_s {X : Int → Int} {LX : Nat} : ck_Ok p1_O X LX 225 p38x_168 := ck_ok_s (ck_E1 (ck_S1 p38x_162_s ck_S0) ck_E0) ck_X0 ck_l0 p38x_168_e
set_option maxRecDepth 100000 in
def p38x_169 : ck_Sum := ((8, 1, 6), 245, [.inr (.inr (.inl 1)), .inl (300, 2147483647, none), .inl (ck_one 0), .inr (.inr (.inl 245))], ([], [], []), ([], []), [(.inr (some (.inl (ck_one 1))), 245, ([], [], []))])
set_option maxRecDepth 100000 in
theorem p38x_169_e : ck_ok p1_O none [] [(225, [p38x_168])] 224 [] 88 p38x_169 = true := by decide +kernel
theorem p38x_169_s {X : Int → Int} {LX : Nat} : ck_Ok p1_O X LX 224 p38x_169 := ck_ok_s (ck_E1 (ck_S1 p38x_168_s ck_S0) ck_E0) ck_X0 ck_l0 p38x_169_e
set_option maxRecDepth 100000 in
def p38x_136 : ck_Sum := ((0, 0, 0), 245, [.inl ((-2147483648), (-1), none), .inl (ck_one 0), .inl (ck_one 299)], ([], [], []), ([], []), [(.inr (some (.inl (ck_one 0))), 245, ([], [], []))])
set_option maxRecDepth 100000 in
theorem p38x_136_e : ck_ok p1_O none [] [] 287 [] 80 p38x_136 = true := by decide +kernel
theorem p38x_136_s {X : Int → Int} {LX : Nat} : ck_Ok p1_O X LX 287 p38x_136 := ck_ok_s (ck_E0) ck_X0 ck_l0 p38x_136_e
set_option maxRecDepth 100000 in
def p38x_137 : ck_Sum := ((1, 0, 0), 245, [.inl ((-2147483648), (-1), none)], ([], [], []), ([], []), [(.inr (some (.inl (ck_one 1))), 245, ([], [], []))])
set_option maxRecDepth 100000 in
theorem p38x_137_e : ck_ok p1_O none [] [(287, [p38x_136])] 286 [] 86 p38x_137 = true := by decide +kernel
theorem p38x_137_s {X : Int → Int} {LX : Nat} : ck_Ok p1_O X LX 286 p38x_137 := ck_ok_s (ck_E1 (ck_S1 p38x_136_s ck_S0) ck_E0) ck_X0 ck_l0 p38x_137_e
set_option maxRecDepth 100000 in
def p38x_138 : ck_Sum := ((0, 0, 0), 245, [.inr (.inr (.inl 226)), .inl (ck_one 1), .inl (ck_one 1)], ([], [], []), ([(226, 0, 0)], []), [(.inr (some (.inl (ck_one 1))), 245, ([], [], [(226, 0, 0, ck_one 1)]))])
set_option maxRecDepth 100000 in
theorem p38x_138_e : ck_ok p1_O none [] [] 283 [] 84 p38x_138 = true := by decide +kernel
theorem p38x_138_s {X : Int → Int} {LX : Nat} : ck_Ok p1_O X LX 283 p38x_138 := ck_ok_s (ck_E0) ck_X0 ck_l0 p38x_138_e
set_option maxRecDepth 100000 in
def p38x_139 : ck_Sum := ((2, 0, 0), 245, [.inr (.inr (.inl 226)), .inl ((-2147483648), (-1), none), .inl (ck_one 1)], ([], [], []), ([(226, 0, 0)], []), [(.inr (some (.inl (ck_one 0))), 245, ([], [], [(226, 0, 0, ck_one 1)]))])
set_option maxRecDepth 100000 in
theorem p38x_139_e : ck_ok p1_O none [] [(286, [p38x_137]), (283, [p38x_138])] 364 [] 92 p38x_139 = true := by decide +kernel
theorem p38x_139_s {X : Int → Int} {LX : Nat} : ck_Ok p1_O X LX 364 p38x_139 := ck_ok_s (ck_E1 (ck_S1 p38x_137_s ck_S0) (ck_E1 (ck_S1 p38x_138_s ck_S0) ck_E0)) ck_X0 ck_l0 p38x_139_e
set_option maxRecDepth 100000 in
def p38x_143 : ck_Sum := ((2, 0, 0), 245, [.inr (.inr (.inl 226)), .inl ((-2147483648), (-1), none), .inl (ck_one 0)], ([], [], []), ([(226, 0, 0)], []), [(.inr (some (.inl (ck_one 0))), 245, ([], [], [(226, 0, 0, ck_one 1)]))])
set_option maxRecDepth 100000 in
theorem p38x_143_e : ck_ok p1_O none [] [(286, [p38x_137]), (283, [p38x_138])] 364 [] 92 p38x_143 = true := by decide +kernel
theorem p38x_143_s {X : Int → Int} {LX : Nat} : ck_Ok p1_O X LX 364 p38x_143 := ck_ok_s (ck_E1 (ck_S1 p38x_137_s ck_S0) (ck_E1 (ck_S1 p38x_138_s ck_S0) ck_E0)) ck_X0 ck_l0 p38x_143_e
set_option maxRecDepth 100000 in
def p38x_152 : ck_Sum := ((0, 0, 0), 245, [.inl (0, 299, none), .inl (ck_one 0), .inl (ck_one 299)], ([], [], []), ([], []), [(.inr (some (.inl (ck_one 1))), 245, ([], [], []))])
set_option maxRecDepth 100000 in
theorem p38x_152_e : ck_ok p1_O none [] [] 287 [] 88 p38x_152 = true := by decide +kernel
theorem p38x_152_s {X : Int → Int} {LX : Nat} : ck_Ok p1_O X LX 287 p38x_152 := ck_ok_s (ck_E0) ck_X0 ck_l0 p38x_152_e
set_option maxRecDepth 100000 in
def p38x_153 : ck_Sum := ((1, 0, 0), 245, [.inl (0, 299, none)], ([], [], []), ([], []), [(.inr (some (.inl (ck_one 0))), 245, ([], [], []))])
set_option maxRecDepth 100000 in
theorem p38x_153_e : ck_ok p1_O none [] [(287, [p38x_152])] 286 [] 84 p38x_153 = true := by decide +kernel
theorem p38x_153_s {X : Int → Int} {LX : Nat} : ck_Ok p1_O X LX 286 p38x_153 := ck_ok_s (ck_E1 (ck_S1 p38x_152_s ck_S0) ck_E0) ck_X0 ck_l0 p38x_153_e
set_option maxRecDepth 100000 in
def p38x_154 : ck_Sum := ((0, 0, 0), 245, [.inr (.inr (.inl 226)), .inl (ck_one 0), .inl (ck_one 1)], ([], [], []), ([], []), [(.inr (some (.inl (ck_one 0))), 245, ([], [], []))])
set_option maxRecDepth 100000 in
theorem p38x_154_e : ck_ok p1_O none [] [] 283 [] 78 p38x_154 = true := by decide +kernel
theorem p38x_154_s {X : Int → Int} {LX : Nat} : ck_Ok p1_O X LX 283 p38x_154 := ck_ok_s (ck_E0) ck_X0 ck_l0 p38x_154_e
set_option maxRecDepth 100000 in
def p38x_155 : ck_Sum := ((0, 0, 0), 245, [.inr (.inr (.inl 226))], ([], [], [(227, 2, 9, ck_one 0)]), ([], []), [(.inr (some (.inl (ck_one 0))), 245, ([], [], []))])
set_option maxRecDepth 100000 in
theorem p38x_155_e : ck_ok p1_O none [] [] 255 [] 80 p38x_155 = true := by decide +kernel
theorem p38x_155_s {X : Int → Int} {LX : Nat} : ck_Ok p1_O X LX 255 p38x_155 := ck_ok_s (ck_E0) ck_X0 ck_l0 p38x_155_e
set_option maxRecDepth 100000 in
def p38x_156 : ck_Sum := ((1, 0, 0), 245, [.inr (.inr (.inl 226))], ([], [], [(227, 2, 9, ck_one 0)]), ([], []), [(.inr none, 245, ([], [], []))])
set_option maxRecDepth 100000 in
theorem p38x_156_e : ck_ok p1_O none [] [(255, [p38x_155])] 333 [(2, [some (.inr (.inr (.inl 226))), some (.inl (ck_one 0))], ([], [], [(227, 2, 9, ck_one 0)]), 100, .inl 1, true)] 110 p38x_156 = true := by decide +kernel
theorem p38x_156_s {X : Int → Int} {LX : Nat} : ck_Ok p1_O X LX 333 p38x_156 := ck_ok_s (ck_E1 (ck_S1 p38x_155_s ck_S0) ck_E0) ck_X0 ck_l0 p38x_156_e
set_option maxRecDepth 100000 in
def p38x_157 : ck_Sum := ((2, 0, 0), 245, [.inr (.inr (.inl 226)), .inl (0, 299, none), .inl (ck_one 1)], ([], [], [(227, 2, 9, ck_one 0), (226, 0, 0, ck_one 0)]), ([(226, 0, 0)], []), [(.inr (some (.inl (ck_one 0))), 245, ([], [], [(226, 0, 0, ck_one 0)]))])
set_option maxRecDepth 100000 in
theorem p38x_157_e : ck_ok p1_O none [] [(286, [p38x_153]), (283, [p38x_154]), (333, [p38x_156]), (255, [p38x_155])] 364 [(28, [some (.inr (.inr (.inl 226))), some (.inl (0, 299, none)), some (.inl (ck_one 1)), some (.inl (ck_one 0)), some (.inl (ck_one 0))], ([], [], [(226, 0, 0, ck_one 0), (227, 2, 9, ck_one 0)]), 100, .inl 3, true)] 154 p38x_157 = true := by decide +kernel
theorem p38x_157_s {X : Int → Int} {LX : Nat} : ck_Ok p1_O X LX 364 p38x_157 := ck_ok_s (ck_E1 (ck_S1 p38x_153_s ck_S0) (ck_E1 (ck_S1 p38x_154_s ck_S0) (ck_E1 (ck_S1 p38x_156_s ck_S0) (ck_E1 (ck_S1 p38x_155_s ck_S0) ck_E0)))) ck_X0 ck_l0 p38x_157_e
set_option maxRecDepth 100000 in
def p38x_161 : ck_Sum := ((2, 0, 0), 245, [.inr (.inr (.inl 226)), .inl (0, 299, none), .inl (ck_one 0)], ([], [], [(227, 2, 9, ck_one 0), (226, 0, 0, ck_one 0)]), ([(226, 0, 0)], []), [(.inr (some (.inl (ck_one 0))), 245, ([], [], [(226, 0, 0, ck_one 0)]))])
set_option maxRecDepth 100000 in
theorem p38x_161_e : ck_ok p1_O none [] [(286, [p38x_153]), (283, [p38x_154]), (333, [p38x_156]), (255, [p38x_155])] 364 [(28, [some (.inr (.inr (.inl 226))), some (.inl (0, 299, none)), some (.inl (ck_one 0)), some (.inl (ck_one 0)), some (.inl (ck_one 0))], ([], [], [(226, 0, 0, ck_one 0), (227, 2, 9, ck_one 0)]), 100, .inl 3, true)] 154 p38x_161 = true := by decide +kernel
theorem p38x_161_s {X : Int → Int} {LX : Nat} : ck_Ok p1_O X LX 364 p38x_161 := ck_ok_s (ck_E1 (ck_S1 p38x_153_s ck_S0) (ck_E1 (ck_S1 p38x_154_s ck_S0) (ck_E1 (ck_S1 p38x_156_s ck_S0) (ck_E1 (ck_S1 p38x_155_s ck_S0) ck_E0)))) ck_X0 ck_l0 p38x_161_e
set_option maxRecDepth 100000 in
def p38x_165 : ck_Sum := ((0, 0, 0), 245, [.inl (300, 2147483647, none), .inl (ck_one 0), .inl (ck_one 299)], ([], [], []), ([], []), [(.inr (some (.inl (ck_one 0))), 245, ([], [], []))])
set_option maxRecDepth 100000 in
theorem p38x_165_e : ck_ok p1_O none [] [] 287 [] 86 p38x_165 = true := by decide +kernel
theorem p38x_165_s {X : Int → Int} {LX : Nat} : ck_Ok p1_O X LX 287 p38x_165 := ck_ok_s (ck_E0) ck_X0 ck_l0 p38x_165_e
set_option maxRecDepth 100000 in
def p38x_166 : ck_Sum := ((1, 0, 0), 245, [.inl (300, 2147483647, none)], ([], [], []), ([], []), [(.inr (some (.inl (ck_one 1))), 245, ([], [], []))])
set_option maxRecDepth 100000 in
theorem p38x_166_e : ck_ok p1_O none [] [(287, [p38x_165])] 286 [] 86 p38x_166 = true := by decide +kernel
theorem p38x_166_s {X : Int → Int} {LX : Nat} : ck_Ok p1_O X LX 286 p38x_166 := ck_ok_s (ck_E1 (ck_S1 p38x_165_s ck_S0) ck_E0) ck_X0 ck_l0 p38x_166_e
set_option maxRecDepth 100000 in
def p38x_167 : ck_Sum := ((2, 0, 0), 245, [.inr (.inr (.inl 226)), .inl (300, 2147483647, none), .inl (ck_one 1)], ([], [], []), ([(226, 0, 0)], []), [(.inr (some (.inl (ck_one 0))), 245, ([], [], [(226, 0, 0, ck_one 1)]))])
set_option maxRecDepth 100000 in
theorem p38x_167_e : ck_ok p1_O none [] [(286, [p38x_166]), (283, [p38x_138])] 364 [] 92 p38x_167 = true := by decide +kernel
theorem p38x_167_s {X : Int → Int} {LX : Nat} : ck_Ok p1_O X LX 364 p38x_167 := ck_ok_s (ck_E1 (ck_S1 p38x_166_s ck_S0) (ck_E1 (ck_S1 p38x_138_s ck_S0) ck_E0)) ck_X0 ck_l0 p38x_167_e
set_option maxRecDepth 100000 in
def p38x_170 : ck_Sum := ((2, 0, 0), 245, [.inr (.inr (.inl 226)), .inl (300, 2147483647, none), .inl (ck_one 0)], ([], [], []), ([(226, 0, 0)], []), [(.inr (some (.inl (ck_one 0))), 245, ([], [], [(226, 0, 0, ck_one 1)]))])
set_option maxRecDepth 100000 in
theorem p38x_170_e : ck_ok p1_O none [] [(286, [p38x_166]), (283, [p38x_138])] 364 [] 92 p38x_170 = true := by decide +kernel
theorem p38x_170_s {X : Int → Int} {LX : Nat} : ck_Ok p1_O X LX 364 p38x_170 := ck_ok_s (ck_E1 (ck_S1 p38x_166_s ck_S0) (ck_E1 (ck_S1 p38x_138_s ck_S0) ck_E0)) ck_X0 ck_l0 p38x_170_e
set_option maxRecDepth 100000 in
def p38x_140 : ck_Sum := ((0, 0, 0), 245, [.inr (.inr (.inl 226))], ([], [], [(226, 0, 0, ck_one 1)]), ([], []), [(.inr (some (.inl (ck_one 1))), 245, ([], [], []))])
set_option maxRecDepth 100000 in
theorem p38x_140_e : ck_ok p1_O none [] [] 234 [] 76 p38x_140 = true := by decide +kernel
theorem p38x_140_s {X : Int → Int} {LX : Nat} : ck_Ok p1_O X LX 234 p38x_140 := ck_ok_s (ck_E0) ck_X0 ck_l0 p38x_140_e
set_option maxRecDepth 100000 in
def p38x_158 : ck_Sum := ((0, 0, 0), 245, [.inr (.inr (.inl 226))], ([], [], [(226, 0, 0, ck_one 0)]), ([], []), [(.inr (some (.inl (ck_one 0))), 245, ([], [], []))])
set_option maxRecDepth 100000 in
theorem p38x_158_e : ck_ok p1_O none [] [] 234 [] 76 p38x_158 = true := by decide +kernel
theorem p38x_158_s {X : Int → Int} {LX : Nat} : ck_Ok p1_O X LX 234 p38x_158 := ck_ok_s (ck_E0) ck_X0 ck_l0 p38x_158_e
set_option maxRecDepth 100000 in
def p38_F : ck_F := ([], [(3, 8, 0), (16, 8, 0), (29, 8, 0), (44, 8, 0), (57, 8, 0), (70, 8, 0), (83, 8, 0), (96, 8, 0), (109, 8, 0), (122, 8, 0), (135, 8, 0), (148, 8, 0), (161, 8, 0), (174, 8, 0), (187, 8, 0)], [(245, 0, 0, ck_one 0), (227, 2, 9, ck_one 0), (226, 0, 0, ck_one 0), (1, 15, 15, ck_one 0), (220, 0, 0, ck_one 24), (220, 3, 3, ck_one 0), (10, 3, 3, ck_one 0)])
def p38_E : List (Nat × List ck_Sum) := [(224, [p38x_135, p38x_142, p38x_151, p38x_160, p38x_164, p38x_169]), (364, [p38x_139, p38x_143, p38x_157, p38x_161, p38x_167, p38x_170]), (234, [p38x_140, p38x_158])]
theorem p38_h {X : Int → Int} {LX : Nat} : ck_OkE p1_O X LX p38_E := ck_E1 (ck_S1 p38x_135_s (ck_S1 p38x_142_s (ck_S1 p38x_151_s (ck_S1 p38x_160_s (ck_S1 p38x_164_s (ck_S1 p38x_169_s ck_S0)))))) (ck_E1 (ck_S1 p38x_139_s (ck_S1 p38x_143_s (ck_S1 p38x_157_s (ck_S1 p38x_161_s (ck_S1 p38x_167_s (ck_S1 p38x_170_s ck_S0)))))) (ck_E1 (ck_S1 p38x_140_s (ck_S1 p38x_158_s ck_S0)) ck_E0))
set_option maxRecDepth 100000 in
theorem p38_b : (ck_prod [(1, [((-2147483648), (-1)), (0, 299), (300, 2147483647)]), (2, [((-2147483648), (-1)), (0, 0), (1, 2147483647)])]).all (fun xf => ck_go p1_O (some 6) xf p38_E 370 280 245 p1_W p1_outs [] 164 false [] 1000 2000 2574 p1_L [] 245 p38_F) = true := by decide +kernel
theorem p38_s {X : Int → Int} {LX : Nat} (hLX : 6 = LX) (hX : ∀ j, gm_ir (X j)) {σ : Nat → Int} {L : gm_L} {K0 K : gm_K} {R0 R : gm_R} {M0 M : gm_M} (hS : ck_St p1_O σ p1_W 245 K0 R0 M0 p1_L [] p38_F L [] 245 K R M) : gm_Wp X LX 280 1000 2000 370 2574 L [] 245 K R M (ck_Q p1_O σ p1_W 245 K0 R0 M0 p1_outs) := ck_boxes p38_h hLX hX (by decide +kernel) p38_b hS
