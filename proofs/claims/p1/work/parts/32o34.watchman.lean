/-! watchman, on a new object: laid by wip/am/p1g.py. -/
set_option maxRecDepth 100000 in
def p34x_133 : ck_Sum := ((6, 1, 6), 245, [.inr (.inr (.inl 1)), .inl ((-2147483648), 0, none)], ([], [], []), ([], []), [(.inl 0, 245, ([], [], []))])
set_option maxRecDepth 100000 in
theorem p34x_133_e : ck_ok p1_O none [] [] 214 [] 78 p34x_133 = true := by decide +kernel
theorem p34x_133_s {X : Int → Int} {LX : Nat} : ck_Ok p1_O X LX 214 p34x_133 := ck_ok_s (ck_E0) ck_X0 ck_l0 p34x_133_e
set_option maxRecDepth 100000 in
def p34x_134 : ck_Sum := ((7, 1, 6), 245, [.inr (.inr (.inl 1)), .inl ((-2147483648), 0, none), .inl (ck_one 1)], ([], [], []), ([], []), [(.inl 0, 245, ([], [], []))])
set_option maxRecDepth 100000 in
theorem p34x_134_e : ck_ok p1_O none [] [(214, [p34x_133])] 218 [] 76 p34x_134 = true := by decide +kernel
theorem p34x_134_s {X : Int → Int} {LX : Nat} : ck_Ok p1_O X LX 218 p34x_134 := ck_ok_s (ck_E1 (ck_S1 p34x_133_s ck_S0) ck_E0) ck_X0 ck_l0 p34x_134_e
set_option maxRecDepth 100000 in
def p34x_135 : ck_Sum := ((8, 1, 6), 245, [.inr (.inr (.inl 1)), .inl ((-2147483648), 0, none), .inl (ck_one 1), .inr (.inr (.inl 245))], ([], [], []), ([], []), [(.inr (some (.inl (ck_one 1))), 245, ([], [], []))])
set_option maxRecDepth 100000 in
theorem p34x_135_e : ck_ok p1_O none [] [(218, [p34x_134])] 217 [] 88 p34x_135 = true := by decide +kernel
theorem p34x_135_s {X : Int → Int} {LX : Nat} : ck_Ok p1_O X LX 217 p34x_135 := ck_ok_s (ck_E1 (ck_S1 p34x_134_s ck_S0) ck_E0) ck_X0 ck_l0 p34x_135_e
set_option maxRecDepth 100000 in
def p34x_140 : ck_Sum := ((7, 1, 6), 245, [.inr (.inr (.inl 1)), .inl ((-2147483648), 0, none), .inl (ck_one 0)], ([], [], []), ([], []), [(.inl 0, 245, ([], [], []))])
set_option maxRecDepth 100000 in
theorem p34x_140_e : ck_ok p1_O none [] [(214, [p34x_133])] 218 [] 76 p34x_140 = true := by decide +kernel
theorem p34x_140_s {X : Int → Int} {LX : Nat} : ck_Ok p1_O X LX 218 p34x_140 := ck_ok_s (ck_E1 (ck_S1 p34x_133_s ck_S0) ck_E0) ck_X0 ck_l0 p34x_140_e
set_option maxRecDepth 100000 in
def p34x_141 : ck_Sum := ((8, 1, 6), 245, [.inr (.inr (.inl 1)), .inl ((-2147483648), 0, none), .inl (ck_one 0), .inr (.inr (.inl 245))], ([], [], []), ([], []), [(.inr (some (.inl (ck_one 1))), 245, ([], [], []))])
set_option maxRecDepth 100000 in
theorem p34x_141_e : ck_ok p1_O none [] [(218, [p34x_140])] 217 [] 88 p34x_141 = true := by decide +kernel
theorem p34x_141_s {X : Int → Int} {LX : Nat} : ck_Ok p1_O X LX 217 p34x_141 := ck_ok_s (ck_E1 (ck_S1 p34x_140_s ck_S0) ck_E0) ck_X0 ck_l0 p34x_141_e
set_option maxRecDepth 100000 in
def p34x_143 : ck_Sum := ((0, 0, 0), 245, [.inr (.inr (.inl 1)), .inl (ck_one 1)], ([], [], []), ([], []), [(.inr none, 245, ([], [], []))])
set_option maxRecDepth 100000 in
theorem p34x_143_e : ck_ok p1_O none [] [] 214 [] 84 p34x_143 = true := by decide +kernel
theorem p34x_143_s {X : Int → Int} {LX : Nat} : ck_Ok p1_O X LX 214 p34x_143 := ck_ok_s (ck_E0) ck_X0 ck_l0 p34x_143_e
set_option maxRecDepth 100000 in
def p34x_144 : ck_Sum := ((0, 0, 0), 245, [.inr (.inr (.inl 10))], ([], [], [(10, 3, 3, ck_one 0)]), ([], []), [(.inr (some (.inl (ck_one 0))), 245, ([], [], []))])
set_option maxRecDepth 100000 in
theorem p34x_144_e : ck_ok p1_O none [] [] 9 [] 76 p34x_144 = true := by decide +kernel
theorem p34x_144_s {X : Int → Int} {LX : Nat} : ck_Ok p1_O X LX 9 p34x_144 := ck_ok_s (ck_E0) ck_X0 ck_l0 p34x_144_e
set_option maxRecDepth 100000 in
def p34x_147 : ck_Sum := ((0, 0, 0), 245, [.inr (.inr (.inl 220))], ([], [], [(220, 3, 3, ck_one 0)]), ([], []), [(.inr (some (.inl (ck_one 0))), 245, ([], [], []))])
set_option maxRecDepth 100000 in
theorem p34x_147_e : ck_ok p1_O none [] [] 9 [] 76 p34x_147 = true := by decide +kernel
theorem p34x_147_s {X : Int → Int} {LX : Nat} : ck_Ok p1_O X LX 9 p34x_147 := ck_ok_s (ck_E0) ck_X0 ck_l0 p34x_147_e
set_option maxRecDepth 100000 in
def p34x_145 : ck_Sum := ((0, 0, 0), 245, [.inr (.inr (.inl 221)), .inl (ck_one 0)], ([], [], []), ([(221, 0, 47)], []), [(.inr none, 245, ([], [], []))])
set_option maxRecDepth 100000 in
theorem p34x_145_e : ck_ok p1_O none [] [] 8 [(5, [some (.inr (.inr (.inl 221))), some (.inl (ck_one 0)), some (.inl (0, 48, none)), some (.inl (ck_one 48))], ([], [], []), 100, .inl 2, true)] 130 p34x_145 = true := by decide +kernel
theorem p34x_145_s {X : Int → Int} {LX : Nat} : ck_Ok p1_O X LX 8 p34x_145 := ck_ok_s (ck_E0) ck_X0 ck_l0 p34x_145_e
set_option maxRecDepth 100000 in
def p34x_146 : ck_Sum := ((1, 0, 0), 245, [.inr (.inr (.inl 220)), .inl (ck_one 0)], ([], [], [(220, 0, 0, ck_one 24)]), ([(220, 3, 3), (221, 0, 47)], []), [(.inr none, 245, ([], [], [(220, 3, 3, ck_one 0)]))])
set_option maxRecDepth 100000 in
theorem p34x_146_e : ck_ok p1_O none [] [(8, [p34x_145])] 25 [] 96 p34x_146 = true := by decide +kernel
theorem p34x_146_s {X : Int → Int} {LX : Nat} : ck_Ok p1_O X LX 25 p34x_146 := ck_ok_s (ck_E1 (ck_S1 p34x_145_s ck_S0) ck_E0) ck_X0 ck_l0 p34x_146_e
set_option maxRecDepth 100000 in
def p34x_148 : ck_Sum := ((2, 0, 0), 245, [.inr (.inr (.inl 1))], ([], [], [(1, 15, 15, ck_one 0), (220, 0, 0, ck_one 24), (220, 3, 3, ck_one 0), (10, 3, 3, ck_one 0)]), ([(1, 15, 15), (220, 3, 3), (221, 0, 47)], []), [(.inr none, 245, ([], [], [(1, 15, 15, ck_one 1), (220, 3, 3, ck_one 0)]))])
set_option maxRecDepth 100000 in
theorem p34x_148_e : ck_ok p1_O none [] [(9, [p34x_144, p34x_147]), (25, [p34x_146])] 24 [(27, [some (.inr (.inr (.inl 1))), some (.inl (ck_one 0))], ([], [], [(220, 3, 3, ck_one 0), (1, 15, 15, ck_one 0), (220, 0, 0, ck_one 24), (10, 3, 3, ck_one 0)]), 100, .inl 1, true)] 142 p34x_148 = true := by decide +kernel
theorem p34x_148_s {X : Int → Int} {LX : Nat} : ck_Ok p1_O X LX 24 p34x_148 := ck_ok_s (ck_E1 (ck_S1 p34x_144_s (ck_S1 p34x_147_s ck_S0)) (ck_E1 (ck_S1 p34x_146_s ck_S0) ck_E0)) ck_X0 ck_l0 p34x_148_e
set_option maxRecDepth 100000 in
def p34x_149 : ck_Sum := ((0, 0, 0), 245, [.inr (.inr (.inl 223)), .inl (ck_one 0)], ([], [], [(223, 0, 179, ck_one 0)]), ([(223, 0, 179)], []), [(.inr none, 245, ([], [], [(223, 0, 179, ck_one 0)]))])
set_option maxRecDepth 100000 in
theorem p34x_149_e : ck_ok p1_O none [] [] 8 [(5, [some (.inr (.inr (.inl 223))), some (.inl (ck_one 0)), some (.inl (0, 180, none)), some (.inl (ck_one 180))], ([], [], [(223, 0, 179, ck_one 0)]), 100, .inl 2, true)] 130 p34x_149 = true := by decide +kernel
theorem p34x_149_s {X : Int → Int} {LX : Nat} : ck_Ok p1_O X LX 8 p34x_149 := ck_ok_s (ck_E0) ck_X0 ck_l0 p34x_149_e
set_option maxRecDepth 100000 in
def p34x_150 : ck_Sum := ((1, 0, 0), 245, [.inr (.inr (.inl 222)), .inl (ck_one 1)], ([], [], [(222, 0, 0, ck_one 30), (223, 0, 179, ck_one 0)]), ([(222, 3, 3), (223, 0, 179)], []), [(.inr none, 245, ([], [], [(222, 3, 3, ck_one 1), (223, 0, 179, ck_one 0)]))])
set_option maxRecDepth 100000 in
theorem p34x_150_e : ck_ok p1_O none [] [(8, [p34x_149])] 25 [] 96 p34x_150 = true := by decide +kernel
theorem p34x_150_s {X : Int → Int} {LX : Nat} : ck_Ok p1_O X LX 25 p34x_150 := ck_ok_s (ck_E1 (ck_S1 p34x_149_s ck_S0) ck_E0) ck_X0 ck_l0 p34x_150_e
set_option maxRecDepth 100000 in
def p34x_151 : ck_Sum := ((2, 0, 0), 245, [.inr (.inr (.inl 1)), .inl (ck_one 1)], ([], [], [(220, 3, 3, ck_one 0), (222, 0, 0, ck_one 30), (222, 3, 3, ck_one 0), (223, 0, 179, ck_one 0)]), ([(222, 3, 3), (223, 0, 179)], []), [(.inr none, 245, ([], [], [(222, 3, 3, ck_one 1), (223, 0, 179, ck_one 0)]))])
set_option maxRecDepth 100000 in
theorem p34x_151_e : ck_ok p1_O none [] [(25, [p34x_150]), (9, [p34x_147])] 215 [(10, [some (.inr (.inr (.inl 1))), some (.inl (ck_one 1)), some (.inl (ck_one 0)), none, none], ([], [], [(222, 3, 3, ck_one 1), (223, 0, 179, ck_one 0), (220, 3, 3, ck_one 0), (222, 0, 0, ck_one 30)]), 100, .inl 2, true)] 118 p34x_151 = true := by decide +kernel
theorem p34x_151_s {X : Int → Int} {LX : Nat} : ck_Ok p1_O X LX 215 p34x_151 := ck_ok_s (ck_E1 (ck_S1 p34x_150_s ck_S0) (ck_E1 (ck_S1 p34x_147_s ck_S0) ck_E0)) ck_X0 ck_l0 p34x_151_e
set_option maxRecDepth 100000 in
def p34x_154 : ck_Sum := ((0, 0, 0), 245, [.inr (.inr (.inl 222)), .inl (ck_one 0), .inl (0, 2, none)], ([], [], [(222, 3, 3, ck_one 1), (223, 0, 179, ck_one 0), (222, 1, 1, ck_one 6)]), ([], []), [(.inr (some (.inl (ck_one 0))), 245, ([], [], []))])
set_option maxRecDepth 100000 in
theorem p34x_154_e : ck_ok p1_O none [] [] 10 [] 114 p34x_154 = true := by decide +kernel
theorem p34x_154_s {X : Int → Int} {LX : Nat} : ck_Ok p1_O X LX 10 p34x_154 := ck_ok_s (ck_E0) ck_X0 ck_l0 p34x_154_e
set_option maxRecDepth 100000 in
def p34x_156 : ck_Sum := ((1, 0, 0), 245, [.inr (.inr (.inl 1)), .inl (ck_one 0), .inl (ck_one 1)], ([], [], [(222, 3, 3, ck_one 1), (223, 0, 179, ck_one 0), (222, 1, 1, ck_one 6), (3, 0, 0, ck_one 3)]), ([], []), [(.inr (some (.inl (ck_one 0))), 245, ([], [], []))])
set_option maxRecDepth 100000 in
theorem p34x_156_e : ck_ok p1_O none [] [(10, [p34x_154])] 219 [(5, [some (.inr (.inr (.inl 1))), some (.inl (ck_one 0)), some (.inl (ck_one 1)), some (.inl (ck_one 0)), some (.inl (0, 3, none)), none, none], ([], [], [(222, 3, 3, ck_one 1), (223, 0, 179, ck_one 0), (222, 1, 1, ck_one 6), (3, 0, 0, ck_one 3)]), 100, .inl 4, true), (23, [some (.inr (.inr (.inl 1))), some (.inl (ck_one 0)), some (.inl (ck_one 1)), some (.inl (ck_one 0)), some (.inl (0, 2, some (100, 0))), some (.inl (ck_one 0)), some (.inl (0, 1, none))], ([], [], [(222, 3, 3, ck_one 1), (223, 0, 179, ck_one 0), (222, 1, 1, ck_one 6), (3, 0, 0, ck_one 3)]), 300, .inl 6, true)] 194 p34x_156 = true := by decide +kernel
theorem p34x_156_s {X : Int → Int} {LX : Nat} : ck_Ok p1_O X LX 219 p34x_156 := ck_ok_s (ck_E1 (ck_S1 p34x_154_s ck_S0) ck_E0) ck_X0 ck_l0 p34x_156_e
set_option maxRecDepth 100000 in
def p34x_157 : ck_Sum := ((1, 0, 0), 245, [.inr (.inr (.inl 1)), .inl (1, 2, none), .inl (ck_one 1)], ([], [], [(222, 3, 3, ck_one 1), (223, 0, 179, ck_one 0), (222, 1, 1, ck_one 6), (3, 0, 0, ck_one 3)]), ([], []), [(.inr (some (.inl (ck_one 0))), 245, ([], [], []))])
set_option maxRecDepth 100000 in
theorem p34x_157_e : ck_ok p1_O none [] [(10, [p34x_154])] 219 [(5, [some (.inr (.inr (.inl 1))), some (.inl (1, 2, none)), some (.inl (ck_one 1)), some (.inl (ck_one 0)), some (.inl (0, 3, none)), none, none], ([], [], [(222, 3, 3, ck_one 1), (223, 0, 179, ck_one 0), (222, 1, 1, ck_one 6), (3, 0, 0, ck_one 3)]), 100, .inl 4, true), (23, [some (.inr (.inr (.inl 1))), some (.inl (1, 2, none)), some (.inl (ck_one 1)), some (.inl (ck_one 0)), some (.inl (0, 2, some (100, 0))), some (.inl (ck_one 0)), some (.inl (0, 1, none))], ([], [], [(222, 3, 3, ck_one 1), (223, 0, 179, ck_one 0), (222, 1, 1, ck_one 6), (3, 0, 0, ck_one 3)]), 300, .inl 6, true)] 194 p34x_157 = true := by decide +kernel
theorem p34x_157_s {X : Int → Int} {LX : Nat} : ck_Ok p1_O X LX 219 p34x_157 := ck_ok_s (ck_E1 (ck_S1 p34x_154_s ck_S0) ck_E0) ck_X0 ck_l0 p34x_157_e
set_option maxRecDepth 100000 in
def p34x_158 : ck_Sum := ((3, 0, 0), 245, [.inr (.inr (.inl 1)), .inl (ck_one 1), .inl (ck_one 1)], ([], [], [(222, 1, 1, ck_one 6), (222, 0, 0, ck_one 30), (222, 3, 3, ck_one 0), (1, 15, 15, ck_one 0), (220, 0, 0, ck_one 24), (220, 3, 3, ck_one 0), (10, 3, 3, ck_one 0), (3, 0, 0, ck_one 3), (223, 0, 179, ck_one 0)]), ([(1, 15, 15), (220, 3, 3), (221, 0, 47), (222, 3, 3), (223, 0, 179)], []), [(.inr (some (.inl (ck_one 0))), 245, ([], [], [(222, 3, 3, ck_one 1), (1, 15, 15, ck_one 1), (220, 3, 3, ck_one 0), (223, 0, 179, ck_one 0)]))])
set_option maxRecDepth 100000 in
theorem p34x_158_e : ck_ok p1_O none [] [(214, [p34x_143]), (24, [p34x_148]), (215, [p34x_151]), (219, [p34x_156, p34x_157])] 218 [(19, [some (.inr (.inr (.inl 1))), some (.inl (ck_one 1)), some (.inl (ck_one 1)), some (.inl (ck_one 0)), some (.inl (1, 3, none))], ([], [], [(222, 3, 3, ck_one 1), (223, 0, 179, ck_one 0), (1, 15, 15, ck_one 1), (220, 3, 3, ck_one 0), (222, 1, 1, ck_one 6), (222, 0, 0, ck_one 30), (220, 0, 0, ck_one 24), (10, 3, 3, ck_one 0), (3, 0, 0, ck_one 3)]), 100, .inl 4, true)] 158 p34x_158 = true := by decide +kernel
theorem p34x_158_s {X : Int → Int} {LX : Nat} : ck_Ok p1_O X LX 218 p34x_158 := ck_ok_s (ck_E1 (ck_S1 p34x_143_s ck_S0) (ck_E1 (ck_S1 p34x_148_s ck_S0) (ck_E1 (ck_S1 p34x_151_s ck_S0) (ck_E1 (ck_S1 p34x_156_s (ck_S1 p34x_157_s ck_S0)) ck_E0)))) ck_X0 ck_l0 p34x_158_e
set_option maxRecDepth 100000 in
def p34x_159 : ck_Sum := ((4, 0, 0), 245, [.inr (.inr (.inl 1)), .inl (ck_one 1), .inl (ck_one 1), .inr (.inr (.inl 245))], ([], [], [(222, 1, 1, ck_one 6), (222, 0, 0, ck_one 30), (222, 3, 3, ck_one 0), (1, 15, 15, ck_one 0), (220, 0, 0, ck_one 24), (220, 3, 3, ck_one 0), (10, 3, 3, ck_one 0), (3, 0, 0, ck_one 3), (223, 0, 179, ck_one 0)]), ([(1, 15, 15), (220, 3, 3), (221, 0, 47), (222, 3, 3), (223, 0, 179), (245, 0, 0)], []), [(.inr (some (.inl (ck_one 0))), 245, ([], [], [(245, 0, 0, ck_one 0), (222, 3, 3, ck_one 1), (1, 15, 15, ck_one 1), (220, 3, 3, ck_one 0), (223, 0, 179, ck_one 0)]))])
set_option maxRecDepth 100000 in
theorem p34x_159_e : ck_ok p1_O none [] [(218, [p34x_158])] 217 [] 92 p34x_159 = true := by decide +kernel
theorem p34x_159_s {X : Int → Int} {LX : Nat} : ck_Ok p1_O X LX 217 p34x_159 := ck_ok_s (ck_E1 (ck_S1 p34x_158_s ck_S0) ck_E0) ck_X0 ck_l0 p34x_159_e
set_option maxRecDepth 100000 in
def p34x_171 : ck_Sum := ((3, 0, 0), 245, [.inr (.inr (.inl 1)), .inl (ck_one 1), .inl (ck_one 0)], ([], [], [(222, 1, 1, ck_one 6), (222, 0, 0, ck_one 30), (222, 3, 3, ck_one 0), (1, 15, 15, ck_one 0), (220, 0, 0, ck_one 24), (220, 3, 3, ck_one 0), (10, 3, 3, ck_one 0), (3, 0, 0, ck_one 3), (223, 0, 179, ck_one 0)]), ([(1, 15, 15), (220, 3, 3), (221, 0, 47), (222, 3, 3), (223, 0, 179)], []), [(.inr (some (.inl (ck_one 0))), 245, ([], [], [(222, 3, 3, ck_one 1), (1, 15, 15, ck_one 1), (220, 3, 3, ck_one 0), (223, 0, 179, ck_one 0)]))])
set_option maxRecDepth 100000 in
theorem p34x_171_e : ck_ok p1_O none [] [(214, [p34x_143]), (24, [p34x_148]), (215, [p34x_151]), (219, [p34x_157, p34x_156])] 218 [(19, [some (.inr (.inr (.inl 1))), some (.inl (ck_one 1)), some (.inl (ck_one 0)), some (.inl (ck_one 0)), some (.inl (1, 3, none))], ([], [], [(222, 3, 3, ck_one 1), (223, 0, 179, ck_one 0), (1, 15, 15, ck_one 1), (220, 3, 3, ck_one 0), (222, 1, 1, ck_one 6), (222, 0, 0, ck_one 30), (220, 0, 0, ck_one 24), (10, 3, 3, ck_one 0), (3, 0, 0, ck_one 3)]), 100, .inl 4, true)] 158 p34x_171 = true := by decide +kernel
theorem p34x_171_s {X : Int → Int} {LX : Nat} : ck_Ok p1_O X LX 218 p34x_171 := ck_ok_s (ck_E1 (ck_S1 p34x_143_s ck_S0) (ck_E1 (ck_S1 p34x_148_s ck_S0) (ck_E1 (ck_S1 p34x_151_s ck_S0) (ck_E1 (ck_S1 p34x_157_s (ck_S1 p34x_156_s ck_S0)) ck_E0)))) ck_X0 ck_l0 p34x_171_e
set_option maxRecDepth 100000 in
def p34x_172 : ck_Sum := ((4, 0, 0), 245, [.inr (.inr (.inl 1)), .inl (ck_one 1), .inl (ck_one 0), .inr (.inr (.inl 245))], ([], [], [(222, 1, 1, ck_one 6), (222, 0, 0, ck_one 30), (222, 3, 3, ck_one 0), (1, 15, 15, ck_one 0), (220, 0, 0, ck_one 24), (220, 3, 3, ck_one 0), (10, 3, 3, ck_one 0), (3, 0, 0, ck_one 3), (223, 0, 179, ck_one 0)]), ([(1, 15, 15), (220, 3, 3), (221, 0, 47), (222, 3, 3), (223, 0, 179), (245, 0, 0)], []), [(.inr (some (.inl (ck_one 0))), 245, ([], [], [(245, 0, 0, ck_one 0), (222, 3, 3, ck_one 1), (1, 15, 15, ck_one 1), (220, 3, 3, ck_one 0), (223, 0, 179, ck_one 0)]))])
set_option maxRecDepth 100000 in
theorem p34x_172_e : ck_ok p1_O none [] [(218, [p34x_171])] 217 [] 92 p34x_172 = true := by decide +kernel
theorem p34x_172_s {X : Int → Int} {LX : Nat} : ck_Ok p1_O X LX 217 p34x_172 := ck_ok_s (ck_E1 (ck_S1 p34x_171_s ck_S0) ck_E0) ck_X0 ck_l0 p34x_172_e
set_option maxRecDepth 100000 in
def p34x_174 : ck_Sum := ((0, 0, 0), 245, [.inr (.inr (.inl 1)), .inl (ck_one 2)], ([], [], []), ([], []), [(.inr none, 245, ([], [], []))])
set_option maxRecDepth 100000 in
theorem p34x_174_e : ck_ok p1_O none [] [] 214 [] 84 p34x_174 = true := by decide +kernel
theorem p34x_174_s {X : Int → Int} {LX : Nat} : ck_Ok p1_O X LX 214 p34x_174 := ck_ok_s (ck_E0) ck_X0 ck_l0 p34x_174_e
set_option maxRecDepth 100000 in
def p34x_175 : ck_Sum := ((1, 0, 0), 245, [.inr (.inr (.inl 222)), .inl (ck_one 2)], ([], [], [(222, 0, 0, ck_one 30), (223, 0, 179, ck_one 0)]), ([(222, 3, 3), (223, 0, 179)], []), [(.inr none, 245, ([], [], [(222, 3, 3, ck_one 2), (223, 0, 179, ck_one 0)]))])
set_option maxRecDepth 100000 in
theorem p34x_175_e : ck_ok p1_O none [] [(8, [p34x_149])] 25 [] 96 p34x_175 = true := by decide +kernel
theorem p34x_175_s {X : Int → Int} {LX : Nat} : ck_Ok p1_O X LX 25 p34x_175 := ck_ok_s (ck_E1 (ck_S1 p34x_149_s ck_S0) ck_E0) ck_X0 ck_l0 p34x_175_e
set_option maxRecDepth 100000 in
def p34x_176 : ck_Sum := ((2, 0, 0), 245, [.inr (.inr (.inl 1)), .inl (ck_one 2)], ([], [], [(220, 3, 3, ck_one 0), (222, 0, 0, ck_one 30), (222, 3, 3, ck_one 0), (223, 0, 179, ck_one 0)]), ([(222, 3, 3), (223, 0, 179)], []), [(.inr none, 245, ([], [], [(222, 3, 3, ck_one 2), (223, 0, 179, ck_one 0)]))])
set_option maxRecDepth 100000 in
theorem p34x_176_e : ck_ok p1_O none [] [(25, [p34x_175]), (9, [p34x_147])] 215 [(10, [some (.inr (.inr (.inl 1))), some (.inl (ck_one 2)), some (.inl (ck_one 0)), none, none], ([], [], [(222, 3, 3, ck_one 2), (223, 0, 179, ck_one 0), (220, 3, 3, ck_one 0), (222, 0, 0, ck_one 30)]), 100, .inl 2, true)] 118 p34x_176 = true := by decide +kernel
theorem p34x_176_s {X : Int → Int} {LX : Nat} : ck_Ok p1_O X LX 215 p34x_176 := ck_ok_s (ck_E1 (ck_S1 p34x_175_s ck_S0) (ck_E1 (ck_S1 p34x_147_s ck_S0) ck_E0)) ck_X0 ck_l0 p34x_176_e
set_option maxRecDepth 100000 in
def p34x_180 : ck_Sum := ((0, 0, 0), 245, [.inr (.inr (.inl 222)), .inl (0, 1, none), .inl (0, 2, none)], ([], [], [(222, 3, 3, ck_one 2), (223, 0, 179, ck_one 0), (222, 1, 1, ck_one 6)]), ([], []), [(.inr (some (.inl (ck_one 0))), 245, ([], [], []))])
set_option maxRecDepth 100000 in
theorem p34x_180_e : ck_ok p1_O none [] [] 10 [] 114 p34x_180 = true := by decide +kernel
theorem p34x_180_s {X : Int → Int} {LX : Nat} : ck_Ok p1_O X LX 10 p34x_180 := ck_ok_s (ck_E0) ck_X0 ck_l0 p34x_180_e
set_option maxRecDepth 100000 in
def p34x_182 : ck_Sum := ((1, 0, 0), 245, [.inr (.inr (.inl 1)), .inl (ck_one 0), .inl (ck_one 2)], ([], [], [(222, 3, 3, ck_one 2), (223, 0, 179, ck_one 0), (222, 1, 1, ck_one 6), (3, 0, 0, ck_one 3)]), ([], []), [(.inr (some (.inl (ck_one 0))), 245, ([], [], []))])
set_option maxRecDepth 100000 in
theorem p34x_182_e : ck_ok p1_O none [] [(10, [p34x_180])] 219 [(5, [some (.inr (.inr (.inl 1))), some (.inl (ck_one 0)), some (.inl (ck_one 2)), some (.inl (ck_one 0)), some (.inl (0, 3, none)), none, none], ([], [], [(222, 3, 3, ck_one 2), (223, 0, 179, ck_one 0), (222, 1, 1, ck_one 6), (3, 0, 0, ck_one 3)]), 100, .inl 4, true), (23, [some (.inr (.inr (.inl 1))), some (.inl (ck_one 0)), some (.inl (ck_one 2)), some (.inl (ck_one 0)), some (.inl (0, 2, some (100, 0))), some (.inl (ck_one 0)), some (.inl (0, 2, none))], ([], [], [(222, 3, 3, ck_one 2), (223, 0, 179, ck_one 0), (222, 1, 1, ck_one 6), (3, 0, 0, ck_one 3)]), 300, .inl 6, true)] 194 p34x_182 = true := by decide +kernel
theorem p34x_182_s {X : Int → Int} {LX : Nat} : ck_Ok p1_O X LX 219 p34x_182 := ck_ok_s (ck_E1 (ck_S1 p34x_180_s ck_S0) ck_E0) ck_X0 ck_l0 p34x_182_e
set_option maxRecDepth 100000 in
def p34x_183 : ck_Sum := ((1, 0, 0), 245, [.inr (.inr (.inl 1)), .inl (1, 2, none), .inl (ck_one 2)], ([], [], [(222, 3, 3, ck_one 2), (223, 0, 179, ck_one 0), (222, 1, 1, ck_one 6), (3, 0, 0, ck_one 3)]), ([], []), [(.inr (some (.inl (ck_one 0))), 245, ([], [], []))])
set_option maxRecDepth 100000 in
theorem p34x_183_e : ck_ok p1_O none [] [(10, [p34x_180])] 219 [(5, [some (.inr (.inr (.inl 1))), some (.inl (1, 2, none)), some (.inl (ck_one 2)), some (.inl (ck_one 0)), some (.inl (0, 3, none)), none, none], ([], [], [(222, 3, 3, ck_one 2), (223, 0, 179, ck_one 0), (222, 1, 1, ck_one 6), (3, 0, 0, ck_one 3)]), 100, .inl 4, true), (23, [some (.inr (.inr (.inl 1))), some (.inl (1, 2, none)), some (.inl (ck_one 2)), some (.inl (ck_one 0)), some (.inl (0, 2, some (100, 0))), some (.inl (ck_one 0)), some (.inl (0, 2, none))], ([], [], [(222, 3, 3, ck_one 2), (223, 0, 179, ck_one 0), (222, 1, 1, ck_one 6), (3, 0, 0, ck_one 3)]), 300, .inl 6, true)] 194 p34x_183 = true := by decide +kernel
theorem p34x_183_s {X : Int → Int} {LX : Nat} : ck_Ok p1_O X LX 219 p34x_183 := ck_ok_s (ck_E1 (ck_S1 p34x_180_s ck_S0) ck_E0) ck_X0 ck_l0 p34x_183_e
set_option maxRecDepth 100000 in
def p34x_184 : ck_Sum := ((3, 0, 0), 245, [.inr (.inr (.inl 1)), .inl (ck_one 2), .inl (ck_one 1)], ([], [], [(222, 1, 1, ck_one 6), (222, 0, 0, ck_one 30), (222, 3, 3, ck_one 0), (1, 15, 15, ck_one 0), (220, 0, 0, ck_one 24), (220, 3, 3, ck_one 0), (10, 3, 3, ck_one 0), (3, 0, 0, ck_one 3), (223, 0, 179, ck_one 0)]), ([(1, 15, 15), (220, 3, 3), (221, 0, 47), (222, 3, 3), (223, 0, 179)], []), [(.inr (some (.inl (ck_one 0))), 245, ([], [], [(222, 3, 3, ck_one 2), (1, 15, 15, ck_one 1), (220, 3, 3, ck_one 0), (223, 0, 179, ck_one 0)]))])
set_option maxRecDepth 100000 in
theorem p34x_184_e : ck_ok p1_O none [] [(214, [p34x_174]), (24, [p34x_148]), (215, [p34x_176]), (219, [p34x_182, p34x_183])] 218 [(19, [some (.inr (.inr (.inl 1))), some (.inl (ck_one 2)), some (.inl (ck_one 1)), some (.inl (ck_one 0)), some (.inl (1, 3, none))], ([], [], [(222, 3, 3, ck_one 2), (223, 0, 179, ck_one 0), (1, 15, 15, ck_one 1), (220, 3, 3, ck_one 0), (222, 1, 1, ck_one 6), (222, 0, 0, ck_one 30), (220, 0, 0, ck_one 24), (10, 3, 3, ck_one 0), (3, 0, 0, ck_one 3)]), 100, .inl 4, true)] 158 p34x_184 = true := by decide +kernel
theorem p34x_184_s {X : Int → Int} {LX : Nat} : ck_Ok p1_O X LX 218 p34x_184 := ck_ok_s (ck_E1 (ck_S1 p34x_174_s ck_S0) (ck_E1 (ck_S1 p34x_148_s ck_S0) (ck_E1 (ck_S1 p34x_176_s ck_S0) (ck_E1 (ck_S1 p34x_182_s (ck_S1 p34x_183_s ck_S0)) ck_E0)))) ck_X0 ck_l0 p34x_184_e
set_option maxRecDepth 100000 in
def p34x_185 : ck_Sum := ((4, 0, 0), 245, [.inr (.inr (.inl 1)), .inl (ck_one 2), .inl (ck_one 1), .inr (.inr (.inl 245))], ([], [], [(222, 1, 1, ck_one 6), (222, 0, 0, ck_one 30), (222, 3, 3, ck_one 0), (1, 15, 15, ck_one 0), (220, 0, 0, ck_one 24), (220, 3, 3, ck_one 0), (10, 3, 3, ck_one 0), (3, 0, 0, ck_one 3), (223, 0, 179, ck_one 0)]), ([(1, 15, 15), (220, 3, 3), (221, 0, 47), (222, 3, 3), (223, 0, 179), (245, 0, 0)], []), [(.inr (some (.inl (ck_one 0))), 245, ([], [], [(245, 0, 0, ck_one 0), (222, 3, 3, ck_one 2), (1, 15, 15, ck_one 1), (220, 3, 3, ck_one 0), (223, 0, 179, ck_one 0)]))])
set_option maxRecDepth 100000 in
theorem p34x_185_e : ck_ok p1_O none [] [(218, [p34x_184])] 217 [] 92 p34x_185 = true := by decide +kernel
theorem p34x_185_s {X : Int → Int} {LX : Nat} : ck_Ok p1_O X LX 217 p34x_185 := ck_ok_s (ck_E1 (ck_S1 p34x_184_s ck_S0) ck_E0) ck_X0 ck_l0 p34x_185_e
set_option maxRecDepth 100000 in
def p34x_191 : ck_Sum := ((3, 0, 0), 245, [.inr (.inr (.inl 1)), .inl (ck_one 2), .inl (ck_one 0)], ([], [], [(222, 1, 1, ck_one 6), (222, 0, 0, ck_one 30), (222, 3, 3, ck_one 0), (1, 15, 15, ck_one 0), (220, 0, 0, ck_one 24), (220, 3, 3, ck_one 0), (10, 3, 3, ck_one 0), (3, 0, 0, ck_one 3), (223, 0, 179, ck_one 0)]), ([(1, 15, 15), (220, 3, 3), (221, 0, 47), (222, 3, 3), (223, 0, 179)], []), [(.inr (some (.inl (ck_one 0))), 245, ([], [], [(222, 3, 3, ck_one 2), (1, 15, 15, ck_one 1), (220, 3, 3, ck_one 0), (223, 0, 179, ck_one 0)]))])
set_option maxRecDepth 100000 in
theorem p34x_191_e : ck_ok p1_O none [] [(214, [p34x_174]), (24, [p34x_148]), (215, [p34x_176]), (219, [p34x_183, p34x_182])] 218 [(19, [some (.inr (.inr (.inl 1))), some (.inl (ck_one 2)), some (.inl (ck_one 0)), some (.inl (ck_one 0)), some (.inl (1, 3, none))], ([], [], [(222, 3, 3, ck_one 2), (223, 0, 179, ck_one 0), (1, 15, 15, ck_one 1), (220, 3, 3, ck_one 0), (222, 1, 1, ck_one 6), (222, 0, 0, ck_one 30), (220, 0, 0, ck_one 24), (10, 3, 3, ck_one 0), (3, 0, 0, ck_one 3)]), 100, .inl 4, true)] 158 p34x_191 = true := by decide +kernel
theorem p34x_191_s {X : Int → Int} {LX : Nat} : ck_Ok p1_O X LX 218 p34x_191 := ck_ok_s (ck_E1 (ck_S1 p34x_174_s ck_S0) (ck_E1 (ck_S1 p34x_148_s ck_S0) (ck_E1 (ck_S1 p34x_176_s ck_S0) (ck_E1 (ck_S1 p34x_183_s (ck_S1 p34x_182_s ck_S0)) ck_E0)))) ck_X0 ck_l0 p34x_191_e
set_option maxRecDepth 100000 in
def p34x_192 : ck_Sum := ((4, 0, 0), 245, [.inr (.inr (.inl 1)), .inl (ck_one 2), .inl (ck_one 0), .inr (.inr (.inl 245))], ([], [], [(222, 1, 1, ck_one 6), (222, 0, 0, ck_one 30), (222, 3, 3, ck_one 0), (1, 15, 15, ck_one 0), (220, 0, 0, ck_one 24), (220, 3, 3, ck_one 0), (10, 3, 3, ck_one 0), (3, 0, 0, ck_one 3), (223, 0, 179, ck_one 0)]), ([(1, 15, 15), (220, 3, 3), (221, 0, 47), (222, 3, 3), (223, 0, 179), (245, 0, 0)], []), [(.inr (some (.inl (ck_one 0))), 245, ([], [], [(245, 0, 0, ck_one 0), (222, 3, 3, ck_one 2), (1, 15, 15, ck_one 1), (220, 3, 3, ck_one 0), (223, 0, 179, ck_one 0)]))])
set_option maxRecDepth 100000 in
theorem p34x_192_e : ck_ok p1_O none [] [(218, [p34x_191])] 217 [] 92 p34x_192 = true := by decide +kernel
theorem p34x_192_s {X : Int → Int} {LX : Nat} : ck_Ok p1_O X LX 217 p34x_192 := ck_ok_s (ck_E1 (ck_S1 p34x_191_s ck_S0) ck_E0) ck_X0 ck_l0 p34x_192_e
set_option maxRecDepth 100000 in
def p34x_194 : ck_Sum := ((0, 0, 0), 245, [.inr (.inr (.inl 1)), .inl (ck_one 3)], ([], [], []), ([], []), [(.inr none, 245, ([], [], []))])
set_option maxRecDepth 100000 in
theorem p34x_194_e : ck_ok p1_O none [] [] 214 [] 84 p34x_194 = true := by decide +kernel
theorem p34x_194_s {X : Int → Int} {LX : Nat} : ck_Ok p1_O X LX 214 p34x_194 := ck_ok_s (ck_E0) ck_X0 ck_l0 p34x_194_e
set_option maxRecDepth 100000 in
def p34x_195 : ck_Sum := ((1, 0, 0), 245, [.inr (.inr (.inl 222)), .inl (ck_one 3)], ([], [], [(222, 0, 0, ck_one 30), (223, 0, 179, ck_one 0)]), ([(222, 3, 3), (223, 0, 179)], []), [(.inr none, 245, ([], [], [(222, 3, 3, ck_one 3), (223, 0, 179, ck_one 0)]))])
set_option maxRecDepth 100000 in
theorem p34x_195_e : ck_ok p1_O none [] [(8, [p34x_149])] 25 [] 96 p34x_195 = true := by decide +kernel
theorem p34x_195_s {X : Int → Int} {LX : Nat} : ck_Ok p1_O X LX 25 p34x_195 := ck_ok_s (ck_E1 (ck_S1 p34x_149_s ck_S0) ck_E0) ck_X0 ck_l0 p34x_195_e
set_option maxRecDepth 100000 in
def p34x_196 : ck_Sum := ((2, 0, 0), 245, [.inr (.inr (.inl 1)), .inl (ck_one 3)], ([], [], [(220, 3, 3, ck_one 0), (222, 0, 0, ck_one 30), (222, 3, 3, ck_one 0), (223, 0, 179, ck_one 0)]), ([(222, 3, 3), (223, 0, 179)], []), [(.inr none, 245, ([], [], [(222, 3, 3, ck_one 3), (223, 0, 179, ck_one 0)]))])
set_option maxRecDepth 100000 in
theorem p34x_196_e : ck_ok p1_O none [] [(25, [p34x_195]), (9, [p34x_147])] 215 [(10, [some (.inr (.inr (.inl 1))), some (.inl (ck_one 3)), some (.inl (ck_one 0)), none, none], ([], [], [(222, 3, 3, ck_one 3), (223, 0, 179, ck_one 0), (220, 3, 3, ck_one 0), (222, 0, 0, ck_one 30)]), 100, .inl 2, true)] 118 p34x_196 = true := by decide +kernel
theorem p34x_196_s {X : Int → Int} {LX : Nat} : ck_Ok p1_O X LX 215 p34x_196 := ck_ok_s (ck_E1 (ck_S1 p34x_195_s ck_S0) (ck_E1 (ck_S1 p34x_147_s ck_S0) ck_E0)) ck_X0 ck_l0 p34x_196_e
set_option maxRecDepth 100000 in
def p34x_201 : ck_Sum := ((0, 0, 0), 245, [.inr (.inr (.inl 222)), .inl (0, 2, none), .inl (0, 2, none)], ([], [], [(222, 3, 3, ck_one 3), (223, 0, 179, ck_one 0), (222, 1, 1, ck_one 6)]), ([], []), [(.inr (some (.inl (ck_one 0))), 245, ([], [], []))])
set_option maxRecDepth 100000 in
theorem p34x_201_e : ck_ok p1_O none [] [] 10 [] 114 p34x_201 = true := by decide +kernel
theorem p34x_201_s {X : Int → Int} {LX : Nat} : ck_Ok p1_O X LX 10 p34x_201 := ck_ok_s (ck_E0) ck_X0 ck_l0 p34x_201_e
set_option maxRecDepth 100000 in
def p34x_203 : ck_Sum := ((1, 0, 0), 245, [.inr (.inr (.inl 1)), .inl (ck_one 0), .inl (ck_one 3)], ([], [], [(222, 3, 3, ck_one 3), (223, 0, 179, ck_one 0), (222, 1, 1, ck_one 6), (3, 0, 0, ck_one 3)]), ([], []), [(.inr (some (.inl (ck_one 0))), 245, ([], [], []))])
set_option maxRecDepth 100000 in
theorem p34x_203_e : ck_ok p1_O none [] [(10, [p34x_201])] 219 [(5, [some (.inr (.inr (.inl 1))), some (.inl (ck_one 0)), some (.inl (ck_one 3)), some (.inl (ck_one 0)), some (.inl (0, 3, none)), none, none], ([], [], [(222, 3, 3, ck_one 3), (223, 0, 179, ck_one 0), (222, 1, 1, ck_one 6), (3, 0, 0, ck_one 3)]), 100, .inl 4, true), (23, [some (.inr (.inr (.inl 1))), some (.inl (ck_one 0)), some (.inl (ck_one 3)), some (.inl (ck_one 0)), some (.inl (0, 2, some (100, 0))), some (.inl (ck_one 0)), some (.inl (0, 3, none))], ([], [], [(222, 3, 3, ck_one 3), (223, 0, 179, ck_one 0), (222, 1, 1, ck_one 6), (3, 0, 0, ck_one 3)]), 300, .inl 6, true)] 194 p34x_203 = true := by decide +kernel
theorem p34x_203_s {X : Int → Int} {LX : Nat} : ck_Ok p1_O X LX 219 p34x_203 := ck_ok_s (ck_E1 (ck_S1 p34x_201_s ck_S0) ck_E0) ck_X0 ck_l0 p34x_203_e
set_option maxRecDepth 100000 in
def p34x_204 : ck_Sum := ((1, 0, 0), 245, [.inr (.inr (.inl 1)), .inl (1, 2, none), .inl (ck_one 3)], ([], [], [(222, 3, 3, ck_one 3), (223, 0, 179, ck_one 0), (222, 1, 1, ck_one 6), (3, 0, 0, ck_one 3)]), ([], []), [(.inr (some (.inl (ck_one 0))), 245, ([], [], []))])
set_option maxRecDepth 100000 in
theorem p34x_204_e : ck_ok p1_O none [] [(10, [p34x_201])] 219 [(5, [some (.inr (.inr (.inl 1))), some (.inl (1, 2, none)), some (.inl (ck_one 3)), some (.inl (ck_one 0)), some (.inl (0, 3, none)), none, none], ([], [], [(222, 3, 3, ck_one 3), (223, 0, 179, ck_one 0), (222, 1, 1, ck_one 6), (3, 0, 0, ck_one 3)]), 100, .inl 4, true), (23, [some (.inr (.inr (.inl 1))), some (.inl (1, 2, none)), some (.inl (ck_one 3)), some (.inl (ck_one 0)), some (.inl (0, 2, some (100, 0))), some (.inl (ck_one 0)), some (.inl (0, 3, none))], ([], [], [(222, 3, 3, ck_one 3), (223, 0, 179, ck_one 0), (222, 1, 1, ck_one 6), (3, 0, 0, ck_one 3)]), 300, .inl 6, true)] 194 p34x_204 = true := by decide +kernel
theorem p34x_204_s {X : Int → Int} {LX : Nat} : ck_Ok p1_O X LX 219 p34x_204 := ck_ok_s (ck_E1 (ck_S1 p34x_201_s ck_S0) ck_E0) ck_X0 ck_l0 p34x_204_e
set_option maxRecDepth 100000 in
def p34x_205 : ck_Sum := ((3, 0, 0), 245, [.inr (.inr (.inl 1)), .inl (ck_one 3), .inl (ck_one 1)], ([], [], [(222, 1, 1, ck_one 6), (222, 0, 0, ck_one 30), (222, 3, 3, ck_one 0), (1, 15, 15, ck_one 0), (220, 0, 0, ck_one 24), (220, 3, 3, ck_one 0), (10, 3, 3, ck_one 0), (3, 0, 0, ck_one 3), (223, 0, 179, ck_one 0)]), ([(1, 15, 15), (220, 3, 3), (221, 0, 47), (222, 3, 3), (223, 0, 179)], []), [(.inr (some (.inl (ck_one 0))), 245, ([], [], [(222, 3, 3, ck_one 3), (1, 15, 15, ck_one 1), (220, 3, 3, ck_one 0), (223, 0, 179, ck_one 0)]))])
set_option maxRecDepth 100000 in
theorem p34x_205_e : ck_ok p1_O none [] [(214, [p34x_194]), (24, [p34x_148]), (215, [p34x_196]), (219, [p34x_203, p34x_204])] 218 [(19, [some (.inr (.inr (.inl 1))), some (.inl (ck_one 3)), some (.inl (ck_one 1)), some (.inl (ck_one 0)), some (.inl (1, 3, none))], ([], [], [(222, 3, 3, ck_one 3), (223, 0, 179, ck_one 0), (1, 15, 15, ck_one 1), (220, 3, 3, ck_one 0), (222, 1, 1, ck_one 6), (222, 0, 0, ck_one 30), (220, 0, 0, ck_one 24), (10, 3, 3, ck_one 0), (3, 0, 0, ck_one 3)]), 100, .inl 4, true)] 158 p34x_205 = true := by decide +kernel
theorem p34x_205_s {X : Int → Int} {LX : Nat} : ck_Ok p1_O X LX 218 p34x_205 := ck_ok_s (ck_E1 (ck_S1 p34x_194_s ck_S0) (ck_E1 (ck_S1 p34x_148_s ck_S0) (ck_E1 (ck_S1 p34x_196_s ck_S0) (ck_E1 (ck_S1 p34x_203_s (ck_S1 p34x_204_s ck_S0)) ck_E0)))) ck_X0 ck_l0 p34x_205_e
set_option maxRecDepth 100000 in
def p34x_206 : ck_Sum := ((4, 0, 0), 245, [.inr (.inr (.inl 1)), .inl (ck_one 3), .inl (ck_one 1), .inr (.inr (.inl 245))], ([], [], [(222, 1, 1, ck_one 6), (222, 0, 0, ck_one 30), (222, 3, 3, ck_one 0), (1, 15, 15, ck_one 0), (220, 0, 0, ck_one 24), (220, 3, 3, ck_one 0), (10, 3, 3, ck_one 0), (3, 0, 0, ck_one 3), (223, 0, 179, ck_one 0)]), ([(1, 15, 15), (220, 3, 3), (221, 0, 47), (222, 3, 3), (223, 0, 179), (245, 0, 0)], []), [(.inr (some (.inl (ck_one 0))), 245, ([], [], [(245, 0, 0, ck_one 0), (222, 3, 3, ck_one 3), (1, 15, 15, ck_one 1), (220, 3, 3, ck_one 0), (223, 0, 179, ck_one 0)]))])
set_option maxRecDepth 100000 in
theorem p34x_206_e : ck_ok p1_O none [] [(218, [p34x_205])] 217 [] 92 p34x_206 = true := by decide +kernel
theorem p34x_206_s {X : Int → Int} {LX : Nat} : ck_Ok p1_O X LX 217 p34x_206 := ck_ok_s (ck_E1 (ck_S1 p34x_205_s ck_S0) ck_E0) ck_X0 ck_l0 p34x_206_e
set_option maxRecDepth 100000 in
def p34x_212 : ck_Sum := ((3, 0, 0), 245, [.inr (.inr (.inl 1)), .inl (ck_one 3), .inl (ck_one 0)], ([], [], [(222, 1, 1, ck_one 6), (222, 0, 0, ck_one 30), (222, 3, 3, ck_one 0), (1, 15, 15, ck_one 0), (220, 0, 0, ck_one 24), (220, 3, 3, ck_one 0), (10, 3, 3, ck_one 0), (3, 0, 0, ck_one 3), (223, 0, 179, ck_one 0)]), ([(1, 15, 15), (220, 3, 3), (221, 0, 47), (222, 3, 3), (223, 0, 179)], []), [(.inr (some (.inl (ck_one 0))), 245, ([], [], [(222, 3, 3, ck_one 3), (1, 15, 15, ck_one 1), (220, 3, 3, ck_one 0), (223, 0, 179, ck_one 0)]))])
set_option maxRecDepth 100000 in
theorem p34x_212_e : ck_ok p1_O none [] [(214, [p34x_194]), (24, [p34x_148]), (215, [p34x_196]), (219, [p34x_204, p34x_203])] 218 [(19, [some (.inr (.inr (.inl 1))), some (.inl (ck_one 3)), some (.inl (ck_one 0)), some (.inl (ck_one 0)), some (.inl (1, 3, none))], ([], [], [(222, 3, 3, ck_one 3), (223, 0, 179, ck_one 0), (1, 15, 15, ck_one 1), (220, 3, 3, ck_one 0), (222, 1, 1, ck_one 6), (222, 0, 0, ck_one 30), (220, 0, 0, ck_one 24), (10, 3, 3, ck_one 0), (3, 0, 0, ck_one 3)]), 100, .inl 4, true)] 158 p34x_212 = true := by decide +kernel
theorem p34x_212_s {X : Int → Int} {LX : Nat} : ck_Ok p1_O X LX 218 p34x_212 := ck_ok_s (ck_E1 (ck_S1 p34x_194_s ck_S0) (ck_E1 (ck_S1 p34x_148_s ck_S0) (ck_E1 (ck_S1 p34x_196_s ck_S0) (ck_E1 (ck_S1 p34x_204_s (ck_S1 p34x_203_s ck_S0)) ck_E0)))) ck_X0 ck_l0 p34x_212_e
set_option maxRecDepth 100000 in
def p34x_213 : ck_Sum := ((4, 0, 0), 245, [.inr (.inr (.inl 1)), .inl (ck_one 3), .inl (ck_one 0), .inr (.inr (.inl 245))], ([], [], [(222, 1, 1, ck_one 6), (222, 0, 0, ck_one 30), (222, 3, 3, ck_one 0), (1, 15, 15, ck_one 0), (220, 0, 0, ck_one 24), (220, 3, 3, ck_one 0), (10, 3, 3, ck_one 0), (3, 0, 0, ck_one 3), (223, 0, 179, ck_one 0)]), ([(1, 15, 15), (220, 3, 3), (221, 0, 47), (222, 3, 3), (223, 0, 179), (245, 0, 0)], []), [(.inr (some (.inl (ck_one 0))), 245, ([], [], [(245, 0, 0, ck_one 0), (222, 3, 3, ck_one 3), (1, 15, 15, ck_one 1), (220, 3, 3, ck_one 0), (223, 0, 179, ck_one 0)]))])
set_option maxRecDepth 100000 in
theorem p34x_213_e : ck_ok p1_O none [] [(218, [p34x_212])] 217 [] 92 p34x_213 = true := by decide +kernel
theorem p34x_213_s {X : Int → Int} {LX : Nat} : ck_Ok p1_O X LX 217 p34x_213 := ck_ok_s (ck_E1 (ck_S1 p34x_212_s ck_S0) ck_E0) ck_X0 ck_l0 p34x_213_e
set_option maxRecDepth 100000 in
def p34x_215 : ck_Sum := ((0, 0, 0), 245, [.inr (.inr (.inl 1)), .inl (ck_one 4)], ([], [], []), ([], []), [(.inr none, 245, ([], [], []))])
set_option maxRecDepth 100000 in
theorem p34x_215_e : ck_ok p1_O none [] [] 214 [] 84 p34x_215 = true := by decide +kernel
theorem p34x_215_s {X : Int → Int} {LX : Nat} : ck_Ok p1_O X LX 214 p34x_215 := ck_ok_s (ck_E0) ck_X0 ck_l0 p34x_215_e
set_option maxRecDepth 100000 in
def p34x_216 : ck_Sum := ((1, 0, 0), 245, [.inr (.inr (.inl 222)), .inl (ck_one 4)], ([], [], [(222, 0, 0, ck_one 30), (223, 0, 179, ck_one 0)]), ([(222, 3, 3), (223, 0, 179)], []), [(.inr none, 245, ([], [], [(222, 3, 3, ck_one 4), (223, 0, 179, ck_one 0)]))])
set_option maxRecDepth 100000 in
theorem p34x_216_e : ck_ok p1_O none [] [(8, [p34x_149])] 25 [] 96 p34x_216 = true := by decide +kernel
theorem p34x_216_s {X : Int → Int} {LX : Nat} : ck_Ok p1_O X LX 25 p34x_216 := ck_ok_s (ck_E1 (ck_S1 p34x_149_s ck_S0) ck_E0) ck_X0 ck_l0 p34x_216_e
set_option maxRecDepth 100000 in
def p34x_217 : ck_Sum := ((2, 0, 0), 245, [.inr (.inr (.inl 1)), .inl (ck_one 4)], ([], [], [(220, 3, 3, ck_one 0), (222, 0, 0, ck_one 30), (222, 3, 3, ck_one 0), (223, 0, 179, ck_one 0)]), ([(222, 3, 3), (223, 0, 179)], []), [(.inr none, 245, ([], [], [(222, 3, 3, ck_one 4), (223, 0, 179, ck_one 0)]))])
set_option maxRecDepth 100000 in
theorem p34x_217_e : ck_ok p1_O none [] [(25, [p34x_216]), (9, [p34x_147])] 215 [(10, [some (.inr (.inr (.inl 1))), some (.inl (ck_one 4)), some (.inl (ck_one 0)), none, none], ([], [], [(222, 3, 3, ck_one 4), (223, 0, 179, ck_one 0), (220, 3, 3, ck_one 0), (222, 0, 0, ck_one 30)]), 100, .inl 2, true)] 118 p34x_217 = true := by decide +kernel
theorem p34x_217_s {X : Int → Int} {LX : Nat} : ck_Ok p1_O X LX 215 p34x_217 := ck_ok_s (ck_E1 (ck_S1 p34x_216_s ck_S0) (ck_E1 (ck_S1 p34x_147_s ck_S0) ck_E0)) ck_X0 ck_l0 p34x_217_e
set_option maxRecDepth 100000 in
def p34x_223 : ck_Sum := ((0, 0, 0), 245, [.inr (.inr (.inl 222)), .inl (0, 3, none), .inl (0, 2, none)], ([], [], [(222, 3, 3, ck_one 4), (223, 0, 179, ck_one 0), (222, 1, 1, ck_one 6)]), ([], []), [(.inr (some (.inl (ck_one 0))), 245, ([], [], []))])
set_option maxRecDepth 100000 in
theorem p34x_223_e : ck_ok p1_O none [] [] 10 [] 114 p34x_223 = true := by decide +kernel
theorem p34x_223_s {X : Int → Int} {LX : Nat} : ck_Ok p1_O X LX 10 p34x_223 := ck_ok_s (ck_E0) ck_X0 ck_l0 p34x_223_e
set_option maxRecDepth 100000 in
def p34x_225 : ck_Sum := ((1, 0, 0), 245, [.inr (.inr (.inl 1)), .inl (ck_one 0), .inl (ck_one 4)], ([], [], [(222, 3, 3, ck_one 4), (223, 0, 179, ck_one 0), (222, 1, 1, ck_one 6), (3, 0, 0, ck_one 3)]), ([], []), [(.inr (some (.inl (ck_one 0))), 245, ([], [], []))])
set_option maxRecDepth 100000 in
theorem p34x_225_e : ck_ok p1_O none [] [(10, [p34x_223])] 219 [(5, [some (.inr (.inr (.inl 1))), some (.inl (ck_one 0)), some (.inl (ck_one 4)), some (.inl (ck_one 0)), some (.inl (0, 3, none)), none, none], ([], [], [(222, 3, 3, ck_one 4), (223, 0, 179, ck_one 0), (222, 1, 1, ck_one 6), (3, 0, 0, ck_one 3)]), 100, .inl 4, true), (23, [some (.inr (.inr (.inl 1))), some (.inl (ck_one 0)), some (.inl (ck_one 4)), some (.inl (ck_one 0)), some (.inl (0, 2, some (100, 0))), some (.inl (ck_one 0)), some (.inl (0, 4, none))], ([], [], [(222, 3, 3, ck_one 4), (223, 0, 179, ck_one 0), (222, 1, 1, ck_one 6), (3, 0, 0, ck_one 3)]), 300, .inl 6, true)] 194 p34x_225 = true := by decide +kernel
theorem p34x_225_s {X : Int → Int} {LX : Nat} : ck_Ok p1_O X LX 219 p34x_225 := ck_ok_s (ck_E1 (ck_S1 p34x_223_s ck_S0) ck_E0) ck_X0 ck_l0 p34x_225_e
set_option maxRecDepth 100000 in
def p34x_226 : ck_Sum := ((1, 0, 0), 245, [.inr (.inr (.inl 1)), .inl (1, 2, none), .inl (ck_one 4)], ([], [], [(222, 3, 3, ck_one 4), (223, 0, 179, ck_one 0), (222, 1, 1, ck_one 6), (3, 0, 0, ck_one 3)]), ([], []), [(.inr (some (.inl (ck_one 0))), 245, ([], [], []))])
set_option maxRecDepth 100000 in
theorem p34x_226_e : ck_ok p1_O none [] [(10, [p34x_223])] 219 [(5, [some (.inr (.inr (.inl 1))), some (.inl (1, 2, none)), some (.inl (ck_one 4)), some (.inl (ck_one 0)), some (.inl (0, 3, none)), none, none], ([], [], [(222, 3, 3, ck_one 4), (223, 0, 179, ck_one 0), (222, 1, 1, ck_one 6), (3, 0, 0, ck_one 3)]), 100, .inl 4, true), (23, [some (.inr (.inr (.inl 1))), some (.inl (1, 2, none)), some (.inl (ck_one 4)), some (.inl (ck_one 0)), some (.inl (0, 2, some (100, 0))), some (.inl (ck_one 0)), some (.inl (0, 4, none))], ([], [], [(222, 3, 3, ck_one 4), (223, 0, 179, ck_one 0), (222, 1, 1, ck_one 6), (3, 0, 0, ck_one 3)]), 300, .inl 6, true)] 194 p34x_226 = true := by decide +kernel
theorem p34x_226_s {X : Int → Int} {LX : Nat} : ck_Ok p1_O X LX 219 p34x_226 := ck_ok_s (ck_E1 (ck_S1 p34x_223_s ck_S0) ck_E0) ck_X0 ck_l0 p34x_226_e
set_option maxRecDepth 100000 in
def p34x_227 : ck_Sum := ((3, 0, 0), 245, [.inr (.inr (.inl 1)), .inl (ck_one 4), .inl (ck_one 1)], ([], [], [(222, 1, 1, ck_one 6), (222, 0, 0, ck_one 30), (222, 3, 3, ck_one 0), (1, 15, 15, ck_one 0), (220, 0, 0, ck_one 24), (220, 3, 3, ck_one 0), (10, 3, 3, ck_one 0), (3, 0, 0, ck_one 3), (223, 0, 179, ck_one 0)]), ([(1, 15, 15), (220, 3, 3), (221, 0, 47), (222, 3, 3), (223, 0, 179)], []), [(.inr (some (.inl (ck_one 0))), 245, ([], [], [(222, 3, 3, ck_one 4), (1, 15, 15, ck_one 1), (220, 3, 3, ck_one 0), (223, 0, 179, ck_one 0)]))])
set_option maxRecDepth 100000 in
theorem p34x_227_e : ck_ok p1_O none [] [(214, [p34x_215]), (24, [p34x_148]), (215, [p34x_217]), (219, [p34x_225, p34x_226])] 218 [(19, [some (.inr (.inr (.inl 1))), some (.inl (ck_one 4)), some (.inl (ck_one 1)), some (.inl (ck_one 0)), some (.inl (1, 3, none))], ([], [], [(222, 3, 3, ck_one 4), (223, 0, 179, ck_one 0), (1, 15, 15, ck_one 1), (220, 3, 3, ck_one 0), (222, 1, 1, ck_one 6), (222, 0, 0, ck_one 30), (220, 0, 0, ck_one 24), (10, 3, 3, ck_one 0), (3, 0, 0, ck_one 3)]), 100, .inl 4, true)] 158 p34x_227 = true := by decide +kernel
theorem p34x_227_s {X : Int → Int} {LX : Nat} : ck_Ok p1_O X LX 218 p34x_227 := ck_ok_s (ck_E1 (ck_S1 p34x_215_s ck_S0) (ck_E1 (ck_S1 p34x_148_s ck_S0) (ck_E1 (ck_S1 p34x_217_s ck_S0) (ck_E1 (ck_S1 p34x_225_s (ck_S1 p34x_226_s ck_S0)) ck_E0)))) ck_X0 ck_l0 p34x_227_e
set_option maxRecDepth 100000 in
def p34x_228 : ck_Sum := ((4, 0, 0), 245, [.inr (.inr (.inl 1)), .inl (ck_one 4), .inl (ck_one 1), .inr (.inr (.inl 245))], ([], [], [(222, 1, 1, ck_one 6), (222, 0, 0, ck_one 30), (222, 3, 3, ck_one 0), (1, 15, 15, ck_one 0), (220, 0, 0, ck_one 24), (220, 3, 3, ck_one 0), (10, 3, 3, ck_one 0), (3, 0, 0, ck_one 3), (223, 0, 179, ck_one 0)]), ([(1, 15, 15), (220, 3, 3), (221, 0, 47), (222, 3, 3), (223, 0, 179), (245, 0, 0)], []), [(.inr (some (.inl (ck_one 0))), 245, ([], [], [(245, 0, 0, ck_one 0), (222, 3, 3, ck_one 4), (1, 15, 15, ck_one 1), (220, 3, 3, ck_one 0), (223, 0, 179, ck_one 0)]))])
set_option maxRecDepth 100000 in
theorem p34x_228_e : ck_ok p1_O none [] [(218, [p34x_227])] 217 [] 92 p34x_228 = true := by decide +kernel
theorem p34x_228_s {X : Int → Int} {LX : Nat} : ck_Ok p1_O X LX 217 p34x_228 := ck_ok_s (ck_E1 (ck_S1 p34x_227_s ck_S0) ck_E0) ck_X0 ck_l0 p34x_228_e
set_option maxRecDepth 100000 in
def p34x_234 : ck_Sum := ((3, 0, 0), 245, [.inr (.inr (.inl 1)), .inl (ck_one 4), .inl (ck_one 0)], ([], [], [(222, 1, 1, ck_one 6), (222, 0, 0, ck_one 30), (222, 3, 3, ck_one 0), (1, 15, 15, ck_one 0), (220, 0, 0, ck_one 24), (220, 3, 3, ck_one 0), (10, 3, 3, ck_one 0), (3, 0, 0, ck_one 3), (223, 0, 179, ck_one 0)]), ([(1, 15, 15), (220, 3, 3), (221, 0, 47), (222, 3, 3), (223, 0, 179)], []), [(.inr (some (.inl (ck_one 0))), 245, ([], [], [(222, 3, 3, ck_one 4), (1, 15, 15, ck_one 1), (220, 3, 3, ck_one 0), (223, 0, 179, ck_one 0)]))])
set_option maxRecDepth 100000 in
theorem p34x_234_e : ck_ok p1_O none [] [(214, [p34x_215]), (24, [p34x_148]), (215, [p34x_217]), (219, [p34x_226, p34x_225])] 218 [(19, [some (.inr (.inr (.inl 1))), some (.inl (ck_one 4)), some (.inl (ck_one 0)), some (.inl (ck_one 0)), some (.inl (1, 3, none))], ([], [], [(222, 3, 3, ck_one 4), (223, 0, 179, ck_one 0), (1, 15, 15, ck_one 1), (220, 3, 3, ck_one 0), (222, 1, 1, ck_one 6), (222, 0, 0, ck_one 30), (220, 0, 0, ck_one 24), (10, 3, 3, ck_one 0), (3, 0, 0, ck_one 3)]), 100, .inl 4, true)] 158 p34x_234 = true := by decide +kernel
theorem p34x_234_s {X : Int → Int} {LX : Nat} : ck_Ok p1_O X LX 218 p34x_234 := ck_ok_s (ck_E1 (ck_S1 p34x_215_s ck_S0) (ck_E1 (ck_S1 p34x_148_s ck_S0) (ck_E1 (ck_S1 p34x_217_s ck_S0) (ck_E1 (ck_S1 p34x_226_s (ck_S1 p34x_225_s ck_S0)) ck_E0)))) ck_X0 ck_l0 p34x_234_e
set_option maxRecDepth 100000 in
def p34x_235 : ck_Sum := ((4, 0, 0), 245, [.inr (.inr (.inl 1)), .inl (ck_one 4), .inl (ck_one 0), .inr (.inr (.inl 245))], ([], [], [(222, 1, 1, ck_one 6), (222, 0, 0, ck_one 30), (222, 3, 3, ck_one 0), (1, 15, 15, ck_one 0), (220, 0, 0, ck_one 24), (220, 3, 3, ck_one 0), (10, 3, 3, ck_one 0), (3, 0, 0, ck_one 3), (223, 0, 179, ck_one 0)]), ([(1, 15, 15), (220, 3, 3), (221, 0, 47), (222, 3, 3), (223, 0, 179), (245, 0, 0)], []), [(.inr (some (.inl (ck_one 0))), 245, ([], [], [(245, 0, 0, ck_one 0), (222, 3, 3, ck_one 4), (1, 15, 15, ck_one 1), (220, 3, 3, ck_one 0), (223, 0, 179, ck_one 0)]))])
set_option maxRecDepth 100000 in
theorem p34x_235_e : ck_ok p1_O none [] [(218, [p34x_234])] 217 [] 92 p34x_235 = true := by decide +kernel
theorem p34x_235_s {X : Int → Int} {LX : Nat} : ck_Ok p1_O X LX 217 p34x_235 := ck_ok_s (ck_E1 (ck_S1 p34x_234_s ck_S0) ck_E0) ck_X0 ck_l0 p34x_235_e
set_option maxRecDepth 100000 in
def p34x_237 : ck_Sum := ((0, 0, 0), 245, [.inr (.inr (.inl 1)), .inl (ck_one 5)], ([], [], []), ([], []), [(.inr none, 245, ([], [], []))])
set_option maxRecDepth 100000 in
theorem p34x_237_e : ck_ok p1_O none [] [] 214 [] 84 p34x_237 = true := by decide +kernel
theorem p34x_237_s {X : Int → Int} {LX : Nat} : ck_Ok p1_O X LX 214 p34x_237 := ck_ok_s (ck_E0) ck_X0 ck_l0 p34x_237_e
set_option maxRecDepth 100000 in
def p34x_238 : ck_Sum := ((1, 0, 0), 245, [.inr (.inr (.inl 222)), .inl (ck_one 5)], ([], [], [(222, 0, 0, ck_one 30), (223, 0, 179, ck_one 0)]), ([(222, 3, 3), (223, 0, 179)], []), [(.inr none, 245, ([], [], [(222, 3, 3, ck_one 5), (223, 0, 179, ck_one 0)]))])
set_option maxRecDepth 100000 in
theorem p34x_238_e : ck_ok p1_O none [] [(8, [p34x_149])] 25 [] 96 p34x_238 = true := by decide +kernel
theorem p34x_238_s {X : Int → Int} {LX : Nat} : ck_Ok p1_O X LX 25 p34x_238 := ck_ok_s (ck_E1 (ck_S1 p34x_149_s ck_S0) ck_E0) ck_X0 ck_l0 p34x_238_e
set_option maxRecDepth 100000 in
def p34x_239 : ck_Sum := ((2, 0, 0), 245, [.inr (.inr (.inl 1)), .inl (ck_one 5)], ([], [], [(220, 3, 3, ck_one 0), (222, 0, 0, ck_one 30), (222, 3, 3, ck_one 0), (223, 0, 179, ck_one 0)]), ([(222, 3, 3), (223, 0, 179)], []), [(.inr none, 245, ([], [], [(222, 3, 3, ck_one 5), (223, 0, 179, ck_one 0)]))])
set_option maxRecDepth 100000 in
theorem p34x_239_e : ck_ok p1_O none [] [(25, [p34x_238]), (9, [p34x_147])] 215 [(10, [some (.inr (.inr (.inl 1))), some (.inl (ck_one 5)), some (.inl (ck_one 0)), none, none], ([], [], [(222, 3, 3, ck_one 5), (223, 0, 179, ck_one 0), (220, 3, 3, ck_one 0), (222, 0, 0, ck_one 30)]), 100, .inl 2, true)] 118 p34x_239 = true := by decide +kernel
theorem p34x_239_s {X : Int → Int} {LX : Nat} : ck_Ok p1_O X LX 215 p34x_239 := ck_ok_s (ck_E1 (ck_S1 p34x_238_s ck_S0) (ck_E1 (ck_S1 p34x_147_s ck_S0) ck_E0)) ck_X0 ck_l0 p34x_239_e
set_option maxRecDepth 100000 in
def p34x_246 : ck_Sum := ((0, 0, 0), 245, [.inr (.inr (.inl 222)), .inl (0, 4, none), .inl (0, 2, none)], ([], [], [(222, 3, 3, ck_one 5), (223, 0, 179, ck_one 0), (222, 1, 1, ck_one 6)]), ([], []), [(.inr (some (.inl (ck_one 0))), 245, ([], [], []))])
set_option maxRecDepth 100000 in
theorem p34x_246_e : ck_ok p1_O none [] [] 10 [] 114 p34x_246 = true := by decide +kernel
theorem p34x_246_s {X : Int → Int} {LX : Nat} : ck_Ok p1_O X LX 10 p34x_246 := ck_ok_s (ck_E0) ck_X0 ck_l0 p34x_246_e
set_option maxRecDepth 100000 in
def p34x_248 : ck_Sum := ((1, 0, 0), 245, [.inr (.inr (.inl 1)), .inl (ck_one 0), .inl (ck_one 5)], ([], [], [(222, 3, 3, ck_one 5), (223, 0, 179, ck_one 0), (222, 1, 1, ck_one 6), (3, 0, 0, ck_one 3)]), ([], []), [(.inr (some (.inl (ck_one 0))), 245, ([], [], []))])
set_option maxRecDepth 100000 in
theorem p34x_248_e : ck_ok p1_O none [] [(10, [p34x_246])] 219 [(5, [some (.inr (.inr (.inl 1))), some (.inl (ck_one 0)), some (.inl (ck_one 5)), some (.inl (ck_one 0)), some (.inl (0, 3, none)), none, none], ([], [], [(222, 3, 3, ck_one 5), (223, 0, 179, ck_one 0), (222, 1, 1, ck_one 6), (3, 0, 0, ck_one 3)]), 100, .inl 4, true), (23, [some (.inr (.inr (.inl 1))), some (.inl (ck_one 0)), some (.inl (ck_one 5)), some (.inl (ck_one 0)), some (.inl (0, 2, some (100, 0))), some (.inl (ck_one 0)), some (.inl (0, 5, none))], ([], [], [(222, 3, 3, ck_one 5), (223, 0, 179, ck_one 0), (222, 1, 1, ck_one 6), (3, 0, 0, ck_one 3)]), 300, .inl 6, true)] 194 p34x_248 = true := by decide +kernel
theorem p34x_248_s {X : Int → Int} {LX : Nat} : ck_Ok p1_O X LX 219 p34x_248 := ck_ok_s (ck_E1 (ck_S1 p34x_246_s ck_S0) ck_E0) ck_X0 ck_l0 p34x_248_e
set_option maxRecDepth 100000 in
def p34x_249 : ck_Sum := ((1, 0, 0), 245, [.inr (.inr (.inl 1)), .inl (1, 2, none), .inl (ck_one 5)], ([], [], [(222, 3, 3, ck_one 5), (223, 0, 179, ck_one 0), (222, 1, 1, ck_one 6), (3, 0, 0, ck_one 3)]), ([], []), [(.inr (some (.inl (ck_one 0))), 245, ([], [], []))])
set_option maxRecDepth 100000 in
theorem p34x_249_e : ck_ok p1_O none [] [(10, [p34x_246])] 219 [(5, [some (.inr (.inr (.inl 1))), some (.inl (1, 2, none)), some (.inl (ck_one 5)), some (.inl (ck_one 0)), some (.inl (0, 3, none)), none, none], ([], [], [(222, 3, 3, ck_one 5), (223, 0, 179, ck_one 0), (222, 1, 1, ck_one 6), (3, 0, 0, ck_one 3)]), 100, .inl 4, true), (23, [some (.inr (.inr (.inl 1))), some (.inl (1, 2, none)), some (.inl (ck_one 5)), some (.inl (ck_one 0)), some (.inl (0, 2, some (100, 0))), some (.inl (ck_one 0)), some (.inl (0, 5, none))], ([], [], [(222, 3, 3, ck_one 5), (223, 0, 179, ck_one 0), (222, 1, 1, ck_one 6), (3, 0, 0, ck_one 3)]), 300, .inl 6, true)] 194 p34x_249 = true := by decide +kernel
theorem p34x_249_s {X : Int → Int} {LX : Nat} : ck_Ok p1_O X LX 219 p34x_249 := ck_ok_s (ck_E1 (ck_S1 p34x_246_s ck_S0) ck_E0) ck_X0 ck_l0 p34x_249_e
set_option maxRecDepth 100000 in
def p34x_250 : ck_Sum := ((3, 0, 0), 245, [.inr (.inr (.inl 1)), .inl (ck_one 5), .inl (ck_one 1)], ([], [], [(222, 1, 1, ck_one 6), (222, 0, 0, ck_one 30), (222, 3, 3, ck_one 0), (1, 15, 15, ck_one 0), (220, 0, 0, ck_one 24), (220, 3, 3, ck_one 0), (10, 3, 3, ck_one 0), (3, 0, 0, ck_one 3), (223, 0, 179, ck_one 0)]), ([(1, 15, 15), (220, 3, 3), (221, 0, 47), (222, 3, 3), (223, 0, 179)], []), [(.inr (some (.inl (ck_one 0))), 245, ([], [], [(222, 3, 3, ck_one 5), (1, 15, 15, ck_one 1), (220, 3, 3, ck_one 0), (223, 0, 179, ck_one 0)]))])
set_option maxRecDepth 100000 in
theorem p34x_250_e : ck_ok p1_O none [] [(214, [p34x_237]), (24, [p34x_148]), (215, [p34x_239]), (219, [p34x_248, p34x_249])] 218 [(19, [some (.inr (.inr (.inl 1))), some (.inl (ck_one 5)), some (.inl (ck_one 1)), some (.inl (ck_one 0)), some (.inl (1, 3, none))], ([], [], [(222, 3, 3, ck_one 5), (223, 0, 179, ck_one 0), (1, 15, 15, ck_one 1), (220, 3, 3, ck_one 0), (222, 1, 1, ck_one 6), (222, 0, 0, ck_one 30), (220, 0, 0, ck_one 24), (10, 3, 3, ck_one 0), (3, 0, 0, ck_one 3)]), 100, .inl 4, true)] 158 p34x_250 = true := by decide +kernel
theorem p34x_250_s {X : Int → Int} {LX : Nat} : ck_Ok p1_O X LX 218 p34x_250 := ck_ok_s (ck_E1 (ck_S1 p34x_237_s ck_S0) (ck_E1 (ck_S1 p34x_148_s ck_S0) (ck_E1 (ck_S1 p34x_239_s ck_S0) (ck_E1 (ck_S1 p34x_248_s (ck_S1 p34x_249_s ck_S0)) ck_E0)))) ck_X0 ck_l0 p34x_250_e
set_option maxRecDepth 100000 in
def p34x_251 : ck_Sum := ((4, 0, 0), 245, [.inr (.inr (.inl 1)), .inl (ck_one 5), .inl (ck_one 1), .inr (.inr (.inl 245))], ([], [], [(222, 1, 1, ck_one 6), (222, 0, 0, ck_one 30), (222, 3, 3, ck_one 0), (1, 15, 15, ck_one 0), (220, 0, 0, ck_one 24), (220, 3, 3, ck_one 0), (10, 3, 3, ck_one 0), (3, 0, 0, ck_one 3), (223, 0, 179, ck_one 0)]), ([(1, 15, 15), (220, 3, 3), (221, 0, 47), (222, 3, 3), (223, 0, 179), (245, 0, 0)], []), [(.inr (some (.inl (ck_one 0))), 245, ([], [], [(245, 0, 0, ck_one 0), (222, 3, 3, ck_one 5), (1, 15, 15, ck_one 1), (220, 3, 3, ck_one 0), (223, 0, 179, ck_one 0)]))])
set_option maxRecDepth 100000 in
theorem p34x_251_e : ck_ok p1_O none [] [(218, [p34x_250])] 217 [] 92 p34x_251 = true := by decide +kernel
theorem p34x_251_s {X : Int → Int} {LX : Nat} : ck_Ok p1_O X LX 217 p34x_251 := ck_ok_s (ck_E1 (ck_S1 p34x_250_s ck_S0) ck_E0) ck_X0 ck_l0 p34x_251_e
set_option maxRecDepth 100000 in
def p34x_257 : ck_Sum := ((3, 0, 0), 245, [.inr (.inr (.inl 1)), .inl (ck_one 5), .inl (ck_one 0)], ([], [], [(222, 1, 1, ck_one 6), (222, 0, 0, ck_one 30), (222, 3, 3, ck_one 0), (1, 15, 15, ck_one 0), (220, 0, 0, ck_one 24), (220, 3, 3, ck_one 0), (10, 3, 3, ck_one 0), (3, 0, 0, ck_one 3), (223, 0, 179, ck_one 0)]), ([(1, 15, 15), (220, 3, 3), (221, 0, 47), (222, 3, 3), (223, 0, 179)], []), [(.inr (some (.inl (ck_one 0))), 245, ([], [], [(222, 3, 3, ck_one 5), (1, 15, 15, ck_one 1), (220, 3, 3, ck_one 0), (223, 0, 179, ck_one 0)]))])
set_option maxRecDepth 100000 in
theorem p34x_257_e : ck_ok p1_O none [] [(214, [p34x_237]), (24, [p34x_148]), (215, [p34x_239]), (219, [p34x_249, p34x_248])] 218 [(19, [some (.inr (.inr (.inl 1))), some (.inl (ck_one 5)), some (.inl (ck_one 0)), some (.inl (ck_one 0)), some (.inl (1, 3, none))], ([], [], [(222, 3, 3, ck_one 5), (223, 0, 179, ck_one 0), (1, 15, 15, ck_one 1), (220, 3, 3, ck_one 0), (222, 1, 1, ck_one 6), (222, 0, 0, ck_one 30), (220, 0, 0, ck_one 24), (10, 3, 3, ck_one 0), (3, 0, 0, ck_one 3)]), 100, .inl 4, true)] 158 p34x_257 = true := by decide +kernel
theorem p34x_257_s {X : Int → Int} {LX : Nat} : ck_Ok p1_O X LX 218 p34x_257 := ck_ok_s (ck_E1 (ck_S1 p34x_237_s ck_S0) (ck_E1 (ck_S1 p34x_148_s ck_S0) (ck_E1 (ck_S1 p34x_239_s ck_S0) (ck_E1 (ck_S1 p34x_249_s (ck_S1 p34x_248_s ck_S0)) ck_E0)))) ck_X0 ck_l0 p34x_257_e
set_option maxRecDepth 100000 in
def p34x_258 : ck_Sum := ((4, 0, 0), 245, [.inr (.inr (.inl 1)), .inl (ck_one 5), .inl (ck_one 0), .inr (.inr (.inl 245))], ([], [], [(222, 1, 1, ck_one 6), (222, 0, 0, ck_one 30), (222, 3, 3, ck_one 0), (1, 15, 15, ck_one 0), (220, 0, 0, ck_one 24), (220, 3, 3, ck_one 0), (10, 3, 3, ck_one 0), (3, 0, 0, ck_one 3), (223, 0, 179, ck_one 0)]), ([(1, 15, 15), (220, 3, 3), (221, 0, 47), (222, 3, 3), (223, 0, 179), (245, 0, 0)], []), [(.inr (some (.inl (ck_one 0))), 245, ([], [], [(245, 0, 0, ck_one 0), (222, 3, 3, ck_one 5), (1, 15, 15, ck_one 1), (220, 3, 3, ck_one 0), (223, 0, 179, ck_one 0)]))])
set_option maxRecDepth 100000 in
theorem p34x_258_e : ck_ok p1_O none [] [(218, [p34x_257])] 217 [] 92 p34x_258 = true := by decide +kernel
theorem p34x_258_s {X : Int → Int} {LX : Nat} : ck_Ok p1_O X LX 217 p34x_258 := ck_ok_s (ck_E1 (ck_S1 p34x_257_s ck_S0) ck_E0) ck_X0 ck_l0 p34x_258_e
set_option maxRecDepth 100000 in
def p34x_260 : ck_Sum := ((0, 0, 0), 245, [.inr (.inr (.inl 1)), .inl (ck_one 6)], ([], [], []), ([], []), [(.inr none, 245, ([], [], []))])
set_option maxRecDepth 100000 in
theorem p34x_260_e : ck_ok p1_O none [] [] 214 [] 84 p34x_260 = true := by decide +kernel
theorem p34x_260_s {X : Int → Int} {LX : Nat} : ck_Ok p1_O X LX 214 p34x_260 := ck_ok_s (ck_E0) ck_X0 ck_l0 p34x_260_e
set_option maxRecDepth 100000 in
def p34x_261 : ck_Sum := ((1, 0, 0), 245, [.inr (.inr (.inl 222)), .inl (ck_one 6)], ([], [], [(222, 0, 0, ck_one 30), (223, 0, 179, ck_one 0)]), ([(222, 3, 3), (223, 0, 179)], []), [(.inr none, 245, ([], [], [(222, 3, 3, ck_one 6), (223, 0, 179, ck_one 0)]))])
set_option maxRecDepth 100000 in
theorem p34x_261_e : ck_ok p1_O none [] [(8, [p34x_149])] 25 [] 96 p34x_261 = true := by decide +kernel
theorem p34x_261_s {X : Int → Int} {LX : Nat} : ck_Ok p1_O X LX 25 p34x_261 := ck_ok_s (ck_E1 (ck_S1 p34x_149_s ck_S0) ck_E0) ck_X0 ck_l0 p34x_261_e
set_option maxRecDepth 100000 in
def p34x_262 : ck_Sum := ((2, 0, 0), 245, [.inr (.inr (.inl 1)), .inl (ck_one 6)], ([], [], [(220, 3, 3, ck_one 0), (222, 0, 0, ck_one 30), (222, 3, 3, ck_one 0), (223, 0, 179, ck_one 0)]), ([(222, 3, 3), (223, 0, 179)], []), [(.inr none, 245, ([], [], [(222, 3, 3, ck_one 6), (223, 0, 179, ck_one 0)]))])
set_option maxRecDepth 100000 in
theorem p34x_262_e : ck_ok p1_O none [] [(25, [p34x_261]), (9, [p34x_147])] 215 [(10, [some (.inr (.inr (.inl 1))), some (.inl (ck_one 6)), some (.inl (ck_one 0)), none, none], ([], [], [(222, 3, 3, ck_one 6), (223, 0, 179, ck_one 0), (220, 3, 3, ck_one 0), (222, 0, 0, ck_one 30)]), 100, .inl 2, true)] 118 p34x_262 = true := by decide +kernel
theorem p34x_262_s {X : Int → Int} {LX : Nat} : ck_Ok p1_O X LX 215 p34x_262 := ck_ok_s (ck_E1 (ck_S1 p34x_261_s ck_S0) (ck_E1 (ck_S1 p34x_147_s ck_S0) ck_E0)) ck_X0 ck_l0 p34x_262_e
set_option maxRecDepth 100000 in
def p34x_270 : ck_Sum := ((0, 0, 0), 245, [.inr (.inr (.inl 222)), .inl (0, 5, none), .inl (0, 2, none)], ([], [], [(222, 3, 3, ck_one 6), (223, 0, 179, ck_one 0), (222, 1, 1, ck_one 6)]), ([], []), [(.inr (some (.inl (ck_one 0))), 245, ([], [], []))])
set_option maxRecDepth 100000 in
theorem p34x_270_e : ck_ok p1_O none [] [] 10 [] 114 p34x_270 = true := by decide +kernel
theorem p34x_270_s {X : Int → Int} {LX : Nat} : ck_Ok p1_O X LX 10 p34x_270 := ck_ok_s (ck_E0) ck_X0 ck_l0 p34x_270_e
set_option maxRecDepth 100000 in
def p34x_272 : ck_Sum := ((1, 0, 0), 245, [.inr (.inr (.inl 1)), .inl (ck_one 0), .inl (ck_one 6)], ([], [], [(222, 3, 3, ck_one 6), (223, 0, 179, ck_one 0), (222, 1, 1, ck_one 6), (3, 0, 0, ck_one 3)]), ([], []), [(.inr (some (.inl (ck_one 0))), 245, ([], [], []))])
set_option maxRecDepth 100000 in
theorem p34x_272_e : ck_ok p1_O none [] [(10, [p34x_270])] 219 [(5, [some (.inr (.inr (.inl 1))), some (.inl (ck_one 0)), some (.inl (ck_one 6)), some (.inl (ck_one 0)), some (.inl (0, 3, none)), none, none], ([], [], [(222, 3, 3, ck_one 6), (223, 0, 179, ck_one 0), (222, 1, 1, ck_one 6), (3, 0, 0, ck_one 3)]), 100, .inl 4, true), (23, [some (.inr (.inr (.inl 1))), some (.inl (ck_one 0)), some (.inl (ck_one 6)), some (.inl (ck_one 0)), some (.inl (0, 2, some (100, 0))), some (.inl (ck_one 0)), some (.inl (0, 6, none))], ([], [], [(222, 3, 3, ck_one 6), (223, 0, 179, ck_one 0), (222, 1, 1, ck_one 6), (3, 0, 0, ck_one 3)]), 300, .inl 6, true)] 194 p34x_272 = true := by decide +kernel
theorem p34x_272_s {X : Int → Int} {LX : Nat} : ck_Ok p1_O X LX 219 p34x_272 := ck_ok_s (ck_E1 (ck_S1 p34x_270_s ck_S0) ck_E0) ck_X0 ck_l0 p34x_272_e
set_option maxRecDepth 100000 in
def p34x_273 : ck_Sum := ((1, 0, 0), 245, [.inr (.inr (.inl 1)), .inl (1, 2, none), .inl (ck_one 6)], ([], [], [(222, 3, 3, ck_one 6), (223, 0, 179, ck_one 0), (222, 1, 1, ck_one 6), (3, 0, 0, ck_one 3)]), ([], []), [(.inr (some (.inl (ck_one 0))), 245, ([], [], []))])
set_option maxRecDepth 100000 in
theorem p34x_273_e : ck_ok p1_O none [] [(10, [p34x_270])] 219 [(5, [some (.inr (.inr (.inl 1))), some (.inl (1, 2, none)), some (.inl (ck_one 6)), some (.inl (ck_one 0)), some (.inl (0, 3, none)), none, none], ([], [], [(222, 3, 3, ck_one 6), (223, 0, 179, ck_one 0), (222, 1, 1, ck_one 6), (3, 0, 0, ck_one 3)]), 100, .inl 4, true), (23, [some (.inr (.inr (.inl 1))), some (.inl (1, 2, none)), some (.inl (ck_one 6)), some (.inl (ck_one 0)), some (.inl (0, 2, some (100, 0))), some (.inl (ck_one 0)), some (.inl (0, 6, none))], ([], [], [(222, 3, 3, ck_one 6), (223, 0, 179, ck_one 0), (222, 1, 1, ck_one 6), (3, 0, 0, ck_one 3)]), 300, .inl 6, true)] 194 p34x_273 = true := by decide +kernel
theorem p34x_273_s {X : Int → Int} {LX : Nat} : ck_Ok p1_O X LX 219 p34x_273 := ck_ok_s (ck_E1 (ck_S1 p34x_270_s ck_S0) ck_E0) ck_X0 ck_l0 p34x_273_e
set_option maxRecDepth 100000 in
def p34x_274 : ck_Sum := ((3, 0, 0), 245, [.inr (.inr (.inl 1)), .inl (ck_one 6), .inl (ck_one 1)], ([], [], [(222, 1, 1, ck_one 6), (222, 0, 0, ck_one 30), (222, 3, 3, ck_one 0), (1, 15, 15, ck_one 0), (220, 0, 0, ck_one 24), (220, 3, 3, ck_one 0), (10, 3, 3, ck_one 0), (3, 0, 0, ck_one 3), (223, 0, 179, ck_one 0)]), ([(1, 15, 15), (220, 3, 3), (221, 0, 47), (222, 3, 3), (223, 0, 179)], []), [(.inr (some (.inl (ck_one 0))), 245, ([], [], [(222, 3, 3, ck_one 6), (1, 15, 15, ck_one 1), (220, 3, 3, ck_one 0), (223, 0, 179, ck_one 0)]))])
set_option maxRecDepth 100000 in
theorem p34x_274_e : ck_ok p1_O none [] [(214, [p34x_260]), (24, [p34x_148]), (215, [p34x_262]), (219, [p34x_272, p34x_273])] 218 [(19, [some (.inr (.inr (.inl 1))), some (.inl (ck_one 6)), some (.inl (ck_one 1)), some (.inl (ck_one 0)), some (.inl (1, 3, none))], ([], [], [(222, 3, 3, ck_one 6), (223, 0, 179, ck_one 0), (1, 15, 15, ck_one 1), (220, 3, 3, ck_one 0), (222, 1, 1, ck_one 6), (222, 0, 0, ck_one 30), (220, 0, 0, ck_one 24), (10, 3, 3, ck_one 0), (3, 0, 0, ck_one 3)]), 100, .inl 4, true)] 158 p34x_274 = true := by decide +kernel
theorem p34x_274_s {X : Int → Int} {LX : Nat} : ck_Ok p1_O X LX 218 p34x_274 := ck_ok_s (ck_E1 (ck_S1 p34x_260_s ck_S0) (ck_E1 (ck_S1 p34x_148_s ck_S0) (ck_E1 (ck_S1 p34x_262_s ck_S0) (ck_E1 (ck_S1 p34x_272_s (ck_S1 p34x_273_s ck_S0)) ck_E0)))) ck_X0 ck_l0 p34x_274_e
set_option maxRecDepth 100000 in
def p34x_275 : ck_Sum := ((4, 0, 0), 245, [.inr (.inr (.inl 1)), .inl (ck_one 6), .inl (ck_one 1), .inr (.inr (.inl 245))], ([], [], [(222, 1, 1, ck_one 6), (222, 0, 0, ck_one 30), (222, 3, 3, ck_one 0), (1, 15, 15, ck_one 0), (220, 0, 0, ck_one 24), (220, 3, 3, ck_one 0), (10, 3, 3, ck_one 0), (3, 0, 0, ck_one 3), (223, 0, 179, ck_one 0)]), ([(1, 15, 15), (220, 3, 3), (221, 0, 47), (222, 3, 3), (223, 0, 179), (245, 0, 0)], []), [(.inr (some (.inl (ck_one 0))), 245, ([], [], [(245, 0, 0, ck_one 0), (222, 3, 3, ck_one 6), (1, 15, 15, ck_one 1), (220, 3, 3, ck_one 0), (223, 0, 179, ck_one 0)]))])
set_option maxRecDepth 100000 in
theorem p34x_275_e : ck_ok p1_O none [] [(218, [p34x_274])] 217 [] 92 p34x_275 = true := by decide +kernel
theorem p34x_275_s {X : Int → Int} {LX : Nat} : ck_Ok p1_O X LX 217 p34x_275 := ck_ok_s (ck_E1 (ck_S1 p34x_274_s ck_S0) ck_E0) ck_X0 ck_l0 p34x_275_e
set_option maxRecDepth 100000 in
def p34x_281 : ck_Sum := ((3, 0, 0), 245, [.inr (.inr (.inl 1)), .inl (ck_one 6), .inl (ck_one 0)], ([], [], [(222, 1, 1, ck_one 6), (222, 0, 0, ck_one 30), (222, 3, 3, ck_one 0), (1, 15, 15, ck_one 0), (220, 0, 0, ck_one 24), (220, 3, 3, ck_one 0), (10, 3, 3, ck_one 0), (3, 0, 0, ck_one 3), (223, 0, 179, ck_one 0)]), ([(1, 15, 15), (220, 3, 3), (221, 0, 47), (222, 3, 3), (223, 0, 179)], []), [(.inr (some (.inl (ck_one 0))), 245, ([], [], [(222, 3, 3, ck_one 6), (1, 15, 15, ck_one 1), (220, 3, 3, ck_one 0), (223, 0, 179, ck_one 0)]))])
set_option maxRecDepth 100000 in
theorem p34x_281_e : ck_ok p1_O none [] [(214, [p34x_260]), (24, [p34x_148]), (215, [p34x_262]), (219, [p34x_273, p34x_272])] 218 [(19, [some (.inr (.inr (.inl 1))), some (.inl (ck_one 6)), some (.inl (ck_one 0)), some (.inl (ck_one 0)), some (.inl (1, 3, none))], ([], [], [(222, 3, 3, ck_one 6), (223, 0, 179, ck_one 0), (1, 15, 15, ck_one 1), (220, 3, 3, ck_one 0), (222, 1, 1, ck_one 6), (222, 0, 0, ck_one 30), (220, 0, 0, ck_one 24), (10, 3, 3, ck_one 0), (3, 0, 0, ck_one 3)]), 100, .inl 4, true)] 158 p34x_281 = true := by decide +kernel
theorem p34x_281_s {X : Int → Int} {LX : Nat} : ck_Ok p1_O X LX 218 p34x_281 := ck_ok_s (ck_E1 (ck_S1 p34x_260_s ck_S0) (ck_E1 (ck_S1 p34x_148_s ck_S0) (ck_E1 (ck_S1 p34x_262_s ck_S0) (ck_E1 (ck_S1 p34x_273_s (ck_S1 p34x_272_s ck_S0)) ck_E0)))) ck_X0 ck_l0 p34x_281_e
set_option maxRecDepth 100000 in
def p34x_282 : ck_Sum := ((4, 0, 0), 245, [.inr (.inr (.inl 1)), .inl (ck_one 6), .inl (ck_one 0), .inr (.inr (.inl 245))], ([], [], [(222, 1, 1, ck_one 6), (222, 0, 0, ck_one 30), (222, 3, 3, ck_one 0), (1, 15, 15, ck_one 0), (220, 0, 0, ck_one 24), (220, 3, 3, ck_one 0), (10, 3, 3, ck_one 0), (3, 0, 0, ck_one 3), (223, 0, 179, ck_one 0)]), ([(1, 15, 15), (220, 3, 3), (221, 0, 47), (222, 3, 3), (223, 0, 179), (245, 0, 0)], []), [(.inr (some (.inl (ck_one 0))), 245, ([], [], [(245, 0, 0, ck_one 0), (222, 3, 3, ck_one 6), (1, 15, 15, ck_one 1), (220, 3, 3, ck_one 0), (223, 0, 179, ck_one 0)]))])
set_option maxRecDepth 100000 in
theorem p34x_282_e : ck_ok p1_O none [] [(218, [p34x_281])] 217 [] 92 p34x_282 = true := by decide +kernel
theorem p34x_282_s {X : Int → Int} {LX : Nat} : ck_Ok p1_O X LX 217 p34x_282 := ck_ok_s (ck_E1 (ck_S1 p34x_281_s ck_S0) ck_E0) ck_X0 ck_l0 p34x_282_e
set_option maxRecDepth 100000 in
def p34x_284 : ck_Sum := ((0, 0, 0), 245, [.inr (.inr (.inl 1)), .inl (ck_one 7)], ([], [], []), ([], []), [(.inr none, 245, ([], [], []))])
set_option maxRecDepth 100000 in
theorem p34x_284_e : ck_ok p1_O none [] [] 214 [] 84 p34x_284 = true := by decide +kernel
theorem p34x_284_s {X : Int → Int} {LX : Nat} : ck_Ok p1_O X LX 214 p34x_284 := ck_ok_s (ck_E0) ck_X0 ck_l0 p34x_284_e
set_option maxRecDepth 100000 in
def p34x_285 : ck_Sum := ((1, 0, 0), 245, [.inr (.inr (.inl 222)), .inl (ck_one 7)], ([], [], [(222, 0, 0, ck_one 30), (223, 0, 179, ck_one 0)]), ([(222, 3, 3), (223, 0, 179)], []), [(.inr none, 245, ([], [], [(222, 3, 3, ck_one 7), (223, 0, 179, ck_one 0)]))])
set_option maxRecDepth 100000 in
theorem p34x_285_e : ck_ok p1_O none [] [(8, [p34x_149])] 25 [] 96 p34x_285 = true := by decide +kernel
theorem p34x_285_s {X : Int → Int} {LX : Nat} : ck_Ok p1_O X LX 25 p34x_285 := ck_ok_s (ck_E1 (ck_S1 p34x_149_s ck_S0) ck_E0) ck_X0 ck_l0 p34x_285_e
set_option maxRecDepth 100000 in
def p34x_286 : ck_Sum := ((2, 0, 0), 245, [.inr (.inr (.inl 1)), .inl (ck_one 7)], ([], [], [(220, 3, 3, ck_one 0), (222, 0, 0, ck_one 30), (222, 3, 3, ck_one 0), (223, 0, 179, ck_one 0)]), ([(222, 3, 3), (223, 0, 179)], []), [(.inr none, 245, ([], [], [(222, 3, 3, ck_one 7), (223, 0, 179, ck_one 0)]))])
set_option maxRecDepth 100000 in
theorem p34x_286_e : ck_ok p1_O none [] [(25, [p34x_285]), (9, [p34x_147])] 215 [(10, [some (.inr (.inr (.inl 1))), some (.inl (ck_one 7)), some (.inl (ck_one 0)), none, none], ([], [], [(222, 3, 3, ck_one 7), (223, 0, 179, ck_one 0), (220, 3, 3, ck_one 0), (222, 0, 0, ck_one 30)]), 100, .inl 2, true)] 118 p34x_286 = true := by decide +kernel
theorem p34x_286_s {X : Int → Int} {LX : Nat} : ck_Ok p1_O X LX 215 p34x_286 := ck_ok_s (ck_E1 (ck_S1 p34x_285_s ck_S0) (ck_E1 (ck_S1 p34x_147_s ck_S0) ck_E0)) ck_X0 ck_l0 p34x_286_e
set_option maxRecDepth 100000 in
def p34x_295 : ck_Sum := ((0, 0, 0), 245, [.inr (.inr (.inl 222)), .inl (0, 6, none), .inl (0, 2, none)], ([], [], [(222, 3, 3, ck_one 7), (223, 0, 179, ck_one 0), (222, 1, 1, ck_one 6)]), ([], []), [(.inr (some (.inl (ck_one 0))), 245, ([], [], []))])
set_option maxRecDepth 100000 in
theorem p34x_295_e : ck_ok p1_O none [] [] 10 [] 114 p34x_295 = true := by decide +kernel
theorem p34x_295_s {X : Int → Int} {LX : Nat} : ck_Ok p1_O X LX 10 p34x_295 := ck_ok_s (ck_E0) ck_X0 ck_l0 p34x_295_e
set_option maxRecDepth 100000 in
def p34x_297 : ck_Sum := ((1, 0, 0), 245, [.inr (.inr (.inl 1)), .inl (ck_one 0), .inl (ck_one 7)], ([], [], [(222, 3, 3, ck_one 7), (223, 0, 179, ck_one 0), (222, 1, 1, ck_one 6), (3, 0, 0, ck_one 3)]), ([], []), [(.inr (some (.inl (ck_one 0))), 245, ([], [], []))])
set_option maxRecDepth 100000 in
theorem p34x_297_e : ck_ok p1_O none [] [(10, [p34x_295])] 219 [(5, [some (.inr (.inr (.inl 1))), some (.inl (ck_one 0)), some (.inl (ck_one 7)), some (.inl (ck_one 0)), some (.inl (0, 3, none)), none, none], ([], [], [(222, 3, 3, ck_one 7), (223, 0, 179, ck_one 0), (222, 1, 1, ck_one 6), (3, 0, 0, ck_one 3)]), 100, .inl 4, true), (23, [some (.inr (.inr (.inl 1))), some (.inl (ck_one 0)), some (.inl (ck_one 7)), some (.inl (ck_one 0)), some (.inl (0, 2, some (100, 0))), some (.inl (ck_one 0)), some (.inl (0, 7, none))], ([], [], [(222, 3, 3, ck_one 7), (223, 0, 179, ck_one 0), (222, 1, 1, ck_one 6), (3, 0, 0, ck_one 3)]), 300, .inl 6, true)] 194 p34x_297 = true := by decide +kernel
theorem p34x_297_s {X : Int → Int} {LX : Nat} : ck_Ok p1_O X LX 219 p34x_297 := ck_ok_s (ck_E1 (ck_S1 p34x_295_s ck_S0) ck_E0) ck_X0 ck_l0 p34x_297_e
set_option maxRecDepth 100000 in
def p34x_298 : ck_Sum := ((1, 0, 0), 245, [.inr (.inr (.inl 1)), .inl (1, 2, none), .inl (ck_one 7)], ([], [], [(222, 3, 3, ck_one 7), (223, 0, 179, ck_one 0), (222, 1, 1, ck_one 6), (3, 0, 0, ck_one 3)]), ([], []), [(.inr (some (.inl (ck_one 0))), 245, ([], [], []))])
set_option maxRecDepth 100000 in
theorem p34x_298_e : ck_ok p1_O none [] [(10, [p34x_295])] 219 [(5, [some (.inr (.inr (.inl 1))), some (.inl (1, 2, none)), some (.inl (ck_one 7)), some (.inl (ck_one 0)), some (.inl (0, 3, none)), none, none], ([], [], [(222, 3, 3, ck_one 7), (223, 0, 179, ck_one 0), (222, 1, 1, ck_one 6), (3, 0, 0, ck_one 3)]), 100, .inl 4, true), (23, [some (.inr (.inr (.inl 1))), some (.inl (1, 2, none)), some (.inl (ck_one 7)), some (.inl (ck_one 0)), some (.inl (0, 2, some (100, 0))), some (.inl (ck_one 0)), some (.inl (0, 7, none))], ([], [], [(222, 3, 3, ck_one 7), (223, 0, 179, ck_one 0), (222, 1, 1, ck_one 6), (3, 0, 0, ck_one 3)]), 300, .inl 6, true)] 194 p34x_298 = true := by decide +kernel
theorem p34x_298_s {X : Int → Int} {LX : Nat} : ck_Ok p1_O X LX 219 p34x_298 := ck_ok_s (ck_E1 (ck_S1 p34x_295_s ck_S0) ck_E0) ck_X0 ck_l0 p34x_298_e
set_option maxRecDepth 100000 in
def p34x_299 : ck_Sum := ((3, 0, 0), 245, [.inr (.inr (.inl 1)), .inl (ck_one 7), .inl (ck_one 1)], ([], [], [(222, 1, 1, ck_one 6), (222, 0, 0, ck_one 30), (222, 3, 3, ck_one 0), (1, 15, 15, ck_one 0), (220, 0, 0, ck_one 24), (220, 3, 3, ck_one 0), (10, 3, 3, ck_one 0), (3, 0, 0, ck_one 3), (223, 0, 179, ck_one 0)]), ([(1, 15, 15), (220, 3, 3), (221, 0, 47), (222, 3, 3), (223, 0, 179)], []), [(.inr (some (.inl (ck_one 0))), 245, ([], [], [(222, 3, 3, ck_one 7), (1, 15, 15, ck_one 1), (220, 3, 3, ck_one 0), (223, 0, 179, ck_one 0)]))])
set_option maxRecDepth 100000 in
theorem p34x_299_e : ck_ok p1_O none [] [(214, [p34x_284]), (24, [p34x_148]), (215, [p34x_286]), (219, [p34x_297, p34x_298])] 218 [(19, [some (.inr (.inr (.inl 1))), some (.inl (ck_one 7)), some (.inl (ck_one 1)), some (.inl (ck_one 0)), some (.inl (1, 3, none))], ([], [], [(222, 3, 3, ck_one 7), (223, 0, 179, ck_one 0), (1, 15, 15, ck_one 1), (220, 3, 3, ck_one 0), (222, 1, 1, ck_one 6), (222, 0, 0, ck_one 30), (220, 0, 0, ck_one 24), (10, 3, 3, ck_one 0), (3, 0, 0, ck_one 3)]), 100, .inl 4, true)] 158 p34x_299 = true := by decide +kernel
theorem p34x_299_s {X : Int → Int} {LX : Nat} : ck_Ok p1_O X LX 218 p34x_299 := ck_ok_s (ck_E1 (ck_S1 p34x_284_s ck_S0) (ck_E1 (ck_S1 p34x_148_s ck_S0) (ck_E1 (ck_S1 p34x_286_s ck_S0) (ck_E1 (ck_S1 p34x_297_s (ck_S1 p34x_298_s ck_S0)) ck_E0)))) ck_X0 ck_l0 p34x_299_e
set_option maxRecDepth 100000 in
def p34x_300 : ck_Sum := ((4, 0, 0), 245, [.inr (.inr (.inl 1)), .inl (ck_one 7), .inl (ck_one 1), .inr (.inr (.inl 245))], ([], [], [(222, 1, 1, ck_one 6), (222, 0, 0, ck_one 30), (222, 3, 3, ck_one 0), (1, 15, 15, ck_one 0), (220, 0, 0, ck_one 24), (220, 3, 3, ck_one 0), (10, 3, 3, ck_one 0), (3, 0, 0, ck_one 3), (223, 0, 179, ck_one 0)]), ([(1, 15, 15), (220, 3, 3), (221, 0, 47), (222, 3, 3), (223, 0, 179), (245, 0, 0)], []), [(.inr (some (.inl (ck_one 0))), 245, ([], [], [(245, 0, 0, ck_one 0), (222, 3, 3, ck_one 7), (1, 15, 15, ck_one 1), (220, 3, 3, ck_one 0), (223, 0, 179, ck_one 0)]))])
set_option maxRecDepth 100000 in
theorem p34x_300_e : ck_ok p1_O none [] [(218, [p34x_299])] 217 [] 92 p34x_300 = true := by decide +kernel
theorem p34x_300_s {X : Int → Int} {LX : Nat} : ck_Ok p1_O X LX 217 p34x_300 := ck_ok_s (ck_E1 (ck_S1 p34x_299_s ck_S0) ck_E0) ck_X0 ck_l0 p34x_300_e
set_option maxRecDepth 100000 in
def p34x_306 : ck_Sum := ((3, 0, 0), 245, [.inr (.inr (.inl 1)), .inl (ck_one 7), .inl (ck_one 0)], ([], [], [(222, 1, 1, ck_one 6), (222, 0, 0, ck_one 30), (222, 3, 3, ck_one 0), (1, 15, 15, ck_one 0), (220, 0, 0, ck_one 24), (220, 3, 3, ck_one 0), (10, 3, 3, ck_one 0), (3, 0, 0, ck_one 3), (223, 0, 179, ck_one 0)]), ([(1, 15, 15), (220, 3, 3), (221, 0, 47), (222, 3, 3), (223, 0, 179)], []), [(.inr (some (.inl (ck_one 0))), 245, ([], [], [(222, 3, 3, ck_one 7), (1, 15, 15, ck_one 1), (220, 3, 3, ck_one 0), (223, 0, 179, ck_one 0)]))])
set_option maxRecDepth 100000 in
theorem p34x_306_e : ck_ok p1_O none [] [(214, [p34x_284]), (24, [p34x_148]), (215, [p34x_286]), (219, [p34x_298, p34x_297])] 218 [(19, [some (.inr (.inr (.inl 1))), some (.inl (ck_one 7)), some (.inl (ck_one 0)), some (.inl (ck_one 0)), some (.inl (1, 3, none))], ([], [], [(222, 3, 3, ck_one 7), (223, 0, 179, ck_one 0), (1, 15, 15, ck_one 1), (220, 3, 3, ck_one 0), (222, 1, 1, ck_one 6), (222, 0, 0, ck_one 30), (220, 0, 0, ck_one 24), (10, 3, 3, ck_one 0), (3, 0, 0, ck_one 3)]), 100, .inl 4, true)] 158 p34x_306 = true := by decide +kernel
theorem p34x_306_s {X : Int → Int} {LX : Nat} : ck_Ok p1_O X LX 218 p34x_306 := ck_ok_s (ck_E1 (ck_S1 p34x_284_s ck_S0) (ck_E1 (ck_S1 p34x_148_s ck_S0) (ck_E1 (ck_S1 p34x_286_s ck_S0) (ck_E1 (ck_S1 p34x_298_s (ck_S1 p34x_297_s ck_S0)) ck_E0)))) ck_X0 ck_l0 p34x_306_e
set_option maxRecDepth 100000 in
def p34x_307 : ck_Sum := ((4, 0, 0), 245, [.inr (.inr (.inl 1)), .inl (ck_one 7), .inl (ck_one 0), .inr (.inr (.inl 245))], ([], [], [(222, 1, 1, ck_one 6), (222, 0, 0, ck_one 30), (222, 3, 3, ck_one 0), (1, 15, 15, ck_one 0), (220, 0, 0, ck_one 24), (220, 3, 3, ck_one 0), (10, 3, 3, ck_one 0), (3, 0, 0, ck_one 3), (223, 0, 179, ck_one 0)]), ([(1, 15, 15), (220, 3, 3), (221, 0, 47), (222, 3, 3), (223, 0, 179), (245, 0, 0)], []), [(.inr (some (.inl (ck_one 0))), 245, ([], [], [(245, 0, 0, ck_one 0), (222, 3, 3, ck_one 7), (1, 15, 15, ck_one 1), (220, 3, 3, ck_one 0), (223, 0, 179, ck_one 0)]))])
set_option maxRecDepth 100000 in
theorem p34x_307_e : ck_ok p1_O none [] [(218, [p34x_306])] 217 [] 92 p34x_307 = true := by decide +kernel
theorem p34x_307_s {X : Int → Int} {LX : Nat} : ck_Ok p1_O X LX 217 p34x_307 := ck_ok_s (ck_E1 (ck_S1 p34x_306_s ck_S0) ck_E0) ck_X0 ck_l0 p34x_307_e
set_option maxRecDepth 100000 in
def p34x_309 : ck_Sum := ((0, 0, 0), 245, [.inr (.inr (.inl 1)), .inl (ck_one 8)], ([], [], []), ([], []), [(.inr none, 245, ([], [], []))])
set_option maxRecDepth 100000 in
theorem p34x_309_e : ck_ok p1_O none [] [] 214 [] 84 p34x_309 = true := by decide +kernel
theorem p34x_309_s {X : Int → Int} {LX : Nat} : ck_Ok p1_O X LX 214 p34x_309 := ck_ok_s (ck_E0) ck_X0 ck_l0 p34x_309_e
set_option maxRecDepth 100000 in
def p34x_310 : ck_Sum := ((1, 0, 0), 245, [.inr (.inr (.inl 222)), .inl (ck_one 8)], ([], [], [(222, 0, 0, ck_one 30), (223, 0, 179, ck_one 0)]), ([(222, 3, 3), (223, 0, 179)], []), [(.inr none, 245, ([], [], [(222, 3, 3, ck_one 8), (223, 0, 179, ck_one 0)]))])
set_option maxRecDepth 100000 in
theorem p34x_310_e : ck_ok p1_O none [] [(8, [p34x_149])] 25 [] 96 p34x_310 = true := by decide +kernel
theorem p34x_310_s {X : Int → Int} {LX : Nat} : ck_Ok p1_O X LX 25 p34x_310 := ck_ok_s (ck_E1 (ck_S1 p34x_149_s ck_S0) ck_E0) ck_X0 ck_l0 p34x_310_e
set_option maxRecDepth 100000 in
def p34x_311 : ck_Sum := ((2, 0, 0), 245, [.inr (.inr (.inl 1)), .inl (ck_one 8)], ([], [], [(220, 3, 3, ck_one 0), (222, 0, 0, ck_one 30), (222, 3, 3, ck_one 0), (223, 0, 179, ck_one 0)]), ([(222, 3, 3), (223, 0, 179)], []), [(.inr none, 245, ([], [], [(222, 3, 3, ck_one 8), (223, 0, 179, ck_one 0)]))])
set_option maxRecDepth 100000 in
theorem p34x_311_e : ck_ok p1_O none [] [(25, [p34x_310]), (9, [p34x_147])] 215 [(10, [some (.inr (.inr (.inl 1))), some (.inl (ck_one 8)), some (.inl (ck_one 0)), none, none], ([], [], [(222, 3, 3, ck_one 8), (223, 0, 179, ck_one 0), (220, 3, 3, ck_one 0), (222, 0, 0, ck_one 30)]), 100, .inl 2, true)] 118 p34x_311 = true := by decide +kernel
theorem p34x_311_s {X : Int → Int} {LX : Nat} : ck_Ok p1_O X LX 215 p34x_311 := ck_ok_s (ck_E1 (ck_S1 p34x_310_s ck_S0) (ck_E1 (ck_S1 p34x_147_s ck_S0) ck_E0)) ck_X0 ck_l0 p34x_311_e
set_option maxRecDepth 100000 in
def p34x_321 : ck_Sum := ((0, 0, 0), 245, [.inr (.inr (.inl 222)), .inl (0, 7, none), .inl (0, 2, none)], ([], [], [(222, 3, 3, ck_one 8), (223, 0, 179, ck_one 0), (222, 1, 1, ck_one 6)]), ([], []), [(.inr (some (.inl (ck_one 0))), 245, ([], [], []))])
set_option maxRecDepth 100000 in
theorem p34x_321_e : ck_ok p1_O none [] [] 10 [] 114 p34x_321 = true := by decide +kernel
theorem p34x_321_s {X : Int → Int} {LX : Nat} : ck_Ok p1_O X LX 10 p34x_321 := ck_ok_s (ck_E0) ck_X0 ck_l0 p34x_321_e
set_option maxRecDepth 100000 in
def p34x_323 : ck_Sum := ((1, 0, 0), 245, [.inr (.inr (.inl 1)), .inl (ck_one 0), .inl (ck_one 8)], ([], [], [(222, 3, 3, ck_one 8), (223, 0, 179, ck_one 0), (222, 1, 1, ck_one 6), (3, 0, 0, ck_one 3)]), ([], []), [(.inr (some (.inl (ck_one 0))), 245, ([], [], []))])
set_option maxRecDepth 100000 in
theorem p34x_323_e : ck_ok p1_O none [] [(10, [p34x_321])] 219 [(5, [some (.inr (.inr (.inl 1))), some (.inl (ck_one 0)), some (.inl (ck_one 8)), some (.inl (ck_one 0)), some (.inl (0, 3, none)), none, none], ([], [], [(222, 3, 3, ck_one 8), (223, 0, 179, ck_one 0), (222, 1, 1, ck_one 6), (3, 0, 0, ck_one 3)]), 100, .inl 4, true), (23, [some (.inr (.inr (.inl 1))), some (.inl (ck_one 0)), some (.inl (ck_one 8)), some (.inl (ck_one 0)), some (.inl (0, 2, some (100, 0))), some (.inl (ck_one 0)), some (.inl (0, 8, none))], ([], [], [(222, 3, 3, ck_one 8), (223, 0, 179, ck_one 0), (222, 1, 1, ck_one 6), (3, 0, 0, ck_one 3)]), 300, .inl 6, true)] 194 p34x_323 = true := by decide +kernel
theorem p34x_323_s {X : Int → Int} {LX : Nat} : ck_Ok p1_O X LX 219 p34x_323 := ck_ok_s (ck_E1 (ck_S1 p34x_321_s ck_S0) ck_E0) ck_X0 ck_l0 p34x_323_e
set_option maxRecDepth 100000 in
def p34x_324 : ck_Sum := ((1, 0, 0), 245, [.inr (.inr (.inl 1)), .inl (1, 2, none), .inl (ck_one 8)], ([], [], [(222, 3, 3, ck_one 8), (223, 0, 179, ck_one 0), (222, 1, 1, ck_one 6), (3, 0, 0, ck_one 3)]), ([], []), [(.inr (some (.inl (ck_one 0))), 245, ([], [], []))])
set_option maxRecDepth 100000 in
theorem p34x_324_e : ck_ok p1_O none [] [(10, [p34x_321])] 219 [(5, [some (.inr (.inr (.inl 1))), some (.inl (1, 2, none)), some (.inl (ck_one 8)), some (.inl (ck_one 0)), some (.inl (0, 3, none)), none, none], ([], [], [(222, 3, 3, ck_one 8), (223, 0, 179, ck_one 0), (222, 1, 1, ck_one 6), (3, 0, 0, ck_one 3)]), 100, .inl 4, true), (23, [some (.inr (.inr (.inl 1))), some (.inl (1, 2, none)), some (.inl (ck_one 8)), some (.inl (ck_one 0)), some (.inl (0, 2, some (100, 0))), some (.inl (ck_one 0)), some (.inl (0, 8, none))], ([], [], [(222, 3, 3, ck_one 8), (223, 0, 179, ck_one 0), (222, 1, 1, ck_one 6), (3, 0, 0, ck_one 3)]), 300, .inl 6, true)] 194 p34x_324 = true := by decide +kernel
theorem p34x_324_s {X : Int → Int} {LX : Nat} : ck_Ok p1_O X LX 219 p34x_324 := ck_ok_s (ck_E1 (ck_S1 p34x_321_s ck_S0) ck_E0) ck_X0 ck_l0 p34x_324_e
set_option maxRecDepth 100000 in
def p34x_325 : ck_Sum := ((3, 0, 0), 245, [.inr (.inr (.inl 1)), .inl (ck_one 8), .inl (ck_one 1)], ([], [], [(222, 1, 1, ck_one 6), (222, 0, 0, ck_one 30), (222, 3, 3, ck_one 0), (1, 15, 15, ck_one 0), (220, 0, 0, ck_one 24), (220, 3, 3, ck_one 0), (10, 3, 3, ck_one 0), (3, 0, 0, ck_one 3), (223, 0, 179, ck_one 0)]), ([(1, 15, 15), (220, 3, 3), (221, 0, 47), (222, 3, 3), (223, 0, 179)], []), [(.inr (some (.inl (ck_one 0))), 245, ([], [], [(222, 3, 3, ck_one 8), (1, 15, 15, ck_one 1), (220, 3, 3, ck_one 0), (223, 0, 179, ck_one 0)]))])
set_option maxRecDepth 100000 in
theorem p34x_325_e : ck_ok p1_O none [] [(214, [p34x_309]), (24, [p34x_148]), (215, [p34x_311]), (219, [p34x_323, p34x_324])] 218 [(19, [some (.inr (.inr (.inl 1))), some (.inl (ck_one 8)), some (.inl (ck_one 1)), some (.inl (ck_one 0)), some (.inl (1, 3, none))], ([], [], [(222, 3, 3, ck_one 8), (223, 0, 179, ck_one 0), (1, 15, 15, ck_one 1), (220, 3, 3, ck_one 0), (222, 1, 1, ck_one 6), (222, 0, 0, ck_one 30), (220, 0, 0, ck_one 24), (10, 3, 3, ck_one 0), (3, 0, 0, ck_one 3)]), 100, .inl 4, true)] 158 p34x_325 = true := by decide +kernel
theorem p34x_325_s {X : Int → Int} {LX : Nat} : ck_Ok p1_O X LX 218 p34x_325 := ck_ok_s (ck_E1 (ck_S1 p34x_309_s ck_S0) (ck_E1 (ck_S1 p34x_148_s ck_S0) (ck_E1 (ck_S1 p34x_311_s ck_S0) (ck_E1 (ck_S1 p34x_323_s (ck_S1 p34x_324_s ck_S0)) ck_E0)))) ck_X0 ck_l0 p34x_325_e
set_option maxRecDepth 100000 in
def p34x_326 : ck_Sum := ((4, 0, 0), 245, [.inr (.inr (.inl 1)), .inl (ck_one 8), .inl (ck_one 1), .inr (.inr (.inl 245))], ([], [], [(222, 1, 1, ck_one 6), (222, 0, 0, ck_one 30), (222, 3, 3, ck_one 0), (1, 15, 15, ck_one 0), (220, 0, 0, ck_one 24), (220, 3, 3, ck_one 0), (10, 3, 3, ck_one 0), (3, 0, 0, ck_one 3), (223, 0, 179, ck_one 0)]), ([(1, 15, 15), (220, 3, 3), (221, 0, 47), (222, 3, 3), (223, 0, 179), (245, 0, 0)], []), [(.inr (some (.inl (ck_one 0))), 245, ([], [], [(245, 0, 0, ck_one 0), (222, 3, 3, ck_one 8), (1, 15, 15, ck_one 1), (220, 3, 3, ck_one 0), (223, 0, 179, ck_one 0)]))])
set_option maxRecDepth 100000 in
theorem p34x_326_e : ck_ok p1_O none [] [(218, [p34x_325])] 217 [] 92 p34x_326 = true := by decide +kernel
theorem p34x_326_s {X : Int → Int} {LX : Nat} : ck_Ok p1_O X LX 217 p34x_326 := ck_ok_s (ck_E1 (ck_S1 p34x_325_s ck_S0) ck_E0) ck_X0 ck_l0 p34x_326_e
set_option maxRecDepth 100000 in
def p34x_332 : ck_Sum := ((3, 0, 0), 245, [.inr (.inr (.inl 1)), .inl (ck_one 8), .inl (ck_one 0)], ([], [], [(222, 1, 1, ck_one 6), (222, 0, 0, ck_one 30), (222, 3, 3, ck_one 0), (1, 15, 15, ck_one 0), (220, 0, 0, ck_one 24), (220, 3, 3, ck_one 0), (10, 3, 3, ck_one 0), (3, 0, 0, ck_one 3), (223, 0, 179, ck_one 0)]), ([(1, 15, 15), (220, 3, 3), (221, 0, 47), (222, 3, 3), (223, 0, 179)], []), [(.inr (some (.inl (ck_one 0))), 245, ([], [], [(222, 3, 3, ck_one 8), (1, 15, 15, ck_one 1), (220, 3, 3, ck_one 0), (223, 0, 179, ck_one 0)]))])
set_option maxRecDepth 100000 in
theorem p34x_332_e : ck_ok p1_O none [] [(214, [p34x_309]), (24, [p34x_148]), (215, [p34x_311]), (219, [p34x_324, p34x_323])] 218 [(19, [some (.inr (.inr (.inl 1))), some (.inl (ck_one 8)), some (.inl (ck_one 0)), some (.inl (ck_one 0)), some (.inl (1, 3, none))], ([], [], [(222, 3, 3, ck_one 8), (223, 0, 179, ck_one 0), (1, 15, 15, ck_one 1), (220, 3, 3, ck_one 0), (222, 1, 1, ck_one 6), (222, 0, 0, ck_one 30), (220, 0, 0, ck_one 24), (10, 3, 3, ck_one 0), (3, 0, 0, ck_one 3)]), 100, .inl 4, true)] 158 p34x_332 = true := by decide +kernel
theorem p34x_332_s {X : Int → Int} {LX : Nat} : ck_Ok p1_O X LX 218 p34x_332 := ck_ok_s (ck_E1 (ck_S1 p34x_309_s ck_S0) (ck_E1 (ck_S1 p34x_148_s ck_S0) (ck_E1 (ck_S1 p34x_311_s ck_S0) (ck_E1 (ck_S1 p34x_324_s (ck_S1 p34x_323_s ck_S0)) ck_E0)))) ck_X0 ck_l0 p34x_332_e
set_option maxRecDepth 100000 in
def p34x_333 : ck_Sum := ((4, 0, 0), 245, [.inr (.inr (.inl 1)), .inl (ck_one 8), .inl (ck_one 0), .inr (.inr (.inl 245))], ([], [], [(222, 1, 1, ck_one 6), (222, 0, 0, ck_one 30), (222, 3, 3, ck_one 0), (1, 15, 15, ck_one 0), (220, 0, 0, ck_one 24), (220, 3, 3, ck_one 0), (10, 3, 3, ck_one 0), (3, 0, 0, ck_one 3), (223, 0, 179, ck_one 0)]), ([(1, 15, 15), (220, 3, 3), (221, 0, 47), (222, 3, 3), (223, 0, 179), (245, 0, 0)], []), [(.inr (some (.inl (ck_one 0))), 245, ([], [], [(245, 0, 0, ck_one 0), (222, 3, 3, ck_one 8), (1, 15, 15, ck_one 1), (220, 3, 3, ck_one 0), (223, 0, 179, ck_one 0)]))])
set_option maxRecDepth 100000 in
theorem p34x_333_e : ck_ok p1_O none [] [(218, [p34x_332])] 217 [] 92 p34x_333 = true := by decide +kernel
theorem p34x_333_s {X : Int → Int} {LX : Nat} : ck_Ok p1_O X LX 217 p34x_333 := ck_ok_s (ck_E1 (ck_S1 p34x_332_s ck_S0) ck_E0) ck_X0 ck_l0 p34x_333_e
set_option maxRecDepth 100000 in
def p34x_335 : ck_Sum := ((0, 0, 0), 245, [.inr (.inr (.inl 1)), .inl (ck_one 9)], ([], [], []), ([], []), [(.inr none, 245, ([], [], []))])
set_option maxRecDepth 100000 in
theorem p34x_335_e : ck_ok p1_O none [] [] 214 [] 84 p34x_335 = true := by decide +kernel
theorem p34x_335_s {X : Int → Int} {LX : Nat} : ck_Ok p1_O X LX 214 p34x_335 := ck_ok_s (ck_E0) ck_X0 ck_l0 p34x_335_e
set_option maxRecDepth 100000 in
def p34x_336 : ck_Sum := ((1, 0, 0), 245, [.inr (.inr (.inl 222)), .inl (ck_one 9)], ([], [], [(222, 0, 0, ck_one 30), (223, 0, 179, ck_one 0)]), ([(222, 3, 3), (223, 0, 179)], []), [(.inr none, 245, ([], [], [(222, 3, 3, ck_one 9), (223, 0, 179, ck_one 0)]))])
set_option maxRecDepth 100000 in
theorem p34x_336_e : ck_ok p1_O none [] [(8, [p34x_149])] 25 [] 96 p34x_336 = true := by decide +kernel
theorem p34x_336_s {X : Int → Int} {LX : Nat} : ck_Ok p1_O X LX 25 p34x_336 := ck_ok_s (ck_E1 (ck_S1 p34x_149_s ck_S0) ck_E0) ck_X0 ck_l0 p34x_336_e
set_option maxRecDepth 100000 in
def p34x_337 : ck_Sum := ((2, 0, 0), 245, [.inr (.inr (.inl 1)), .inl (ck_one 9)], ([], [], [(220, 3, 3, ck_one 0), (222, 0, 0, ck_one 30), (222, 3, 3, ck_one 0), (223, 0, 179, ck_one 0)]), ([(222, 3, 3), (223, 0, 179)], []), [(.inr none, 245, ([], [], [(222, 3, 3, ck_one 9), (223, 0, 179, ck_one 0)]))])
set_option maxRecDepth 100000 in
theorem p34x_337_e : ck_ok p1_O none [] [(25, [p34x_336]), (9, [p34x_147])] 215 [(10, [some (.inr (.inr (.inl 1))), some (.inl (ck_one 9)), some (.inl (ck_one 0)), none, none], ([], [], [(222, 3, 3, ck_one 9), (223, 0, 179, ck_one 0), (220, 3, 3, ck_one 0), (222, 0, 0, ck_one 30)]), 100, .inl 2, true)] 118 p34x_337 = true := by decide +kernel
theorem p34x_337_s {X : Int → Int} {LX : Nat} : ck_Ok p1_O X LX 215 p34x_337 := ck_ok_s (ck_E1 (ck_S1 p34x_336_s ck_S0) (ck_E1 (ck_S1 p34x_147_s ck_S0) ck_E0)) ck_X0 ck_l0 p34x_337_e
set_option maxRecDepth 100000 in
def p34x_348 : ck_Sum := ((0, 0, 0), 245, [.inr (.inr (.inl 222)), .inl (0, 8, none), .inl (0, 2, none)], ([], [], [(222, 3, 3, ck_one 9), (223, 0, 179, ck_one 0), (222, 1, 1, ck_one 6)]), ([], []), [(.inr (some (.inl (ck_one 0))), 245, ([], [], []))])
set_option maxRecDepth 100000 in
theorem p34x_348_e : ck_ok p1_O none [] [] 10 [] 114 p34x_348 = true := by decide +kernel
theorem p34x_348_s {X : Int → Int} {LX : Nat} : ck_Ok p1_O X LX 10 p34x_348 := ck_ok_s (ck_E0) ck_X0 ck_l0 p34x_348_e
set_option maxRecDepth 100000 in
def p34x_350 : ck_Sum := ((1, 0, 0), 245, [.inr (.inr (.inl 1)), .inl (ck_one 0), .inl (ck_one 9)], ([], [], [(222, 3, 3, ck_one 9), (223, 0, 179, ck_one 0), (222, 1, 1, ck_one 6), (3, 0, 0, ck_one 3)]), ([], []), [(.inr (some (.inl (ck_one 0))), 245, ([], [], []))])
set_option maxRecDepth 100000 in
theorem p34x_350_e : ck_ok p1_O none [] [(10, [p34x_348])] 219 [(5, [some (.inr (.inr (.inl 1))), some (.inl (ck_one 0)), some (.inl (ck_one 9)), some (.inl (ck_one 0)), some (.inl (0, 3, none)), none, none], ([], [], [(222, 3, 3, ck_one 9), (223, 0, 179, ck_one 0), (222, 1, 1, ck_one 6), (3, 0, 0, ck_one 3)]), 100, .inl 4, true), (23, [some (.inr (.inr (.inl 1))), some (.inl (ck_one 0)), some (.inl (ck_one 9)), some (.inl (ck_one 0)), some (.inl (0, 2, some (100, 0))), some (.inl (ck_one 0)), some (.inl (0, 9, none))], ([], [], [(222, 3, 3, ck_one 9), (223, 0, 179, ck_one 0), (222, 1, 1, ck_one 6), (3, 0, 0, ck_one 3)]), 300, .inl 6, true)] 194 p34x_350 = true := by decide +kernel
theorem p34x_350_s {X : Int → Int} {LX : Nat} : ck_Ok p1_O X LX 219 p34x_350 := ck_ok_s (ck_E1 (ck_S1 p34x_348_s ck_S0) ck_E0) ck_X0 ck_l0 p34x_350_e
set_option maxRecDepth 100000 in
def p34x_351 : ck_Sum := ((1, 0, 0), 245, [.inr (.inr (.inl 1)), .inl (1, 2, none), .inl (ck_one 9)], ([], [], [(222, 3, 3, ck_one 9), (223, 0, 179, ck_one 0), (222, 1, 1, ck_one 6), (3, 0, 0, ck_one 3)]), ([], []), [(.inr (some (.inl (ck_one 0))), 245, ([], [], []))])
set_option maxRecDepth 100000 in
theorem p34x_351_e : ck_ok p1_O none [] [(10, [p34x_348])] 219 [(5, [some (.inr (.inr (.inl 1))), some (.inl (1, 2, none)), some (.inl (ck_one 9)), some (.inl (ck_one 0)), some (.inl (0, 3, none)), none, none], ([], [], [(222, 3, 3, ck_one 9), (223, 0, 179, ck_one 0), (222, 1, 1, ck_one 6), (3, 0, 0, ck_one 3)]), 100, .inl 4, true), (23, [some (.inr (.inr (.inl 1))), some (.inl (1, 2, none)), some (.inl (ck_one 9)), some (.inl (ck_one 0)), some (.inl (0, 2, some (100, 0))), some (.inl (ck_one 0)), some (.inl (0, 9, none))], ([], [], [(222, 3, 3, ck_one 9), (223, 0, 179, ck_one 0), (222, 1, 1, ck_one 6), (3, 0, 0, ck_one 3)]), 300, .inl 6, true)] 194 p34x_351 = true := by decide +kernel
theorem p34x_351_s {X : Int → Int} {LX : Nat} : ck_Ok p1_O X LX 219 p34x_351 := ck_ok_s (ck_E1 (ck_S1 p34x_348_s ck_S0) ck_E0) ck_X0 ck_l0 p34x_351_e
set_option maxRecDepth 100000 in
def p34x_352 : ck_Sum := ((3, 0, 0), 245, [.inr (.inr (.inl 1)), .inl (ck_one 9), .inl (ck_one 1)], ([], [], [(222, 1, 1, ck_one 6), (222, 0, 0, ck_one 30), (222, 3, 3, ck_one 0), (1, 15, 15, ck_one 0), (220, 0, 0, ck_one 24), (220, 3, 3, ck_one 0), (10, 3, 3, ck_one 0), (3, 0, 0, ck_one 3), (223, 0, 179, ck_one 0)]), ([(1, 15, 15), (220, 3, 3), (221, 0, 47), (222, 3, 3), (223, 0, 179)], []), [(.inr (some (.inl (ck_one 0))), 245, ([], [], [(222, 3, 3, ck_one 9), (1, 15, 15, ck_one 1), (220, 3, 3, ck_one 0), (223, 0, 179, ck_one 0)]))])
set_option maxRecDepth 100000 in
theorem p34x_352_e : ck_ok p1_O none [] [(214, [p34x_335]), (24, [p34x_148]), (215, [p34x_337]), (219, [p34x_350, p34x_351])] 218 [(19, [some (.inr (.inr (.inl 1))), some (.inl (ck_one 9)), some (.inl (ck_one 1)), some (.inl (ck_one 0)), some (.inl (1, 3, none))], ([], [], [(222, 3, 3, ck_one 9), (223, 0, 179, ck_one 0), (1, 15, 15, ck_one 1), (220, 3, 3, ck_one 0), (222, 1, 1, ck_one 6), (222, 0, 0, ck_one 30), (220, 0, 0, ck_one 24), (10, 3, 3, ck_one 0), (3, 0, 0, ck_one 3)]), 100, .inl 4, true)] 158 p34x_352 = true := by decide +kernel
theorem p34x_352_s {X : Int → Int} {LX : Nat} : ck_Ok p1_O X LX 218 p34x_352 := ck_ok_s (ck_E1 (ck_S1 p34x_335_s ck_S0) (ck_E1 (ck_S1 p34x_148_s ck_S0) (ck_E1 (ck_S1 p34x_337_s ck_S0) (ck_E1 (ck_S1 p34x_350_s (ck_S1 p34x_351_s ck_S0)) ck_E0)))) ck_X0 ck_l0 p34x_352_e
set_option maxRecDepth 100000 in
def p34x_353 : ck_Sum := ((4, 0, 0), 245, [.inr (.inr (.inl 1)), .inl (ck_one 9), .inl (ck_one 1), .inr (.inr (.inl 245))], ([], [], [(222, 1, 1, ck_one 6), (222, 0, 0, ck_one 30), (222, 3, 3, ck_one 0), (1, 15, 15, ck_one 0), (220, 0, 0, ck_one 24), (220, 3, 3, ck_one 0), (10, 3, 3, ck_one 0), (3, 0, 0, ck_one 3), (223, 0, 179, ck_one 0)]), ([(1, 15, 15), (220, 3, 3), (221, 0, 47), (222, 3, 3), (223, 0, 179), (245, 0, 0)], []), [(.inr (some (.inl (ck_one 0))), 245, ([], [], [(245, 0, 0, ck_one 0), (222, 3, 3, ck_one 9), (1, 15, 15, ck_one 1), (220, 3, 3, ck_one 0), (223, 0, 179, ck_one 0)]))])
set_option maxRecDepth 100000 in
theorem p34x_353_e : ck_ok p1_O none [] [(218, [p34x_352])] 217 [] 92 p34x_353 = true := by decide +kernel
theorem p34x_353_s {X : Int → Int} {LX : Nat} : ck_Ok p1_O X LX 217 p34x_353 := ck_ok_s (ck_E1 (ck_S1 p34x_352_s ck_S0) ck_E0) ck_X0 ck_l0 p34x_353_e
set_option maxRecDepth 100000 in
def p34x_359 : ck_Sum := ((3, 0, 0), 245, [.inr (.inr (.inl 1)), .inl (ck_one 9), .inl (ck_one 0)], ([], [], [(222, 1, 1, ck_one 6), (222, 0, 0, ck_one 30), (222, 3, 3, ck_one 0), (1, 15, 15, ck_one 0), (220, 0, 0, ck_one 24), (220, 3, 3, ck_one 0), (10, 3, 3, ck_one 0), (3, 0, 0, ck_one 3), (223, 0, 179, ck_one 0)]), ([(1, 15, 15), (220, 3, 3), (221, 0, 47), (222, 3, 3), (223, 0, 179)], []), [(.inr (some (.inl (ck_one 0))), 245, ([], [], [(222, 3, 3, ck_one 9), (1, 15, 15, ck_one 1), (220, 3, 3, ck_one 0), (223, 0, 179, ck_one 0)]))])
set_option maxRecDepth 100000 in
theorem p34x_359_e : ck_ok p1_O none [] [(214, [p34x_335]), (24, [p34x_148]), (215, [p34x_337]), (219, [p34x_351, p34x_350])] 218 [(19, [some (.inr (.inr (.inl 1))), some (.inl (ck_one 9)), some (.inl (ck_one 0)), some (.inl (ck_one 0)), some (.inl (1, 3, none))], ([], [], [(222, 3, 3, ck_one 9), (223, 0, 179, ck_one 0), (1, 15, 15, ck_one 1), (220, 3, 3, ck_one 0), (222, 1, 1, ck_one 6), (222, 0, 0, ck_one 30), (220, 0, 0, ck_one 24), (10, 3, 3, ck_one 0), (3, 0, 0, ck_one 3)]), 100, .inl 4, true)] 158 p34x_359 = true := by decide +kernel
theorem p34x_359_s {X : Int → Int} {LX : Nat} : ck_Ok p1_O X LX 218 p34x_359 := ck_ok_s (ck_E1 (ck_S1 p34x_335_s ck_S0) (ck_E1 (ck_S1 p34x_148_s ck_S0) (ck_E1 (ck_S1 p34x_337_s ck_S0) (ck_E1 (ck_S1 p34x_351_s (ck_S1 p34x_350_s ck_S0)) ck_E0)))) ck_X0 ck_l0 p34x_359_e
set_option maxRecDepth 100000 in
def p34x_360 : ck_Sum := ((4, 0, 0), 245, [.inr (.inr (.inl 1)), .inl (ck_one 9), .inl (ck_one 0), .inr (.inr (.inl 245))], ([], [], [(222, 1, 1, ck_one 6), (222, 0, 0, ck_one 30), (222, 3, 3, ck_one 0), (1, 15, 15, ck_one 0), (220, 0, 0, ck_one 24), (220, 3, 3, ck_one 0), (10, 3, 3, ck_one 0), (3, 0, 0, ck_one 3), (223, 0, 179, ck_one 0)]), ([(1, 15, 15), (220, 3, 3), (221, 0, 47), (222, 3, 3), (223, 0, 179), (245, 0, 0)], []), [(.inr (some (.inl (ck_one 0))), 245, ([], [], [(245, 0, 0, ck_one 0), (222, 3, 3, ck_one 9), (1, 15, 15, ck_one 1), (220, 3, 3, ck_one 0), (223, 0, 179, ck_one 0)]))])
set_option maxRecDepth 100000 in
theorem p34x_360_e : ck_ok p1_O none [] [(218, [p34x_359])] 217 [] 92 p34x_360 = true := by decide +kernel
theorem p34x_360_s {X : Int → Int} {LX : Nat} : ck_Ok p1_O X LX 217 p34x_360 := ck_ok_s (ck_E1 (ck_S1 p34x_359_s ck_S0) ck_E0) ck_X0 ck_l0 p34x_360_e
set_option maxRecDepth 100000 in
def p34x_362 : ck_Sum := ((0, 0, 0), 245, [.inr (.inr (.inl 1)), .inl (ck_one 10)], ([], [], []), ([], []), [(.inr none, 245, ([], [], []))])
set_option maxRecDepth 100000 in
theorem p34x_362_e : ck_ok p1_O none [] [] 214 [] 84 p34x_362 = true := by decide +kernel
theorem p34x_362_s {X : Int → Int} {LX : Nat} : ck_Ok p1_O X LX 214 p34x_362 := ck_ok_s (ck_E0) ck_X0 ck_l0 p34x_362_e
set_option maxRecDepth 100000 in
def p34x_363 : ck_Sum := ((1, 0, 0), 245, [.inr (.inr (.inl 222)), .inl (ck_one 10)], ([], [], [(222, 0, 0, ck_one 30), (223, 0, 179, ck_one 0)]), ([(222, 3, 3), (223, 0, 179)], []), [(.inr none, 245, ([], [], [(222, 3, 3, ck_one 10), (223, 0, 179, ck_one 0)]))])
set_option maxRecDepth 100000 in
theorem p34x_363_e : ck_ok p1_O none [] [(8, [p34x_149])] 25 [] 96 p34x_363 = true := by decide +kernel
theorem p34x_363_s {X : Int → Int} {LX : Nat} : ck_Ok p1_O X LX 25 p34x_363 := ck_ok_s (ck_E1 (ck_S1 p34x_149_s ck_S0) ck_E0) ck_X0 ck_l0 p34x_363_e
set_option maxRecDepth 100000 in
def p34x_364 : ck_Sum := ((2, 0, 0), 245, [.inr (.inr (.inl 1)), .inl (ck_one 10)], ([], [], [(220, 3, 3, ck_one 0), (222, 0, 0, ck_one 30), (222, 3, 3, ck_one 0), (223, 0, 179, ck_one 0)]), ([(222, 3, 3), (223, 0, 179)], []), [(.inr none, 245, ([], [], [(222, 3, 3, ck_one 10), (223, 0, 179, ck_one 0)]))])
set_option maxRecDepth 100000 in
theorem p34x_364_e : ck_ok p1_O none [] [(25, [p34x_363]), (9, [p34x_147])] 215 [(10, [some (.inr (.inr (.inl 1))), some (.inl (ck_one 10)), some (.inl (ck_one 0)), none, none], ([], [], [(222, 3, 3, ck_one 10), (223, 0, 179, ck_one 0), (220, 3, 3, ck_one 0), (222, 0, 0, ck_one 30)]), 100, .inl 2, true)] 118 p34x_364 = true := by decide +kernel
theorem p34x_364_s {X : Int → Int} {LX : Nat} : ck_Ok p1_O X LX 215 p34x_364 := ck_ok_s (ck_E1 (ck_S1 p34x_363_s ck_S0) (ck_E1 (ck_S1 p34x_147_s ck_S0) ck_E0)) ck_X0 ck_l0 p34x_364_e
set_option maxRecDepth 100000 in
def p34x_376 : ck_Sum := ((0, 0, 0), 245, [.inr (.inr (.inl 222)), .inl (0, 9, none), .inl (0, 2, none)], ([], [], [(222, 3, 3, ck_one 10), (223, 0, 179, ck_one 0), (222, 1, 1, ck_one 6)]), ([], []), [(.inr (some (.inl (ck_one 0))), 245, ([], [], []))])
set_option maxRecDepth 100000 in
theorem p34x_376_e : ck_ok p1_O none [] [] 10 [] 114 p34x_376 = true := by decide +kernel
theorem p34x_376_s {X : Int → Int} {LX : Nat} : ck_Ok p1_O X LX 10 p34x_376 := ck_ok_s (ck_E0) ck_X0 ck_l0 p34x_376_e
set_option maxRecDepth 100000 in
def p34x_378 : ck_Sum := ((1, 0, 0), 245, [.inr (.inr (.inl 1)), .inl (ck_one 0), .inl (ck_one 10)], ([], [], [(222, 3, 3, ck_one 10), (223, 0, 179, ck_one 0), (222, 1, 1, ck_one 6), (3, 0, 0, ck_one 3)]), ([], []), [(.inr (some (.inl (ck_one 0))), 245, ([], [], []))])
set_option maxRecDepth 100000 in
theorem p34x_378_e : ck_ok p1_O none [] [(10, [p34x_376])] 219 [(5, [some (.inr (.inr (.inl 1))), some (.inl (ck_one 0)), some (.inl (ck_one 10)), some (.inl (ck_one 0)), some (.inl (0, 3, none)), none, none], ([], [], [(222, 3, 3, ck_one 10), (223, 0, 179, ck_one 0), (222, 1, 1, ck_one 6), (3, 0, 0, ck_one 3)]), 100, .inl 4, true), (23, [some (.inr (.inr (.inl 1))), some (.inl (ck_one 0)), some (.inl (ck_one 10)), some (.inl (ck_one 0)), some (.inl (0, 2, some (100, 0))), some (.inl (ck_one 0)), some (.inl (0, 10, none))], ([], [], [(222, 3, 3, ck_one 10), (223, 0, 179, ck_one 0), (222, 1, 1, ck_one 6), (3, 0, 0, ck_one 3)]), 300, .inl 6, true)] 194 p34x_378 = true := by decide +kernel
theorem p34x_378_s {X : Int → Int} {LX : Nat} : ck_Ok p1_O X LX 219 p34x_378 := ck_ok_s (ck_E1 (ck_S1 p34x_376_s ck_S0) ck_E0) ck_X0 ck_l0 p34x_378_e
set_option maxRecDepth 100000 in
def p34x_379 : ck_Sum := ((1, 0, 0), 245, [.inr (.inr (.inl 1)), .inl (1, 2, none), .inl (ck_one 10)], ([], [], [(222, 3, 3, ck_one 10), (223, 0, 179, ck_one 0), (222, 1, 1, ck_one 6), (3, 0, 0, ck_one 3)]), ([], []), [(.inr (some (.inl (ck_one 0))), 245, ([], [], []))])
set_option maxRecDepth 100000 in
theorem p34x_379_e : ck_ok p1_O none [] [(10, [p34x_376])] 219 [(5, [some (.inr (.inr (.inl 1))), some (.inl (1, 2, none)), some (.inl (ck_one 10)), some (.inl (ck_one 0)), some (.inl (0, 3, none)), none, none], ([], [], [(222, 3, 3, ck_one 10), (223, 0, 179, ck_one 0), (222, 1, 1, ck_one 6), (3, 0, 0, ck_one 3)]), 100, .inl 4, true), (23, [some (.inr (.inr (.inl 1))), some (.inl (1, 2, none)), some (.inl (ck_one 10)), some (.inl (ck_one 0)), some (.inl (0, 2, some (100, 0))), some (.inl (ck_one 0)), some (.inl (0, 10, none))], ([], [], [(222, 3, 3, ck_one 10), (223, 0, 179, ck_one 0), (222, 1, 1, ck_one 6), (3, 0, 0, ck_one 3)]), 300, .inl 6, true)] 194 p34x_379 = true := by decide +kernel
theorem p34x_379_s {X : Int → Int} {LX : Nat} : ck_Ok p1_O X LX 219 p34x_379 := ck_ok_s (ck_E1 (ck_S1 p34x_376_s ck_S0) ck_E0) ck_X0 ck_l0 p34x_379_e
set_option maxRecDepth 100000 in
def p34x_380 : ck_Sum := ((3, 0, 0), 245, [.inr (.inr (.inl 1)), .inl (ck_one 10), .inl (ck_one 1)], ([], [], [(222, 1, 1, ck_one 6), (222, 0, 0, ck_one 30), (222, 3, 3, ck_one 0), (1, 15, 15, ck_one 0), (220, 0, 0, ck_one 24), (220, 3, 3, ck_one 0), (10, 3, 3, ck_one 0), (3, 0, 0, ck_one 3), (223, 0, 179, ck_one 0)]), ([(1, 15, 15), (220, 3, 3), (221, 0, 47), (222, 3, 3), (223, 0, 179)], []), [(.inr (some (.inl (ck_one 0))), 245, ([], [], [(222, 3, 3, ck_one 10), (1, 15, 15, ck_one 1), (220, 3, 3, ck_one 0), (223, 0, 179, ck_one 0)]))])
set_option maxRecDepth 100000 in
theorem p34x_380_e : ck_ok p1_O none [] [(214, [p34x_362]), (24, [p34x_148]), (215, [p34x_364]), (219, [p34x_378, p34x_379])] 218 [(19, [some (.inr (.inr (.inl 1))), some (.inl (ck_one 10)), some (.inl (ck_one 1)), some (.inl (ck_one 0)), some (.inl (1, 3, none))], ([], [], [(222, 3, 3, ck_one 10), (223, 0, 179, ck_one 0), (1, 15, 15, ck_one 1), (220, 3, 3, ck_one 0), (222, 1, 1, ck_one 6), (222, 0, 0, ck_one 30), (220, 0, 0, ck_one 24), (10, 3, 3, ck_one 0), (3, 0, 0, ck_one 3)]), 100, .inl 4, true)] 158 p34x_380 = true := by decide +kernel
theorem p34x_380_s {X : Int → Int} {LX : Nat} : ck_Ok p1_O X LX 218 p34x_380 := ck_ok_s (ck_E1 (ck_S1 p34x_362_s ck_S0) (ck_E1 (ck_S1 p34x_148_s ck_S0) (ck_E1 (ck_S1 p34x_364_s ck_S0) (ck_E1 (ck_S1 p34x_378_s (ck_S1 p34x_379_s ck_S0)) ck_E0)))) ck_X0 ck_l0 p34x_380_e
set_option maxRecDepth 100000 in
def p34x_381 : ck_Sum := ((4, 0, 0), 245, [.inr (.inr (.inl 1)), .inl (ck_one 10), .inl (ck_one 1), .inr (.inr (.inl 245))], ([], [], [(222, 1, 1, ck_one 6), (222, 0, 0, ck_one 30), (222, 3, 3, ck_one 0), (1, 15, 15, ck_one 0), (220, 0, 0, ck_one 24), (220, 3, 3, ck_one 0), (10, 3, 3, ck_one 0), (3, 0, 0, ck_one 3), (223, 0, 179, ck_one 0)]), ([(1, 15, 15), (220, 3, 3), (221, 0, 47), (222, 3, 3), (223, 0, 179), (245, 0, 0)], []), [(.inr (some (.inl (ck_one 0))), 245, ([], [], [(245, 0, 0, ck_one 0), (222, 3, 3, ck_one 10), (1, 15, 15, ck_one 1), (220, 3, 3, ck_one 0), (223, 0, 179, ck_one 0)]))])
set_option maxRecDepth 100000 in
theorem p34x_381_e : ck_ok p1_O none [] [(218, [p34x_380])] 217 [] 92 p34x_381 = true := by decide +kernel
theorem p34x_381_s {X : Int → Int} {LX : Nat} : ck_Ok p1_O X LX 217 p34x_381 := ck_ok_s (ck_E1 (ck_S1 p34x_380_s ck_S0) ck_E0) ck_X0 ck_l0 p34x_381_e
set_option maxRecDepth 100000 in
def p34x_387 : ck_Sum := ((3, 0, 0), 245, [.inr (.inr (.inl 1)), .inl (ck_one 10), .inl (ck_one 0)], ([], [], [(222, 1, 1, ck_one 6), (222, 0, 0, ck_one 30), (222, 3, 3, ck_one 0), (1, 15, 15, ck_one 0), (220, 0, 0, ck_one 24), (220, 3, 3, ck_one 0), (10, 3, 3, ck_one 0), (3, 0, 0, ck_one 3), (223, 0, 179, ck_one 0)]), ([(1, 15, 15), (220, 3, 3), (221, 0, 47), (222, 3, 3), (223, 0, 179)], []), [(.inr (some (.inl (ck_one 0))), 245, ([], [], [(222, 3, 3, ck_one 10), (1, 15, 15, ck_one 1), (220, 3, 3, ck_one 0), (223, 0, 179, ck_one 0)]))])
set_option maxRecDepth 100000 in
theorem p34x_387_e : ck_ok p1_O none [] [(214, [p34x_362]), (24, [p34x_148]), (215, [p34x_364]), (219, [p34x_379, p34x_378])] 218 [(19, [some (.inr (.inr (.inl 1))), some (.inl (ck_one 10)), some (.inl (ck_one 0)), some (.inl (ck_one 0)), some (.inl (1, 3, none))], ([], [], [(222, 3, 3, ck_one 10), (223, 0, 179, ck_one 0), (1, 15, 15, ck_one 1), (220, 3, 3, ck_one 0), (222, 1, 1, ck_one 6), (222, 0, 0, ck_one 30), (220, 0, 0, ck_one 24), (10, 3, 3, ck_one 0), (3, 0, 0, ck_one 3)]), 100, .inl 4, true)] 158 p34x_387 = true := by decide +kernel
theorem p34x_387_s {X : Int → Int} {LX : Nat} : ck_Ok p1_O X LX 218 p34x_387 := ck_ok_s (ck_E1 (ck_S1 p34x_362_s ck_S0) (ck_E1 (ck_S1 p34x_148_s ck_S0) (ck_E1 (ck_S1 p34x_364_s ck_S0) (ck_E1 (ck_S1 p34x_379_s (ck_S1 p34x_378_s ck_S0)) ck_E0)))) ck_X0 ck_l0 p34x_387_e
set_option maxRecDepth 100000 in
def p34x_388 : ck_Sum := ((4, 0, 0), 245, [.inr (.inr (.inl 1)), .inl (ck_one 10), .inl (ck_one 0), .inr (.inr (.inl 245))], ([], [], [(222, 1, 1, ck_one 6), (222, 0, 0, ck_one 30), (222, 3, 3, ck_one 0), (1, 15, 15, ck_one 0), (220, 0, 0, ck_one 24), (220, 3, 3, ck_one 0), (10, 3, 3, ck_one 0), (3, 0, 0, ck_one 3), (223, 0, 179, ck_one 0)]), ([(1, 15, 15), (220, 3, 3), (221, 0, 47), (222, 3, 3), (223, 0, 179), (245, 0, 0)], []), [(.inr (some (.inl (ck_one 0))), 245, ([], [], [(245, 0, 0, ck_one 0), (222, 3, 3, ck_one 10), (1, 15, 15, ck_one 1), (220, 3, 3, ck_one 0), (223, 0, 179, ck_one 0)]))])
set_option maxRecDepth 100000 in
theorem p34x_388_e : ck_ok p1_O none [] [(218, [p34x_387])] 217 [] 92 p34x_388 = true := by decide +kernel
theorem p34x_388_s {X : Int → Int} {LX : Nat} : ck_Ok p1_O X LX 217 p34x_388 := ck_ok_s (ck_E1 (ck_S1 p34x_387_s ck_S0) ck_E0) ck_X0 ck_l0 p34x_388_e
set_option maxRecDepth 100000 in
def p34x_390 : ck_Sum := ((0, 0, 0), 245, [.inr (.inr (.inl 1)), .inl (ck_one 11)], ([], [], []), ([], []), [(.inr none, 245, ([], [], []))])
set_option maxRecDepth 100000 in
theorem p34x_390_e : ck_ok p1_O none [] [] 214 [] 84 p34x_390 = true := by decide +kernel
theorem p34x_390_s {X : Int → Int} {LX : Nat} : ck_Ok p1_O X LX 214 p34x_390 := ck_ok_s (ck_E0) ck_X0 ck_l0 p34x_390_e
set_option maxRecDepth 100000 in
def p34x_391 : ck_Sum := ((1, 0, 0), 245, [.inr (.inr (.inl 222)), .inl (ck_one 11)], ([], [], [(222, 0, 0, ck_one 30), (223, 0, 179, ck_one 0)]), ([(222, 3, 3), (223, 0, 179)], []), [(.inr none, 245, ([], [], [(222, 3, 3, ck_one 11), (223, 0, 179, ck_one 0)]))])
set_option maxRecDepth 100000 in
theorem p34x_391_e : ck_ok p1_O none [] [(8, [p34x_149])] 25 [] 96 p34x_391 = true := by decide +kernel
theorem p34x_391_s {X : Int → Int} {LX : Nat} : ck_Ok p1_O X LX 25 p34x_391 := ck_ok_s (ck_E1 (ck_S1 p34x_149_s ck_S0) ck_E0) ck_X0 ck_l0 p34x_391_e
set_option maxRecDepth 100000 in
def p34x_392 : ck_Sum := ((2, 0, 0), 245, [.inr (.inr (.inl 1)), .inl (ck_one 11)], ([], [], [(220, 3, 3, ck_one 0), (222, 0, 0, ck_one 30), (222, 3, 3, ck_one 0), (223, 0, 179, ck_one 0)]), ([(222, 3, 3), (223, 0, 179)], []), [(.inr none, 245, ([], [], [(222, 3, 3, ck_one 11), (223, 0, 179, ck_one 0)]))])
set_option maxRecDepth 100000 in
theorem p34x_392_e : ck_ok p1_O none [] [(25, [p34x_391]), (9, [p34x_147])] 215 [(10, [some (.inr (.inr (.inl 1))), some (.inl (ck_one 11)), some (.inl (ck_one 0)), none, none], ([], [], [(222, 3, 3, ck_one 11), (223, 0, 179, ck_one 0), (220, 3, 3, ck_one 0), (222, 0, 0, ck_one 30)]), 100, .inl 2, true)] 118 p34x_392 = true := by decide +kernel
theorem p34x_392_s {X : Int → Int} {LX : Nat} : ck_Ok p1_O X LX 215 p34x_392 := ck_ok_s (ck_E1 (ck_S1 p34x_391_s ck_S0) (ck_E1 (ck_S1 p34x_147_s ck_S0) ck_E0)) ck_X0 ck_l0 p34x_392_e
set_option maxRecDepth 100000 in
def p34x_405 : ck_Sum := ((0, 0, 0), 245, [.inr (.inr (.inl 222)), .inl (0, 10, none), .inl (0, 2, none)], ([], [], [(222, 3, 3, ck_one 11), (223, 0, 179, ck_one 0), (222, 1, 1, ck_one 6)]), ([], []), [(.inr (some (.inl (ck_one 0))), 245, ([], [], []))])
set_option maxRecDepth 100000 in
theorem p34x_405_e : ck_ok p1_O none [] [] 10 [] 114 p34x_405 = true := by decide +kernel
theorem p34x_405_s {X : Int → Int} {LX : Nat} : ck_Ok p1_O X LX 10 p34x_405 := ck_ok_s (ck_E0) ck_X0 ck_l0 p34x_405_e
set_option maxRecDepth 100000 in
def p34x_407 : ck_Sum := ((1, 0, 0), 245, [.inr (.inr (.inl 1)), .inl (ck_one 0), .inl (ck_one 11)], ([], [], [(222, 3, 3, ck_one 11), (223, 0, 179, ck_one 0), (222, 1, 1, ck_one 6), (3, 0, 0, ck_one 3)]), ([], []), [(.inr (some (.inl (ck_one 0))), 245, ([], [], []))])
set_option maxRecDepth 100000 in
theorem p34x_407_e : ck_ok p1_O none [] [(10, [p34x_405])] 219 [(5, [some (.inr (.inr (.inl 1))), some (.inl (ck_one 0)), some (.inl (ck_one 11)), some (.inl (ck_one 0)), some (.inl (0, 3, none)), none, none], ([], [], [(222, 3, 3, ck_one 11), (223, 0, 179, ck_one 0), (222, 1, 1, ck_one 6), (3, 0, 0, ck_one 3)]), 100, .inl 4, true), (23, [some (.inr (.inr (.inl 1))), some (.inl (ck_one 0)), some (.inl (ck_one 11)), some (.inl (ck_one 0)), some (.inl (0, 2, some (100, 0))), some (.inl (ck_one 0)), some (.inl (0, 11, none))], ([], [], [(222, 3, 3, ck_one 11), (223, 0, 179, ck_one 0), (222, 1, 1, ck_one 6), (3, 0, 0, ck_one 3)]), 300, .inl 6, true)] 194 p34x_407 = true := by decide +kernel
theorem p34x_407_s {X : Int → Int} {LX : Nat} : ck_Ok p1_O X LX 219 p34x_407 := ck_ok_s (ck_E1 (ck_S1 p34x_405_s ck_S0) ck_E0) ck_X0 ck_l0 p34x_407_e
set_option maxRecDepth 100000 in
def p34x_408 : ck_Sum := ((1, 0, 0), 245, [.inr (.inr (.inl 1)), .inl (1, 2, none), .inl (ck_one 11)], ([], [], [(222, 3, 3, ck_one 11), (223, 0, 179, ck_one 0), (222, 1, 1, ck_one 6), (3, 0, 0, ck_one 3)]), ([], []), [(.inr (some (.inl (ck_one 0))), 245, ([], [], []))])
set_option maxRecDepth 100000 in
theorem p34x_408_e : ck_ok p1_O none [] [(10, [p34x_405])] 219 [(5, [some (.inr (.inr (.inl 1))), some (.inl (1, 2, none)), some (.inl (ck_one 11)), some (.inl (ck_one 0)), some (.inl (0, 3, none)), none, none], ([], [], [(222, 3, 3, ck_one 11), (223, 0, 179, ck_one 0), (222, 1, 1, ck_one 6), (3, 0, 0, ck_one 3)]), 100, .inl 4, true), (23, [some (.inr (.inr (.inl 1))), some (.inl (1, 2, none)), some (.inl (ck_one 11)), some (.inl (ck_one 0)), some (.inl (0, 2, some (100, 0))), some (.inl (ck_one 0)), some (.inl (0, 11, none))], ([], [], [(222, 3, 3, ck_one 11), (223, 0, 179, ck_one 0), (222, 1, 1, ck_one 6), (3, 0, 0, ck_one 3)]), 300, .inl 6, true)] 194 p34x_408 = true := by decide +kernel
theorem p34x_408_s {X : Int → Int} {LX : Nat} : ck_Ok p1_O X LX 219 p34x_408 := ck_ok_s (ck_E1 (ck_S1 p34x_405_s ck_S0) ck_E0) ck_X0 ck_l0 p34x_408_e
set_option maxRecDepth 100000 in
def p34x_409 : ck_Sum := ((3, 0, 0), 245, [.inr (.inr (.inl 1)), .inl (ck_one 11), .inl (ck_one 1)], ([], [], [(222, 1, 1, ck_one 6), (222, 0, 0, ck_one 30), (222, 3, 3, ck_one 0), (1, 15, 15, ck_one 0), (220, 0, 0, ck_one 24), (220, 3, 3, ck_one 0), (10, 3, 3, ck_one 0), (3, 0, 0, ck_one 3), (223, 0, 179, ck_one 0)]), ([(1, 15, 15), (220, 3, 3), (221, 0, 47), (222, 3, 3), (223, 0, 179)], []), [(.inr (some (.inl (ck_one 0))), 245, ([], [], [(222, 3, 3, ck_one 11), (1, 15, 15, ck_one 1), (220, 3, 3, ck_one 0), (223, 0, 179, ck_one 0)]))])
set_option maxRecDepth 100000 in
theorem p34x_409_e : ck_ok p1_O none [] [(214, [p34x_390]), (24, [p34x_148]), (215, [p34x_392]), (219, [p34x_407, p34x_408])] 218 [(19, [some (.inr (.inr (.inl 1))), some (.inl (ck_one 11)), some (.inl (ck_one 1)), some (.inl (ck_one 0)), some (.inl (1, 3, none))], ([], [], [(222, 3, 3, ck_one 11), (223, 0, 179, ck_one 0), (1, 15, 15, ck_one 1), (220, 3, 3, ck_one 0), (222, 1, 1, ck_one 6), (222, 0, 0, ck_one 30), (220, 0, 0, ck_one 24), (10, 3, 3, ck_one 0), (3, 0, 0, ck_one 3)]), 100, .inl 4, true)] 158 p34x_409 = true := by decide +kernel
theorem p34x_409_s {X : Int → Int} {LX : Nat} : ck_Ok p1_O X LX 218 p34x_409 := ck_ok_s (ck_E1 (ck_S1 p34x_390_s ck_S0) (ck_E1 (ck_S1 p34x_148_s ck_S0) (ck_E1 (ck_S1 p34x_392_s ck_S0) (ck_E1 (ck_S1 p34x_407_s (ck_S1 p34x_408_s ck_S0)) ck_E0)))) ck_X0 ck_l0 p34x_409_e
set_option maxRecDepth 100000 in
def p34x_410 : ck_Sum := ((4, 0, 0), 245, [.inr (.inr (.inl 1)), .inl (ck_one 11), .inl (ck_one 1), .inr (.inr (.inl 245))], ([], [], [(222, 1, 1, ck_one 6), (222, 0, 0, ck_one 30), (222, 3, 3, ck_one 0), (1, 15, 15, ck_one 0), (220, 0, 0, ck_one 24), (220, 3, 3, ck_one 0), (10, 3, 3, ck_one 0), (3, 0, 0, ck_one 3), (223, 0, 179, ck_one 0)]), ([(1, 15, 15), (220, 3, 3), (221, 0, 47), (222, 3, 3), (223, 0, 179), (245, 0, 0)], []), [(.inr (some (.inl (ck_one 0))), 245, ([], [], [(245, 0, 0, ck_one 0), (222, 3, 3, ck_one 11), (1, 15, 15, ck_one 1), (220, 3, 3, ck_one 0), (223, 0, 179, ck_one 0)]))])
set_option maxRecDepth 100000 in
theorem p34x_410_e : ck_ok p1_O none [] [(218, [p34x_409])] 217 [] 92 p34x_410 = true := by decide +kernel
theorem p34x_410_s {X : Int → Int} {LX : Nat} : ck_Ok p1_O X LX 217 p34x_410 := ck_ok_s (ck_E1 (ck_S1 p34x_409_s ck_S0) ck_E0) ck_X0 ck_l0 p34x_410_e
set_option maxRecDepth 100000 in
def p34x_416 : ck_Sum := ((3, 0, 0), 245, [.inr (.inr (.inl 1)), .inl (ck_one 11), .inl (ck_one 0)], ([], [], [(222, 1, 1, ck_one 6), (222, 0, 0, ck_one 30), (222, 3, 3, ck_one 0), (1, 15, 15, ck_one 0), (220, 0, 0, ck_one 24), (220, 3, 3, ck_one 0), (10, 3, 3, ck_one 0), (3, 0, 0, ck_one 3), (223, 0, 179, ck_one 0)]), ([(1, 15, 15), (220, 3, 3), (221, 0, 47), (222, 3, 3), (223, 0, 179)], []), [(.inr (some (.inl (ck_one 0))), 245, ([], [], [(222, 3, 3, ck_one 11), (1, 15, 15, ck_one 1), (220, 3, 3, ck_one 0), (223, 0, 179, ck_one 0)]))])
set_option maxRecDepth 100000 in
theorem p34x_416_e : ck_ok p1_O none [] [(214, [p34x_390]), (24, [p34x_148]), (215, [p34x_392]), (219, [p34x_408, p34x_407])] 218 [(19, [some (.inr (.inr (.inl 1))), some (.inl (ck_one 11)), some (.inl (ck_one 0)), some (.inl (ck_one 0)), some (.inl (1, 3, none))], ([], [], [(222, 3, 3, ck_one 11), (223, 0, 179, ck_one 0), (1, 15, 15, ck_one 1), (220, 3, 3, ck_one 0), (222, 1, 1, ck_one 6), (222, 0, 0, ck_one 30), (220, 0, 0, ck_one 24), (10, 3, 3, ck_one 0), (3, 0, 0, ck_one 3)]), 100, .inl 4, true)] 158 p34x_416 = true := by decide +kernel
theorem p34x_416_s {X : Int → Int} {LX : Nat} : ck_Ok p1_O X LX 218 p34x_416 := ck_ok_s (ck_E1 (ck_S1 p34x_390_s ck_S0) (ck_E1 (ck_S1 p34x_148_s ck_S0) (ck_E1 (ck_S1 p34x_392_s ck_S0) (ck_E1 (ck_S1 p34x_408_s (ck_S1 p34x_407_s ck_S0)) ck_E0)))) ck_X0 ck_l0 p34x_416_e
set_option maxRecDepth 100000 in
def p34x_417 : ck_Sum := ((4, 0, 0), 245, [.inr (.inr (.inl 1)), .inl (ck_one 11), .inl (ck_one 0), .inr (.inr (.inl 245))], ([], [], [(222, 1, 1, ck_one 6), (222, 0, 0, ck_one 30), (222, 3, 3, ck_one 0), (1, 15, 15, ck_one 0), (220, 0, 0, ck_one 24), (220, 3, 3, ck_one 0), (10, 3, 3, ck_one 0), (3, 0, 0, ck_one 3), (223, 0, 179, ck_one 0)]), ([(1, 15, 15), (220, 3, 3), (221, 0, 47), (222, 3, 3), (223, 0, 179), (245, 0, 0)], []), [(.inr (some (.inl (ck_one 0))), 245, ([], [], [(245, 0, 0, ck_one 0), (222, 3, 3, ck_one 11), (1, 15, 15, ck_one 1), (220, 3, 3, ck_one 0), (223, 0, 179, ck_one 0)]))])
set_option maxRecDepth 100000 in
theorem p34x_417_e : ck_ok p1_O none [] [(218, [p34x_416])] 217 [] 92 p34x_417 = true := by decide +kernel
theorem p34x_417_s {X : Int → Int} {LX : Nat} : ck_Ok p1_O X LX 217 p34x_417 := ck_ok_s (ck_E1 (ck_S1 p34x_416_s ck_S0) ck_E0) ck_X0 ck_l0 p34x_417_e
set_option maxRecDepth 100000 in
def p34x_419 : ck_Sum := ((0, 0, 0), 245, [.inr (.inr (.inl 1)), .inl (ck_one 12)], ([], [], []), ([], []), [(.inr none, 245, ([], [], []))])
set_option maxRecDepth 100000 in
theorem p34x_419_e : ck_ok p1_O none [] [] 214 [] 84 p34x_419 = true := by decide +kernel
theorem p34x_419_s {X : Int → Int} {LX : Nat} : ck_Ok p1_O X LX 214 p34x_419 := ck_ok_s (ck_E0) ck_X0 ck_l0 p34x_419_e
set_option maxRecDepth 100000 in
def p34x_420 : ck_Sum := ((1, 0, 0), 245, [.inr (.inr (.inl 222)), .inl (ck_one 12)], ([], [], [(222, 0, 0, ck_one 30), (223, 0, 179, ck_one 0)]), ([(222, 3, 3), (223, 0, 179)], []), [(.inr none, 245, ([], [], [(222, 3, 3, ck_one 12), (223, 0, 179, ck_one 0)]))])
set_option maxRecDepth 100000 in
theorem p34x_420_e : ck_ok p1_O none [] [(8, [p34x_149])] 25 [] 96 p34x_420 = true := by decide +kernel
theorem p34x_420_s {X : Int → Int} {LX : Nat} : ck_Ok p1_O X LX 25 p34x_420 := ck_ok_s (ck_E1 (ck_S1 p34x_149_s ck_S0) ck_E0) ck_X0 ck_l0 p34x_420_e
set_option maxRecDepth 100000 in
def p34x_421 : ck_Sum := ((2, 0, 0), 245, [.inr (.inr (.inl 1)), .inl (ck_one 12)], ([], [], [(220, 3, 3, ck_one 0), (222, 0, 0, ck_one 30), (222, 3, 3, ck_one 0), (223, 0, 179, ck_one 0)]), ([(222, 3, 3), (223, 0, 179)], []), [(.inr none, 245, ([], [], [(222, 3, 3, ck_one 12), (223, 0, 179, ck_one 0)]))])
set_option maxRecDepth 100000 in
theorem p34x_421_e : ck_ok p1_O none [] [(25, [p34x_420]), (9, [p34x_147])] 215 [(10, [some (.inr (.inr (.inl 1))), some (.inl (ck_one 12)), some (.inl (ck_one 0)), none, none], ([], [], [(222, 3, 3, ck_one 12), (223, 0, 179, ck_one 0), (220, 3, 3, ck_one 0), (222, 0, 0, ck_one 30)]), 100, .inl 2, true)] 118 p34x_421 = true := by decide +kernel
theorem p34x_421_s {X : Int → Int} {LX : Nat} : ck_Ok p1_O X LX 215 p34x_421 := ck_ok_s (ck_E1 (ck_S1 p34x_420_s ck_S0) (ck_E1 (ck_S1 p34x_147_s ck_S0) ck_E0)) ck_X0 ck_l0 p34x_421_e
set_option maxRecDepth 100000 in
def p34x_435 : ck_Sum := ((0, 0, 0), 245, [.inr (.inr (.inl 222)), .inl (0, 11, none), .inl (0, 2, none)], ([], [], [(222, 3, 3, ck_one 12), (223, 0, 179, ck_one 0), (222, 1, 1, ck_one 6)]), ([], []), [(.inr (some (.inl (ck_one 0))), 245, ([], [], []))])
set_option maxRecDepth 100000 in
theorem p34x_435_e : ck_ok p1_O none [] [] 10 [] 114 p34x_435 = true := by decide +kernel
theorem p34x_435_s {X : Int → Int} {LX : Nat} : ck_Ok p1_O X LX 10 p34x_435 := ck_ok_s (ck_E0) ck_X0 ck_l0 p34x_435_e
set_option maxRecDepth 100000 in
def p34x_437 : ck_Sum := ((1, 0, 0), 245, [.inr (.inr (.inl 1)), .inl (ck_one 0), .inl (ck_one 12)], ([], [], [(222, 3, 3, ck_one 12), (223, 0, 179, ck_one 0), (222, 1, 1, ck_one 6), (3, 0, 0, ck_one 3)]), ([], []), [(.inr (some (.inl (ck_one 0))), 245, ([], [], []))])
set_option maxRecDepth 100000 in
theorem p34x_437_e : ck_ok p1_O none [] [(10, [p34x_435])] 219 [(5, [some (.inr (.inr (.inl 1))), some (.inl (ck_one 0)), some (.inl (ck_one 12)), some (.inl (ck_one 0)), some (.inl (0, 3, none)), none, none], ([], [], [(222, 3, 3, ck_one 12), (223, 0, 179, ck_one 0), (222, 1, 1, ck_one 6), (3, 0, 0, ck_one 3)]), 100, .inl 4, true), (23, [some (.inr (.inr (.inl 1))), some (.inl (ck_one 0)), some (.inl (ck_one 12)), some (.inl (ck_one 0)), some (.inl (0, 2, some (100, 0))), some (.inl (ck_one 0)), some (.inl (0, 12, none))], ([], [], [(222, 3, 3, ck_one 12), (223, 0, 179, ck_one 0), (222, 1, 1, ck_one 6), (3, 0, 0, ck_one 3)]), 300, .inl 6, true)] 194 p34x_437 = true := by decide +kernel
theorem p34x_437_s {X : Int → Int} {LX : Nat} : ck_Ok p1_O X LX 219 p34x_437 := ck_ok_s (ck_E1 (ck_S1 p34x_435_s ck_S0) ck_E0) ck_X0 ck_l0 p34x_437_e
set_option maxRecDepth 100000 in
def p34x_438 : ck_Sum := ((1, 0, 0), 245, [.inr (.inr (.inl 1)), .inl (1, 2, none), .inl (ck_one 12)], ([], [], [(222, 3, 3, ck_one 12), (223, 0, 179, ck_one 0), (222, 1, 1, ck_one 6), (3, 0, 0, ck_one 3)]), ([], []), [(.inr (some (.inl (ck_one 0))), 245, ([], [], []))])
set_option maxRecDepth 100000 in
theorem p34x_438_e : ck_ok p1_O none [] [(10, [p34x_435])] 219 [(5, [some (.inr (.inr (.inl 1))), some (.inl (1, 2, none)), some (.inl (ck_one 12)), some (.inl (ck_one 0)), some (.inl (0, 3, none)), none, none], ([], [], [(222, 3, 3, ck_one 12), (223, 0, 179, ck_one 0), (222, 1, 1, ck_one 6), (3, 0, 0, ck_one 3)]), 100, .inl 4, true), (23, [some (.inr (.inr (.inl 1))), some (.inl (1, 2, none)), some (.inl (ck_one 12)), some (.inl (ck_one 0)), some (.inl (0, 2, some (100, 0))), some (.inl (ck_one 0)), some (.inl (0, 12, none))], ([], [], [(222, 3, 3, ck_one 12), (223, 0, 179, ck_one 0), (222, 1, 1, ck_one 6), (3, 0, 0, ck_one 3)]), 300, .inl 6, true)] 194 p34x_438 = true := by decide +kernel
theorem p34x_438_s {X : Int → Int} {LX : Nat} : ck_Ok p1_O X LX 219 p34x_438 := ck_ok_s (ck_E1 (ck_S1 p34x_435_s ck_S0) ck_E0) ck_X0 ck_l0 p34x_438_e
set_option maxRecDepth 100000 in
def p34x_439 : ck_Sum := ((3, 0, 0), 245, [.inr (.inr (.inl 1)), .inl (ck_one 12), .inl (ck_one 1)], ([], [], [(222, 1, 1, ck_one 6), (222, 0, 0, ck_one 30), (222, 3, 3, ck_one 0), (1, 15, 15, ck_one 0), (220, 0, 0, ck_one 24), (220, 3, 3, ck_one 0), (10, 3, 3, ck_one 0), (3, 0, 0, ck_one 3), (223, 0, 179, ck_one 0)]), ([(1, 15, 15), (220, 3, 3), (221, 0, 47), (222, 3, 3), (223, 0, 179)], []), [(.inr (some (.inl (ck_one 0))), 245, ([], [], [(222, 3, 3, ck_one 12), (1, 15, 15, ck_one 1), (220, 3, 3, ck_one 0), (223, 0, 179, ck_one 0)]))])
set_option maxRecDepth 100000 in
theorem p34x_439_e : ck_ok p1_O none [] [(214, [p34x_419]), (24, [p34x_148]), (215, [p34x_421]), (219, [p34x_437, p34x_438])] 218 [(19, [some (.inr (.inr (.inl 1))), some (.inl (ck_one 12)), some (.inl (ck_one 1)), some (.inl (ck_one 0)), some (.inl (1, 3, none))], ([], [], [(222, 3, 3, ck_one 12), (223, 0, 179, ck_one 0), (1, 15, 15, ck_one 1), (220, 3, 3, ck_one 0), (222, 1, 1, ck_one 6), (222, 0, 0, ck_one 30), (220, 0, 0, ck_one 24), (10, 3, 3, ck_one 0), (3, 0, 0, ck_one 3)]), 100, .inl 4, true)] 158 p34x_439 = true := by decide +kernel
theorem p34x_439_s {X : Int → Int} {LX : Nat} : ck_Ok p1_O X LX 218 p34x_439 := ck_ok_s (ck_E1 (ck_S1 p34x_419_s ck_S0) (ck_E1 (ck_S1 p34x_148_s ck_S0) (ck_E1 (ck_S1 p34x_421_s ck_S0) (ck_E1 (ck_S1 p34x_437_s (ck_S1 p34x_438_s ck_S0)) ck_E0)))) ck_X0 ck_l0 p34x_439_e
set_option maxRecDepth 100000 in
def p34x_440 : ck_Sum := ((4, 0, 0), 245, [.inr (.inr (.inl 1)), .inl (ck_one 12), .inl (ck_one 1), .inr (.inr (.inl 245))], ([], [], [(222, 1, 1, ck_one 6), (222, 0, 0, ck_one 30), (222, 3, 3, ck_one 0), (1, 15, 15, ck_one 0), (220, 0, 0, ck_one 24), (220, 3, 3, ck_one 0), (10, 3, 3, ck_one 0), (3, 0, 0, ck_one 3), (223, 0, 179, ck_one 0)]), ([(1, 15, 15), (220, 3, 3), (221, 0, 47), (222, 3, 3), (223, 0, 179), (245, 0, 0)], []), [(.inr (some (.inl (ck_one 0))), 245, ([], [], [(245, 0, 0, ck_one 0), (222, 3, 3, ck_one 12), (1, 15, 15, ck_one 1), (220, 3, 3, ck_one 0), (223, 0, 179, ck_one 0)]))])
set_option maxRecDepth 100000 in
theorem p34x_440_e : ck_ok p1_O none [] [(218, [p34x_439])] 217 [] 92 p34x_440 = true := by decide +kernel
theorem p34x_440_s {X : Int → Int} {LX : Nat} : ck_Ok p1_O X LX 217 p34x_440 := ck_ok_s (ck_E1 (ck_S1 p34x_439_s ck_S0) ck_E0) ck_X0 ck_l0 p34x_440_e
set_option maxRecDepth 100000 in
def p34x_446 : ck_Sum := ((3, 0, 0), 245, [.inr (.inr (.inl 1)), .inl (ck_one 12), .inl (ck_one 0)], ([], [], [(222, 1, 1, ck_one 6), (222, 0, 0, ck_one 30), (222, 3, 3, ck_one 0), (1, 15, 15, ck_one 0), (220, 0, 0, ck_one 24), (220, 3, 3, ck_one 0), (10, 3, 3, ck_one 0), (3, 0, 0, ck_one 3), (223, 0, 179, ck_one 0)]), ([(1, 15, 15), (220, 3, 3), (221, 0, 47), (222, 3, 3), (223, 0, 179)], []), [(.inr (some (.inl (ck_one 0))), 245, ([], [], [(222, 3, 3, ck_one 12), (1, 15, 15, ck_one 1), (220, 3, 3, ck_one 0), (223, 0, 179, ck_one 0)]))])
set_option maxRecDepth 100000 in
theorem p34x_446_e : ck_ok p1_O none [] [(214, [p34x_419]), (24, [p34x_148]), (215, [p34x_421]), (219, [p34x_438, p34x_437])] 218 [(19, [some (.inr (.inr (.inl 1))), some (.inl (ck_one 12)), some (.inl (ck_one 0)), some (.inl (ck_one 0)), some (.inl (1, 3, none))], ([], [], [(222, 3, 3, ck_one 12), (223, 0, 179, ck_one 0), (1, 15, 15, ck_one 1), (220, 3, 3, ck_one 0), (222, 1, 1, ck_one 6), (222, 0, 0, ck_one 30), (220, 0, 0, ck_one 24), (10, 3, 3, ck_one 0), (3, 0, 0, ck_one 3)]), 100, .inl 4, true)] 158 p34x_446 = true := by decide +kernel
theorem p34x_446_s {X : Int → Int} {LX : Nat} : ck_Ok p1_O X LX 218 p34x_446 := ck_ok_s (ck_E1 (ck_S1 p34x_419_s ck_S0) (ck_E1 (ck_S1 p34x_148_s ck_S0) (ck_E1 (ck_S1 p34x_421_s ck_S0) (ck_E1 (ck_S1 p34x_438_s (ck_S1 p34x_437_s ck_S0)) ck_E0)))) ck_X0 ck_l0 p34x_446_e
set_option maxRecDepth 100000 in
def p34x_447 : ck_Sum := ((4, 0, 0), 245, [.inr (.inr (.inl 1)), .inl (ck_one 12), .inl (ck_one 0), .inr (.inr (.inl 245))], ([], [], [(222, 1, 1, ck_one 6), (222, 0, 0, ck_one 30), (222, 3, 3, ck_one 0), (1, 15, 15, ck_one 0), (220, 0, 0, ck_one 24), (220, 3, 3, ck_one 0), (10, 3, 3, ck_one 0), (3, 0, 0, ck_one 3), (223, 0, 179, ck_one 0)]), ([(1, 15, 15), (220, 3, 3), (221, 0, 47), (222, 3, 3), (223, 0, 179), (245, 0, 0)], []), [(.inr (some (.inl (ck_one 0))), 245, ([], [], [(245, 0, 0, ck_one 0), (222, 3, 3, ck_one 12), (1, 15, 15, ck_one 1), (220, 3, 3, ck_one 0), (223, 0, 179, ck_one 0)]))])
set_option maxRecDepth 100000 in
theorem p34x_447_e : ck_ok p1_O none [] [(218, [p34x_446])] 217 [] 92 p34x_447 = true := by decide +kernel
theorem p34x_447_s {X : Int → Int} {LX : Nat} : ck_Ok p1_O X LX 217 p34x_447 := ck_ok_s (ck_E1 (ck_S1 p34x_446_s ck_S0) ck_E0) ck_X0 ck_l0 p34x_447_e
set_option maxRecDepth 100000 in
def p34x_449 : ck_Sum := ((0, 0, 0), 245, [.inr (.inr (.inl 1)), .inl (ck_one 13)], ([], [], []), ([], []), [(.inr none, 245, ([], [], []))])
set_option maxRecDepth 100000 in
theorem p34x_449_e : ck_ok p1_O none [] [] 214 [] 84 p34x_449 = true := by decide +kernel
theorem p34x_449_s {X : Int → Int} {LX : Nat} : ck_Ok p1_O X LX 214 p34x_449 := ck_ok_s (ck_E0) ck_X0 ck_l0 p34x_449_e
set_option maxRecDepth 100000 in
def p34x_450 : ck_Sum := ((1, 0, 0), 245, [.inr (.inr (.inl 222)), .inl (ck_one 13)], ([], [], [(222, 0, 0, ck_one 30), (223, 0, 179, ck_one 0)]), ([(222, 3, 3), (223, 0, 179)], []), [(.inr none, 245, ([], [], [(222, 3, 3, ck_one 13), (223, 0, 179, ck_one 0)]))])
set_option maxRecDepth 100000 in
theorem p34x_450_e : ck_ok p1_O none [] [(8, [p34x_149])] 25 [] 96 p34x_450 = true := by decide +kernel
theorem p34x_450_s {X : Int → Int} {LX : Nat} : ck_Ok p1_O X LX 25 p34x_450 := ck_ok_s (ck_E1 (ck_S1 p34x_149_s ck_S0) ck_E0) ck_X0 ck_l0 p34x_450_e
set_option maxRecDepth 100000 in
def p34x_451 : ck_Sum := ((2, 0, 0), 245, [.inr (.inr (.inl 1)), .inl (ck_one 13)], ([], [], [(220, 3, 3, ck_one 0), (222, 0, 0, ck_one 30), (222, 3, 3, ck_one 0), (223, 0, 179, ck_one 0)]), ([(222, 3, 3), (223, 0, 179)], []), [(.inr none, 245, ([], [], [(222, 3, 3, ck_one 13), (223, 0, 179, ck_one 0)]))])
set_option maxRecDepth 100000 in
theorem p34x_451_e : ck_ok p1_O none [] [(25, [p34x_450]), (9, [p34x_147])] 215 [(10, [some (.inr (.inr (.inl 1))), some (.inl (ck_one 13)), some (.inl (ck_one 0)), none, none], ([], [], [(222, 3, 3, ck_one 13), (223, 0, 179, ck_one 0), (220, 3, 3, ck_one 0), (222, 0, 0, ck_one 30)]), 100, .inl 2, true)] 118 p34x_451 = true := by decide +kernel
theorem p34x_451_s {X : Int → Int} {LX : Nat} : ck_Ok p1_O X LX 215 p34x_451 := ck_ok_s (ck_E1 (ck_S1 p34x_450_s ck_S0) (ck_E1 (ck_S1 p34x_147_s ck_S0) ck_E0)) ck_X0 ck_l0 p34x_451_e
set_option maxRecDepth 100000 in
def p34x_466 : ck_Sum := ((0, 0, 0), 245, [.inr (.inr (.inl 222)), .inl (0, 12, none), .inl (0, 2, none)], ([], [], [(222, 3, 3, ck_one 13), (223, 0, 179, ck_one 0), (222, 1, 1, ck_one 6)]), ([], []), [(.inr (some (.inl (ck_one 0))), 245, ([], [], []))])
set_option maxRecDepth 100000 in
theorem p34x_466_e : ck_ok p1_O none [] [] 10 [] 114 p34x_466 = true := by decide +kernel
theorem p34x_466_s {X : Int → Int} {LX : Nat} : ck_Ok p1_O X LX 10 p34x_466 := ck_ok_s (ck_E0) ck_X0 ck_l0 p34x_466_e
set_option maxRecDepth 100000 in
def p34x_468 : ck_Sum := ((1, 0, 0), 245, [.inr (.inr (.inl 1)), .inl (ck_one 0), .inl (ck_one 13)], ([], [], [(222, 3, 3, ck_one 13), (223, 0, 179, ck_one 0), (222, 1, 1, ck_one 6), (3, 0, 0, ck_one 3)]), ([], []), [(.inr (some (.inl (ck_one 0))), 245, ([], [], []))])
set_option maxRecDepth 100000 in
theorem p34x_468_e : ck_ok p1_O none [] [(10, [p34x_466])] 219 [(5, [some (.inr (.inr (.inl 1))), some (.inl (ck_one 0)), some (.inl (ck_one 13)), some (.inl (ck_one 0)), some (.inl (0, 3, none)), none, none], ([], [], [(222, 3, 3, ck_one 13), (223, 0, 179, ck_one 0), (222, 1, 1, ck_one 6), (3, 0, 0, ck_one 3)]), 100, .inl 4, true), (23, [some (.inr (.inr (.inl 1))), some (.inl (ck_one 0)), some (.inl (ck_one 13)), some (.inl (ck_one 0)), some (.inl (0, 2, some (100, 0))), some (.inl (ck_one 0)), some (.inl (0, 13, none))], ([], [], [(222, 3, 3, ck_one 13), (223, 0, 179, ck_one 0), (222, 1, 1, ck_one 6), (3, 0, 0, ck_one 3)]), 300, .inl 6, true)] 194 p34x_468 = true := by decide +kernel
theorem p34x_468_s {X : Int → Int} {LX : Nat} : ck_Ok p1_O X LX 219 p34x_468 := ck_ok_s (ck_E1 (ck_S1 p34x_466_s ck_S0) ck_E0) ck_X0 ck_l0 p34x_468_e
set_option maxRecDepth 100000 in
def p34x_469 : ck_Sum := ((1, 0, 0), 245, [.inr (.inr (.inl 1)), .inl (1, 2, none), .inl (ck_one 13)], ([], [], [(222, 3, 3, ck_one 13), (223, 0, 179, ck_one 0), (222, 1, 1, ck_one 6), (3, 0, 0, ck_one 3)]), ([], []), [(.inr (some (.inl (ck_one 0))), 245, ([], [], []))])
set_option maxRecDepth 100000 in
theorem p34x_469_e : ck_ok p1_O none [] [(10, [p34x_466])] 219 [(5, [some (.inr (.inr (.inl 1))), some (.inl (1, 2, none)), some (.inl (ck_one 13)), some (.inl (ck_one 0)), some (.inl (0, 3, none)), none, none], ([], [], [(222, 3, 3, ck_one 13), (223, 0, 179, ck_one 0), (222, 1, 1, ck_one 6), (3, 0, 0, ck_one 3)]), 100, .inl 4, true), (23, [some (.inr (.inr (.inl 1))), some (.inl (1, 2, none)), some (.inl (ck_one 13)), some (.inl (ck_one 0)), some (.inl (0, 2, some (100, 0))), some (.inl (ck_one 0)), some (.inl (0, 13, none))], ([], [], [(222, 3, 3, ck_one 13), (223, 0, 179, ck_one 0), (222, 1, 1, ck_one 6), (3, 0, 0, ck_one 3)]), 300, .inl 6, true)] 194 p34x_469 = true := by decide +kernel
theorem p34x_469_s {X : Int → Int} {LX : Nat} : ck_Ok p1_O X LX 219 p34x_469 := ck_ok_s (ck_E1 (ck_S1 p34x_466_s ck_S0) ck_E0) ck_X0 ck_l0 p34x_469_e
set_option maxRecDepth 100000 in
def p34x_470 : ck_Sum := ((3, 0, 0), 245, [.inr (.inr (.inl 1)), .inl (ck_one 13), .inl (ck_one 1)], ([], [], [(222, 1, 1, ck_one 6), (222, 0, 0, ck_one 30), (222, 3, 3, ck_one 0), (1, 15, 15, ck_one 0), (220, 0, 0, ck_one 24), (220, 3, 3, ck_one 0), (10, 3, 3, ck_one 0), (3, 0, 0, ck_one 3), (223, 0, 179, ck_one 0)]), ([(1, 15, 15), (220, 3, 3), (221, 0, 47), (222, 3, 3), (223, 0, 179)], []), [(.inr (some (.inl (ck_one 0))), 245, ([], [], [(222, 3, 3, ck_one 13), (1, 15, 15, ck_one 1), (220, 3, 3, ck_one 0), (223, 0, 179, ck_one 0)]))])
set_option maxRecDepth 100000 in
theorem p34x_470_e : ck_ok p1_O none [] [(214, [p34x_449]), (24, [p34x_148]), (215, [p34x_451]), (219, [p34x_468, p34x_469])] 218 [(19, [some (.inr (.inr (.inl 1))), some (.inl (ck_one 13)), some (.inl (ck_one 1)), some (.inl (ck_one 0)), some (.inl (1, 3, none))], ([], [], [(222, 3, 3, ck_one 13), (223, 0, 179, ck_one 0), (1, 15, 15, ck_one 1), (220, 3, 3, ck_one 0), (222, 1, 1, ck_one 6), (222, 0, 0, ck_one 30), (220, 0, 0, ck_one 24), (10, 3, 3, ck_one 0), (3, 0, 0, ck_one 3)]), 100, .inl 4, true)] 158 p34x_470 = true := by decide +kernel
theorem p34x_470_s {X : Int → Int} {LX : Nat} : ck_Ok p1_O X LX 218 p34x_470 := ck_ok_s (ck_E1 (ck_S1 p34x_449_s ck_S0) (ck_E1 (ck_S1 p34x_148_s ck_S0) (ck_E1 (ck_S1 p34x_451_s ck_S0) (ck_E1 (ck_S1 p34x_468_s (ck_S1 p34x_469_s ck_S0)) ck_E0)))) ck_X0 ck_l0 p34x_470_e
set_option maxRecDepth 100000 in
def p34x_471 : ck_Sum := ((4, 0, 0), 245, [.inr (.inr (.inl 1)), .inl (ck_one 13), .inl (ck_one 1), .inr (.inr (.inl 245))], ([], [], [(222, 1, 1, ck_one 6), (222, 0, 0, ck_one 30), (222, 3, 3, ck_one 0), (1, 15, 15, ck_one 0), (220, 0, 0, ck_one 24), (220, 3, 3, ck_one 0), (10, 3, 3, ck_one 0), (3, 0, 0, ck_one 3), (223, 0, 179, ck_one 0)]), ([(1, 15, 15), (220, 3, 3), (221, 0, 47), (222, 3, 3), (223, 0, 179), (245, 0, 0)], []), [(.inr (some (.inl (ck_one 0))), 245, ([], [], [(245, 0, 0, ck_one 0), (222, 3, 3, ck_one 13), (1, 15, 15, ck_one 1), (220, 3, 3, ck_one 0), (223, 0, 179, ck_one 0)]))])
set_option maxRecDepth 100000 in
theorem p34x_471_e : ck_ok p1_O none [] [(218, [p34x_470])] 217 [] 92 p34x_471 = true := by decide +kernel
theorem p34x_471_s {X : Int → Int} {LX : Nat} : ck_Ok p1_O X LX 217 p34x_471 := ck_ok_s (ck_E1 (ck_S1 p34x_470_s ck_S0) ck_E0) ck_X0 ck_l0 p34x_471_e
set_option maxRecDepth 100000 in
def p34x_477 : ck_Sum := ((3, 0, 0), 245, [.inr (.inr (.inl 1)), .inl (ck_one 13), .inl (ck_one 0)], ([], [], [(222, 1, 1, ck_one 6), (222, 0, 0, ck_one 30), (222, 3, 3, ck_one 0), (1, 15, 15, ck_one 0), (220, 0, 0, ck_one 24), (220, 3, 3, ck_one 0), (10, 3, 3, ck_one 0), (3, 0, 0, ck_one 3), (223, 0, 179, ck_one 0)]), ([(1, 15, 15), (220, 3, 3), (221, 0, 47), (222, 3, 3), (223, 0, 179)], []), [(.inr (some (.inl (ck_one 0))), 245, ([], [], [(222, 3, 3, ck_one 13), (1, 15, 15, ck_one 1), (220, 3, 3, ck_one 0), (223, 0, 179, ck_one 0)]))])
set_option maxRecDepth 100000 in
theorem p34x_477_e : ck_ok p1_O none [] [(214, [p34x_449]), (24, [p34x_148]), (215, [p34x_451]), (219, [p34x_469, p34x_468])] 218 [(19, [some (.inr (.inr (.inl 1))), some (.inl (ck_one 13)), some (.inl (ck_one 0)), some (.inl (ck_one 0)), some (.inl (1, 3, none))], ([], [], [(222, 3, 3, ck_one 13), (223, 0, 179, ck_one 0), (1, 15, 15, ck_one 1), (220, 3, 3, ck_one 0), (222, 1, 1, ck_one 6), (222, 0, 0, ck_one 30), (220, 0, 0, ck_one 24), (10, 3, 3, ck_one 0), (3, 0, 0, ck_one 3)]), 100, .inl 4, true)] 158 p34x_477 = true := by decide +kernel
theorem p34x_477_s {X : Int → Int} {LX : Nat} : ck_Ok p1_O X LX 218 p34x_477 := ck_ok_s (ck_E1 (ck_S1 p34x_449_s ck_S0) (ck_E1 (ck_S1 p34x_148_s ck_S0) (ck_E1 (ck_S1 p34x_451_s ck_S0) (ck_E1 (ck_S1 p34x_469_s (ck_S1 p34x_468_s ck_S0)) ck_E0)))) ck_X0 ck_l0 p34x_477_e
set_option maxRecDepth 100000 in
def p34x_478 : ck_Sum := ((4, 0, 0), 245, [.inr (.inr (.inl 1)), .inl (ck_one 13), .inl (ck_one 0), .inr (.inr (.inl 245))], ([], [], [(222, 1, 1, ck_one 6), (222, 0, 0, ck_one 30), (222, 3, 3, ck_one 0), (1, 15, 15, ck_one 0), (220, 0, 0, ck_one 24), (220, 3, 3, ck_one 0), (10, 3, 3, ck_one 0), (3, 0, 0, ck_one 3), (223, 0, 179, ck_one 0)]), ([(1, 15, 15), (220, 3, 3), (221, 0, 47), (222, 3, 3), (223, 0, 179), (245, 0, 0)], []), [(.inr (some (.inl (ck_one 0))), 245, ([], [], [(245, 0, 0, ck_one 0), (222, 3, 3, ck_one 13), (1, 15, 15, ck_one 1), (220, 3, 3, ck_one 0), (223, 0, 179, ck_one 0)]))])
set_option maxRecDepth 100000 in
theorem p34x_478_e : ck_ok p1_O none [] [(218, [p34x_477])] 217 [] 92 p34x_478 = true := by decide +kernel
theorem p34x_478_s {X : Int → Int} {LX : Nat} : ck_Ok p1_O X LX 217 p34x_478 := ck_ok_s (ck_E1 (ck_S1 p34x_477_s ck_S0) ck_E0) ck_X0 ck_l0 p34x_478_e
set_option maxRecDepth 100000 in
def p34x_480 : ck_Sum := ((0, 0, 0), 245, [.inr (.inr (.inl 1)), .inl (ck_one 14)], ([], [], []), ([], []), [(.inr none, 245, ([], [], []))])
set_option maxRecDepth 100000 in
theorem p34x_480_e : ck_ok p1_O none [] [] 214 [] 84 p34x_480 = true := by decide +kernel
theorem p34x_480_s {X : Int → Int} {LX : Nat} : ck_Ok p1_O X LX 214 p34x_480 := ck_ok_s (ck_E0) ck_X0 ck_l0 p34x_480_e
set_option maxRecDepth 100000 in
def p34x_481 : ck_Sum := ((1, 0, 0), 245, [.inr (.inr (.inl 222)), .inl (ck_one 14)], ([], [], [(222, 0, 0, ck_one 30), (223, 0, 179, ck_one 0)]), ([(222, 3, 3), (223, 0, 179)], []), [(.inr none, 245, ([], [], [(222, 3, 3, ck_one 14), (223, 0, 179, ck_one 0)]))])
set_option maxRecDepth 100000 in
theorem p34x_481_e : ck_ok p1_O none [] [(8, [p34x_149])] 25 [] 96 p34x_481 = true := by decide +kernel
theorem p34x_481_s {X : Int → Int} {LX : Nat} : ck_Ok p1_O X LX 25 p34x_481 := ck_ok_s (ck_E1 (ck_S1 p34x_149_s ck_S0) ck_E0) ck_X0 ck_l0 p34x_481_e
set_option maxRecDepth 100000 in
def p34x_482 : ck_Sum := ((2, 0, 0), 245, [.inr (.inr (.inl 1)), .inl (ck_one 14)], ([], [], [(220, 3, 3, ck_one 0), (222, 0, 0, ck_one 30), (222, 3, 3, ck_one 0), (223, 0, 179, ck_one 0)]), ([(222, 3, 3), (223, 0, 179)], []), [(.inr none, 245, ([], [], [(222, 3, 3, ck_one 14), (223, 0, 179, ck_one 0)]))])
set_option maxRecDepth 100000 in
theorem p34x_482_e : ck_ok p1_O none [] [(25, [p34x_481]), (9, [p34x_147])] 215 [(10, [some (.inr (.inr (.inl 1))), some (.inl (ck_one 14)), some (.inl (ck_one 0)), none, none], ([], [], [(222, 3, 3, ck_one 14), (223, 0, 179, ck_one 0), (220, 3, 3, ck_one 0), (222, 0, 0, ck_one 30)]), 100, .inl 2, true)] 118 p34x_482 = true := by decide +kernel
theorem p34x_482_s {X : Int → Int} {LX : Nat} : ck_Ok p1_O X LX 215 p34x_482 := ck_ok_s (ck_E1 (ck_S1 p34x_481_s ck_S0) (ck_E1 (ck_S1 p34x_147_s ck_S0) ck_E0)) ck_X0 ck_l0 p34x_482_e
set_option maxRecDepth 100000 in
def p34x_498 : ck_Sum := ((0, 0, 0), 245, [.inr (.inr (.inl 222)), .inl (0, 13, none), .inl (0, 2, none)], ([], [], [(222, 3, 3, ck_one 14), (223, 0, 179, ck_one 0), (222, 1, 1, ck_one 6)]), ([], []), [(.inr (some (.inl (ck_one 0))), 245, ([], [], []))])
set_option maxRecDepth 100000 in
theorem p34x_498_e : ck_ok p1_O none [] [] 10 [] 114 p34x_498 = true := by decide +kernel
theorem p34x_498_s {X : Int → Int} {LX : Nat} : ck_Ok p1_O X LX 10 p34x_498 := ck_ok_s (ck_E0) ck_X0 ck_l0 p34x_498_e
set_option maxRecDepth 100000 in
def p34x_500 : ck_Sum := ((1, 0, 0), 245, [.inr (.inr (.inl 1)), .inl (ck_one 0), .inl (ck_one 14)], ([], [], [(222, 3, 3, ck_one 14), (223, 0, 179, ck_one 0), (222, 1, 1, ck_one 6), (3, 0, 0, ck_one 3)]), ([], []), [(.inr (some (.inl (ck_one 0))), 245, ([], [], []))])
set_option maxRecDepth 100000 in
theorem p34x_500_e : ck_ok p1_O none [] [(10, [p34x_498])] 219 [(5, [some (.inr (.inr (.inl 1))), some (.inl (ck_one 0)), some (.inl (ck_one 14)), some (.inl (ck_one 0)), some (.inl (0, 3, none)), none, none], ([], [], [(222, 3, 3, ck_one 14), (223, 0, 179, ck_one 0), (222, 1, 1, ck_one 6), (3, 0, 0, ck_one 3)]), 100, .inl 4, true), (23, [some (.inr (.inr (.inl 1))), some (.inl (ck_one 0)), some (.inl (ck_one 14)), some (.inl (ck_one 0)), some (.inl (0, 2, some (100, 0))), some (.inl (ck_one 0)), some (.inl (0, 14, none))], ([], [], [(222, 3, 3, ck_one 14), (223, 0, 179, ck_one 0), (222, 1, 1, ck_one 6), (3, 0, 0, ck_one 3)]), 300, .inl 6, true)] 194 p34x_500 = true := by decide +kernel
theorem p34x_500_s {X : Int → Int} {LX : Nat} : ck_Ok p1_O X LX 219 p34x_500 := ck_ok_s (ck_E1 (ck_S1 p34x_498_s ck_S0) ck_E0) ck_X0 ck_l0 p34x_500_e
set_option maxRecDepth 100000 in
def p34x_501 : ck_Sum := ((1, 0, 0), 245, [.inr (.inr (.inl 1)), .inl (1, 2, none), .inl (ck_one 14)], ([], [], [(222, 3, 3, ck_one 14), (223, 0, 179, ck_one 0), (222, 1, 1, ck_one 6), (3, 0, 0, ck_one 3)]), ([], []), [(.inr (some (.inl (ck_one 0))), 245, ([], [], []))])
set_option maxRecDepth 100000 in
theorem p34x_501_e : ck_ok p1_O none [] [(10, [p34x_498])] 219 [(5, [some (.inr (.inr (.inl 1))), some (.inl (1, 2, none)), some (.inl (ck_one 14)), some (.inl (ck_one 0)), some (.inl (0, 3, none)), none, none], ([], [], [(222, 3, 3, ck_one 14), (223, 0, 179, ck_one 0), (222, 1, 1, ck_one 6), (3, 0, 0, ck_one 3)]), 100, .inl 4, true), (23, [some (.inr (.inr (.inl 1))), some (.inl (1, 2, none)), some (.inl (ck_one 14)), some (.inl (ck_one 0)), some (.inl (0, 2, some (100, 0))), some (.inl (ck_one 0)), some (.inl (0, 14, none))], ([], [], [(222, 3, 3, ck_one 14), (223, 0, 179, ck_one 0), (222, 1, 1, ck_one 6), (3, 0, 0, ck_one 3)]), 300, .inl 6, true)] 194 p34x_501 = true := by decide +kernel
theorem p34x_501_s {X : Int → Int} {LX : Nat} : ck_Ok p1_O X LX 219 p34x_501 := ck_ok_s (ck_E1 (ck_S1 p34x_498_s ck_S0) ck_E0) ck_X0 ck_l0 p34x_501_e
set_option maxRecDepth 100000 in
def p34x_502 : ck_Sum := ((3, 0, 0), 245, [.inr (.inr (.inl 1)), .inl (ck_one 14), .inl (ck_one 1)], ([], [], [(222, 1, 1, ck_one 6), (222, 0, 0, ck_one 30), (222, 3, 3, ck_one 0), (1, 15, 15, ck_one 0), (220, 0, 0, ck_one 24), (220, 3, 3, ck_one 0), (10, 3, 3, ck_one 0), (3, 0, 0, ck_one 3), (223, 0, 179, ck_one 0)]), ([(1, 15, 15), (220, 3, 3), (221, 0, 47), (222, 3, 3), (223, 0, 179)], []), [(.inr (some (.inl (ck_one 0))), 245, ([], [], [(222, 3, 3, ck_one 14), (1, 15, 15, ck_one 1), (220, 3, 3, ck_one 0), (223, 0, 179, ck_one 0)]))])
set_option maxRecDepth 100000 in
theorem p34x_502_e : ck_ok p1_O none [] [(214, [p34x_480]), (24, [p34x_148]), (215, [p34x_482]), (219, [p34x_500, p34x_501])] 218 [(19, [some (.inr (.inr (.inl 1))), some (.inl (ck_one 14)), some (.inl (ck_one 1)), some (.inl (ck_one 0)), some (.inl (1, 3, none))], ([], [], [(222, 3, 3, ck_one 14), (223, 0, 179, ck_one 0), (1, 15, 15, ck_one 1), (220, 3, 3, ck_one 0), (222, 1, 1, ck_one 6), (222, 0, 0, ck_one 30), (220, 0, 0, ck_one 24), (10, 3, 3, ck_one 0), (3, 0, 0, ck_one 3)]), 100, .inl 4, true)] 158 p34x_502 = true := by decide +kernel
theorem p34x_502_s {X : Int → Int} {LX : Nat} : ck_Ok p1_O X LX 218 p34x_502 := ck_ok_s (ck_E1 (ck_S1 p34x_480_s ck_S0) (ck_E1 (ck_S1 p34x_148_s ck_S0) (ck_E1 (ck_S1 p34x_482_s ck_S0) (ck_E1 (ck_S1 p34x_500_s (ck_S1 p34x_501_s ck_S0)) ck_E0)))) ck_X0 ck_l0 p34x_502_e
set_option maxRecDepth 100000 in
def p34x_503 : ck_Sum := ((4, 0, 0), 245, [.inr (.inr (.inl 1)), .inl (ck_one 14), .inl (ck_one 1), .inr (.inr (.inl 245))], ([], [], [(222, 1, 1, ck_one 6), (222, 0, 0, ck_one 30), (222, 3, 3, ck_one 0), (1, 15, 15, ck_one 0), (220, 0, 0, ck_one 24), (220, 3, 3, ck_one 0), (10, 3, 3, ck_one 0), (3, 0, 0, ck_one 3), (223, 0, 179, ck_one 0)]), ([(1, 15, 15), (220, 3, 3), (221, 0, 47), (222, 3, 3), (223, 0, 179), (245, 0, 0)], []), [(.inr (some (.inl (ck_one 0))), 245, ([], [], [(245, 0, 0, ck_one 0), (222, 3, 3, ck_one 14), (1, 15, 15, ck_one 1), (220, 3, 3, ck_one 0), (223, 0, 179, ck_one 0)]))])
set_option maxRecDepth 100000 in
theorem p34x_503_e : ck_ok p1_O none [] [(218, [p34x_502])] 217 [] 92 p34x_503 = true := by decide +kernel
theorem p34x_503_s {X : Int → Int} {LX : Nat} : ck_Ok p1_O X LX 217 p34x_503 := ck_ok_s (ck_E1 (ck_S1 p34x_502_s ck_S0) ck_E0) ck_X0 ck_l0 p34x_503_e
set_option maxRecDepth 100000 in
def p34x_509 : ck_Sum := ((3, 0, 0), 245, [.inr (.inr (.inl 1)), .inl (ck_one 14), .inl (ck_one 0)], ([], [], [(222, 1, 1, ck_one 6), (222, 0, 0, ck_one 30), (222, 3, 3, ck_one 0), (1, 15, 15, ck_one 0), (220, 0, 0, ck_one 24), (220, 3, 3, ck_one 0), (10, 3, 3, ck_one 0), (3, 0, 0, ck_one 3), (223, 0, 179, ck_one 0)]), ([(1, 15, 15), (220, 3, 3), (221, 0, 47), (222, 3, 3), (223, 0, 179)], []), [(.inr (some (.inl (ck_one 0))), 245, ([], [], [(222, 3, 3, ck_one 14), (1, 15, 15, ck_one 1), (220, 3, 3, ck_one 0), (223, 0, 179, ck_one 0)]))])
set_option maxRecDepth 100000 in
theorem p34x_509_e : ck_ok p1_O none [] [(214, [p34x_480]), (24, [p34x_148]), (215, [p34x_482]), (219, [p34x_501, p34x_500])] 218 [(19, [some (.inr (.inr (.inl 1))), some (.inl (ck_one 14)), some (.inl (ck_one 0)), some (.inl (ck_one 0)), some (.inl (1, 3, none))], ([], [], [(222, 3, 3, ck_one 14), (223, 0, 179, ck_one 0), (1, 15, 15, ck_one 1), (220, 3, 3, ck_one 0), (222, 1, 1, ck_one 6), (222, 0, 0, ck_one 30), (220, 0, 0, ck_one 24), (10, 3, 3, ck_one 0), (3, 0, 0, ck_one 3)]), 100, .inl 4, true)] 158 p34x_509 = true := by decide +kernel
theorem p34x_509_s {X : Int → Int} {LX : Nat} : ck_Ok p1_O X LX 218 p34x_509 := ck_ok_s (ck_E1 (ck_S1 p34x_480_s ck_S0) (ck_E1 (ck_S1 p34x_148_s ck_S0) (ck_E1 (ck_S1 p34x_482_s ck_S0) (ck_E1 (ck_S1 p34x_501_s (ck_S1 p34x_500_s ck_S0)) ck_E0)))) ck_X0 ck_l0 p34x_509_e
set_option maxRecDepth 100000 in
def p34x_510 : ck_Sum := ((4, 0, 0), 245, [.inr (.inr (.inl 1)), .inl (ck_one 14), .inl (ck_one 0), .inr (.inr (.inl 245))], ([], [], [(222, 1, 1, ck_one 6), (222, 0, 0, ck_one 30), (222, 3, 3, ck_one 0), (1, 15, 15, ck_one 0), (220, 0, 0, ck_one 24), (220, 3, 3, ck_one 0), (10, 3, 3, ck_one 0), (3, 0, 0, ck_one 3), (223, 0, 179, ck_one 0)]), ([(1, 15, 15), (220, 3, 3), (221, 0, 47), (222, 3, 3), (223, 0, 179), (245, 0, 0)], []), [(.inr (some (.inl (ck_one 0))), 245, ([], [], [(245, 0, 0, ck_one 0), (222, 3, 3, ck_one 14), (1, 15, 15, ck_one 1), (220, 3, 3, ck_one 0), (223, 0, 179, ck_one 0)]))])
set_option maxRecDepth 100000 in
theorem p34x_510_e : ck_ok p1_O none [] [(218, [p34x_509])] 217 [] 92 p34x_510 = true := by decide +kernel
theorem p34x_510_s {X : Int → Int} {LX : Nat} : ck_Ok p1_O X LX 217 p34x_510 := ck_ok_s (ck_E1 (ck_S1 p34x_509_s ck_S0) ck_E0) ck_X0 ck_l0 p34x_510_e
set_option maxRecDepth 100000 in
def p34x_512 : ck_Sum := ((0, 0, 0), 245, [.inr (.inr (.inl 1)), .inl (ck_one 15)], ([], [], []), ([], []), [(.inr none, 245, ([], [], []))])
set_option maxRecDepth 100000 in
theorem p34x_512_e : ck_ok p1_O none [] [] 214 [] 84 p34x_512 = true := by decide +kernel
theorem p34x_512_s {X : Int → Int} {LX : Nat} : ck_Ok p1_O X LX 214 p34x_512 := ck_ok_s (ck_E0) ck_X0 ck_l0 p34x_512_e
set_option maxRecDepth 100000 in
def p34x_513 : ck_Sum := ((1, 0, 0), 245, [.inr (.inr (.inl 222)), .inl (ck_one 15)], ([], [], [(222, 0, 0, ck_one 30), (223, 0, 179, ck_one 0)]), ([(222, 3, 3), (223, 0, 179)], []), [(.inr none, 245, ([], [], [(222, 3, 3, ck_one 15), (223, 0, 179, ck_one 0)]))])
set_option maxRecDepth 100000 in
theorem p34x_513_e : ck_ok p1_O none [] [(8, [p34x_149])] 25 [] 96 p34x_513 = true := by decide +kernel
theorem p34x_513_s {X : Int → Int} {LX : Nat} : ck_Ok p1_O X LX 25 p34x_513 := ck_ok_s (ck_E1 (ck_S1 p34x_149_s ck_S0) ck_E0) ck_X0 ck_l0 p34x_513_e
set_option maxRecDepth 100000 in
def p34x_514 : ck_Sum := ((2, 0, 0), 245, [.inr (.inr (.inl 1)), .inl (ck_one 15)], ([], [], [(220, 3, 3, ck_one 0), (222, 0, 0, ck_one 30), (222, 3, 3, ck_one 0), (223, 0, 179, ck_one 0)]), ([(222, 3, 3), (223, 0, 179)], []), [(.inr none, 245, ([], [], [(222, 3, 3, ck_one 15), (223, 0, 179, ck_one 0)]))])
set_option maxRecDepth 100000 in
theorem p34x_514_e : ck_ok p1_O none [] [(25, [p34x_513]), (9, [p34x_147])] 215 [(10, [some (.inr (.inr (.inl 1))), some (.inl (ck_one 15)), some (.inl (ck_one 0)), none, none], ([], [], [(222, 3, 3, ck_one 15), (223, 0, 179, ck_one 0), (220, 3, 3, ck_one 0), (222, 0, 0, ck_one 30)]), 100, .inl 2, true)] 118 p34x_514 = true := by decide +kernel
theorem p34x_514_s {X : Int → Int} {LX : Nat} : ck_Ok p1_O X LX 215 p34x_514 := ck_ok_s (ck_E1 (ck_S1 p34x_513_s ck_S0) (ck_E1 (ck_S1 p34x_147_s ck_S0) ck_E0)) ck_X0 ck_l0 p34x_514_e
set_option maxRecDepth 100000 in
def p34x_531 : ck_Sum := ((0, 0, 0), 245, [.inr (.inr (.inl 222)), .inl (0, 14, none), .inl (0, 2, none)], ([], [], [(222, 3, 3, ck_one 15), (223, 0, 179, ck_one 0), (222, 1, 1, ck_one 6)]), ([], []), [(.inr (some (.inl (ck_one 0))), 245, ([], [], []))])
set_option maxRecDepth 100000 in
theorem p34x_531_e : ck_ok p1_O none [] [] 10 [] 114 p34x_531 = true := by decide +kernel
theorem p34x_531_s {X : Int → Int} {LX : Nat} : ck_Ok p1_O X LX 10 p34x_531 := ck_ok_s (ck_E0) ck_X0 ck_l0 p34x_531_e
set_option maxRecDepth 100000 in
def p34x_533 : ck_Sum := ((1, 0, 0), 245, [.inr (.inr (.inl 1)), .inl (ck_one 0), .inl (ck_one 15)], ([], [], [(222, 3, 3, ck_one 15), (223, 0, 179, ck_one 0), (222, 1, 1, ck_one 6), (3, 0, 0, ck_one 3)]), ([], []), [(.inr (some (.inl (ck_one 0))), 245, ([], [], []))])
set_option maxRecDepth 100000 in
theorem p34x_533_e : ck_ok p1_O none [] [(10, [p34x_531])] 219 [(5, [some (.inr (.inr (.inl 1))), some (.inl (ck_one 0)), some (.inl (ck_one 15)), some (.inl (ck_one 0)), some (.inl (0, 3, none)), none, none], ([], [], [(222, 3, 3, ck_one 15), (223, 0, 179, ck_one 0), (222, 1, 1, ck_one 6), (3, 0, 0, ck_one 3)]), 100, .inl 4, true), (23, [some (.inr (.inr (.inl 1))), some (.inl (ck_one 0)), some (.inl (ck_one 15)), some (.inl (ck_one 0)), some (.inl (0, 2, some (100, 0))), some (.inl (ck_one 0)), some (.inl (0, 15, none))], ([], [], [(222, 3, 3, ck_one 15), (223, 0, 179, ck_one 0), (222, 1, 1, ck_one 6), (3, 0, 0, ck_one 3)]), 300, .inl 6, true)] 194 p34x_533 = true := by decide +kernel
theorem p34x_533_s {X : Int → Int} {LX : Nat} : ck_Ok p1_O X LX 219 p34x_533 := ck_ok_s (ck_E1 (ck_S1 p34x_531_s ck_S0) ck_E0) ck_X0 ck_l0 p34x_533_e
set_option maxRecDepth 100000 in
def p34x_534 : ck_Sum := ((1, 0, 0), 245, [.inr (.inr (.inl 1)), .inl (1, 2, none), .inl (ck_one 15)], ([], [], [(222, 3, 3, ck_one 15), (223, 0, 179, ck_one 0), (222, 1, 1, ck_one 6), (3, 0, 0, ck_one 3)]), ([], []), [(.inr (some (.inl (ck_one 0))), 245, ([], [], []))])
set_option maxRecDepth 100000 in
theorem p34x_534_e : ck_ok p1_O none [] [(10, [p34x_531])] 219 [(5, [some (.inr (.inr (.inl 1))), some (.inl (1, 2, none)), some (.inl (ck_one 15)), some (.inl (ck_one 0)), some (.inl (0, 3, none)), none, none], ([], [], [(222, 3, 3, ck_one 15), (223, 0, 179, ck_one 0), (222, 1, 1, ck_one 6), (3, 0, 0, ck_one 3)]), 100, .inl 4, true), (23, [some (.inr (.inr (.inl 1))), some (.inl (1, 2, none)), some (.inl (ck_one 15)), some (.inl (ck_one 0)), some (.inl (0, 2, some (100, 0))), some (.inl (ck_one 0)), some (.inl (0, 15, none))], ([], [], [(222, 3, 3, ck_one 15), (223, 0, 179, ck_one 0), (222, 1, 1, ck_one 6), (3, 0, 0, ck_one 3)]), 300, .inl 6, true)] 194 p34x_534 = true := by decide +kernel
theorem p34x_534_s {X : Int → Int} {LX : Nat} : ck_Ok p1_O X LX 219 p34x_534 := ck_ok_s (ck_E1 (ck_S1 p34x_531_s ck_S0) ck_E0) ck_X0 ck_l0 p34x_534_e
set_option maxRecDepth 100000 in
def p34x_535 : ck_Sum := ((3, 0, 0), 245, [.inr (.inr (.inl 1)), .inl (ck_one 15), .inl (ck_one 1)], ([], [], [(222, 1, 1, ck_one 6), (222, 0, 0, ck_one 30), (222, 3, 3, ck_one 0), (1, 15, 15, ck_one 0), (220, 0, 0, ck_one 24), (220, 3, 3, ck_one 0), (10, 3, 3, ck_one 0), (3, 0, 0, ck_one 3), (223, 0, 179, ck_one 0)]), ([(1, 15, 15), (220, 3, 3), (221, 0, 47), (222, 3, 3), (223, 0, 179)], []), [(.inr (some (.inl (ck_one 0))), 245, ([], [], [(222, 3, 3, ck_one 15), (1, 15, 15, ck_one 1), (220, 3, 3, ck_one 0), (223, 0, 179, ck_one 0)]))])
set_option maxRecDepth 100000 in
theorem p34x_535_e : ck_ok p1_O none [] [(214, [p34x_512]), (24, [p34x_148]), (215, [p34x_514]), (219, [p34x_533, p34x_534])] 218 [(19, [some (.inr (.inr (.inl 1))), some (.inl (ck_one 15)), some (.inl (ck_one 1)), some (.inl (ck_one 0)), some (.inl (1, 3, none))], ([], [], [(222, 3, 3, ck_one 15), (223, 0, 179, ck_one 0), (1, 15, 15, ck_one 1), (220, 3, 3, ck_one 0), (222, 1, 1, ck_one 6), (222, 0, 0, ck_one 30), (220, 0, 0, ck_one 24), (10, 3, 3, ck_one 0), (3, 0, 0, ck_one 3)]), 100, .inl 4, true)] 158 p34x_535 = true := by decide +kernel
theorem p34x_535_s {X : Int → Int} {LX : Nat} : ck_Ok p1_O X LX 218 p34x_535 := ck_ok_s (ck_E1 (ck_S1 p34x_512_s ck_S0) (ck_E1 (ck_S1 p34x_148_s ck_S0) (ck_E1 (ck_S1 p34x_514_s ck_S0) (ck_E1 (ck_S1 p34x_533_s (ck_S1 p34x_534_s ck_S0)) ck_E0)))) ck_X0 ck_l0 p34x_535_e
set_option maxRecDepth 100000 in
def p34x_536 : ck_Sum := ((4, 0, 0), 245, [.inr (.inr (.inl 1)), .inl (ck_one 15), .inl (ck_one 1), .inr (.inr (.inl 245))], ([], [], [(222, 1, 1, ck_one 6), (222, 0, 0, ck_one 30), (222, 3, 3, ck_one 0), (1, 15, 15, ck_one 0), (220, 0, 0, ck_one 24), (220, 3, 3, ck_one 0), (10, 3, 3, ck_one 0), (3, 0, 0, ck_one 3), (223, 0, 179, ck_one 0)]), ([(1, 15, 15), (220, 3, 3), (221, 0, 47), (222, 3, 3), (223, 0, 179), (245, 0, 0)], []), [(.inr (some (.inl (ck_one 0))), 245, ([], [], [(245, 0, 0, ck_one 0), (222, 3, 3, ck_one 15), (1, 15, 15, ck_one 1), (220, 3, 3, ck_one 0), (223, 0, 179, ck_one 0)]))])
set_option maxRecDepth 100000 in
theorem p34x_536_e : ck_ok p1_O none [] [(218, [p34x_535])] 217 [] 92 p34x_536 = true := by decide +kernel
theorem p34x_536_s {X : Int → Int} {LX : Nat} : ck_Ok p1_O X LX 217 p34x_536 := ck_ok_s (ck_E1 (ck_S1 p34x_535_s ck_S0) ck_E0) ck_X0 ck_l0 p34x_536_e
set_option maxRecDepth 100000 in
def p34x_542 : ck_Sum := ((3, 0, 0), 245, [.inr (.inr (.inl 1)), .inl (ck_one 15), .inl (ck_one 0)], ([], [], [(222, 1, 1, ck_one 6), (222, 0, 0, ck_one 30), (222, 3, 3, ck_one 0), (1, 15, 15, ck_one 0), (220, 0, 0, ck_one 24), (220, 3, 3, ck_one 0), (10, 3, 3, ck_one 0), (3, 0, 0, ck_one 3), (223, 0, 179, ck_one 0)]), ([(1, 15, 15), (220, 3, 3), (221, 0, 47), (222, 3, 3), (223, 0, 179)], []), [(.inr (some (.inl (ck_one 0))), 245, ([], [], [(222, 3, 3, ck_one 15), (1, 15, 15, ck_one 1), (220, 3, 3, ck_one 0), (223, 0, 179, ck_one 0)]))])
set_option maxRecDepth 100000 in
theorem p34x_542_e : ck_ok p1_O none [] [(214, [p34x_512]), (24, [p34x_148]), (215, [p34x_514]), (219, [p34x_534, p34x_533])] 218 [(19, [some (.inr (.inr (.inl 1))), some (.inl (ck_one 15)), some (.inl (ck_one 0)), some (.inl (ck_one 0)), some (.inl (1, 3, none))], ([], [], [(222, 3, 3, ck_one 15), (223, 0, 179, ck_one 0), (1, 15, 15, ck_one 1), (220, 3, 3, ck_one 0), (222, 1, 1, ck_one 6), (222, 0, 0, ck_one 30), (220, 0, 0, ck_one 24), (10, 3, 3, ck_one 0), (3, 0, 0, ck_one 3)]), 100, .inl 4, true)] 158 p34x_542 = true := by decide +kernel
theorem p34x_542_s {X : Int → Int} {LX : Nat} : ck_Ok p1_O X LX 218 p34x_542 := ck_ok_s (ck_E1 (ck_S1 p34x_512_s ck_S0) (ck_E1 (ck_S1 p34x_148_s ck_S0) (ck_E1 (ck_S1 p34x_514_s ck_S0) (ck_E1 (ck_S1 p34x_534_s (ck_S1 p34x_533_s ck_S0)) ck_E0)))) ck_X0 ck_l0 p34x_542_e
set_option maxRecDepth 100000 in
def p34x_543 : ck_Sum := ((4, 0, 0), 245, [.inr (.inr (.inl 1)), .inl (ck_one 15), .inl (ck_one 0), .inr (.inr (.inl 245))], ([], [], [(222, 1, 1, ck_one 6), (222, 0, 0, ck_one 30), (222, 3, 3, ck_one 0), (1, 15, 15, ck_one 0), (220, 0, 0, ck_one 24), (220, 3, 3, ck_one 0), (10, 3, 3, ck_one 0), (3, 0, 0, ck_one 3), (223, 0, 179, ck_one 0)]), ([(1, 15, 15), (220, 3, 3), (221, 0, 47), (222, 3, 3), (223, 0, 179), (245, 0, 0)], []), [(.inr (some (.inl (ck_one 0))), 245, ([], [], [(245, 0, 0, ck_one 0), (222, 3, 3, ck_one 15), (1, 15, 15, ck_one 1), (220, 3, 3, ck_one 0), (223, 0, 179, ck_one 0)]))])
set_option maxRecDepth 100000 in
theorem p34x_543_e : ck_ok p1_O none [] [(218, [p34x_542])] 217 [] 92 p34x_543 = true := by decide +kernel
theorem p34x_543_s {X : Int → Int} {LX : Nat} : ck_Ok p1_O X LX 217 p34x_543 := ck_ok_s (ck_E1 (ck_S1 p34x_542_s ck_S0) ck_E0) ck_X0 ck_l0 p34x_543_e
set_option maxRecDepth 100000 in
def p34x_545 : ck_Sum := ((0, 0, 0), 245, [.inr (.inr (.inl 1)), .inl (ck_one 16)], ([], [], []), ([], []), [(.inr none, 245, ([], [], []))])
set_option maxRecDepth 100000 in
theorem p34x_545_e : ck_ok p1_O none [] [] 214 [] 84 p34x_545 = true := by decide +kernel
theorem p34x_545_s {X : Int → Int} {LX : Nat} : ck_Ok p1_O X LX 214 p34x_545 := ck_ok_s (ck_E0) ck_X0 ck_l0 p34x_545_e
set_option maxRecDepth 100000 in
def p34x_546 : ck_Sum := ((1, 0, 0), 245, [.inr (.inr (.inl 222)), .inl (ck_one 16)], ([], [], [(222, 0, 0, ck_one 30), (223, 0, 179, ck_one 0)]), ([(222, 3, 3), (223, 0, 179)], []), [(.inr none, 245, ([], [], [(222, 3, 3, ck_one 16), (223, 0, 179, ck_one 0)]))])
set_option maxRecDepth 100000 in
theorem p34x_546_e : ck_ok p1_O none [] [(8, [p34x_149])] 25 [] 96 p34x_546 = true := by decide +kernel
theorem p34x_546_s {X : Int → Int} {LX : Nat} : ck_Ok p1_O X LX 25 p34x_546 := ck_ok_s (ck_E1 (ck_S1 p34x_149_s ck_S0) ck_E0) ck_X0 ck_l0 p34x_546_e
set_option maxRecDepth 100000 in
def p34x_547 : ck_Sum := ((2, 0, 0), 245, [.inr (.inr (.inl 1)), .inl (ck_one 16)], ([], [], [(220, 3, 3, ck_one 0), (222, 0, 0, ck_one 30), (222, 3, 3, ck_one 0), (223, 0, 179, ck_one 0)]), ([(222, 3, 3), (223, 0, 179)], []), [(.inr none, 245, ([], [], [(222, 3, 3, ck_one 16), (223, 0, 179, ck_one 0)]))])
set_option maxRecDepth 100000 in
theorem p34x_547_e : ck_ok p1_O none [] [(25, [p34x_546]), (9, [p34x_147])] 215 [(10, [some (.inr (.inr (.inl 1))), some (.inl (ck_one 16)), some (.inl (ck_one 0)), none, none], ([], [], [(222, 3, 3, ck_one 16), (223, 0, 179, ck_one 0), (220, 3, 3, ck_one 0), (222, 0, 0, ck_one 30)]), 100, .inl 2, true)] 118 p34x_547 = true := by decide +kernel
theorem p34x_547_s {X : Int → Int} {LX : Nat} : ck_Ok p1_O X LX 215 p34x_547 := ck_ok_s (ck_E1 (ck_S1 p34x_546_s ck_S0) (ck_E1 (ck_S1 p34x_147_s ck_S0) ck_E0)) ck_X0 ck_l0 p34x_547_e
set_option maxRecDepth 100000 in
def p34x_565 : ck_Sum := ((0, 0, 0), 245, [.inr (.inr (.inl 222)), .inl (0, 15, none), .inl (0, 2, none)], ([], [], [(222, 3, 3, ck_one 16), (223, 0, 179, ck_one 0), (222, 1, 1, ck_one 6)]), ([], []), [(.inr (some (.inl (ck_one 0))), 245, ([], [], []))])
set_option maxRecDepth 100000 in
theorem p34x_565_e : ck_ok p1_O none [] [] 10 [] 114 p34x_565 = true := by decide +kernel
theorem p34x_565_s {X : Int → Int} {LX : Nat} : ck_Ok p1_O X LX 10 p34x_565 := ck_ok_s (ck_E0) ck_X0 ck_l0 p34x_565_e
set_option maxRecDepth 100000 in
def p34x_567 : ck_Sum := ((1, 0, 0), 245, [.inr (.inr (.inl 1)), .inl (ck_one 0), .inl (ck_one 16)], ([], [], [(222, 3, 3, ck_one 16), (223, 0, 179, ck_one 0), (222, 1, 1, ck_one 6), (3, 0, 0, ck_one 3)]), ([], []), [(.inr (some (.inl (ck_one 0))), 245, ([], [], []))])
set_option maxRecDepth 100000 in
theorem p34x_567_e : ck_ok p1_O none [] [(10, [p34x_565])] 219 [(5, [some (.inr (.inr (.inl 1))), some (.inl (ck_one 0)), some (.inl (ck_one 16)), some (.inl (ck_one 0)), some (.inl (0, 3, none)), none, none], ([], [], [(222, 3, 3, ck_one 16), (223, 0, 179, ck_one 0), (222, 1, 1, ck_one 6), (3, 0, 0, ck_one 3)]), 100, .inl 4, true), (23, [some (.inr (.inr (.inl 1))), some (.inl (ck_one 0)), some (.inl (ck_one 16)), some (.inl (ck_one 0)), some (.inl (0, 2, some (100, 0))), some (.inl (ck_one 0)), some (.inl (0, 16, none))], ([], [], [(222, 3, 3, ck_one 16), (223, 0, 179, ck_one 0), (222, 1, 1, ck_one 6), (3, 0, 0, ck_one 3)]), 300, .inl 6, true)] 194 p34x_567 = true := by decide +kernel
theorem p34x_567_s {X : Int → Int} {LX : Nat} : ck_Ok p1_O X LX 219 p34x_567 := ck_ok_s (ck_E1 (ck_S1 p34x_565_s ck_S0) ck_E0) ck_X0 ck_l0 p34x_567_e
set_option maxRecDepth 100000 in
def p34x_568 : ck_Sum := ((1, 0, 0), 245, [.inr (.inr (.inl 1)), .inl (1, 2, none), .inl (ck_one 16)], ([], [], [(222, 3, 3, ck_one 16), (223, 0, 179, ck_one 0), (222, 1, 1, ck_one 6), (3, 0, 0, ck_one 3)]), ([], []), [(.inr (some (.inl (ck_one 0))), 245, ([], [], []))])
set_option maxRecDepth 100000 in
theorem p34x_568_e : ck_ok p1_O none [] [(10, [p34x_565])] 219 [(5, [some (.inr (.inr (.inl 1))), some (.inl (1, 2, none)), some (.inl (ck_one 16)), some (.inl (ck_one 0)), some (.inl (0, 3, none)), none, none], ([], [], [(222, 3, 3, ck_one 16), (223, 0, 179, ck_one 0), (222, 1, 1, ck_one 6), (3, 0, 0, ck_one 3)]), 100, .inl 4, true), (23, [some (.inr (.inr (.inl 1))), some (.inl (1, 2, none)), some (.inl (ck_one 16)), some (.inl (ck_one 0)), some (.inl (0, 2, some (100, 0))), some (.inl (ck_one 0)), some (.inl (0, 16, none))], ([], [], [(222, 3, 3, ck_one 16), (223, 0, 179, ck_one 0), (222, 1, 1, ck_one 6), (3, 0, 0, ck_one 3)]), 300, .inl 6, true)] 194 p34x_568 = true := by decide +kernel
theorem p34x_568_s {X : Int → Int} {LX : Nat} : ck_Ok p1_O X LX 219 p34x_568 := ck_ok_s (ck_E1 (ck_S1 p34x_565_s ck_S0) ck_E0) ck_X0 ck_l0 p34x_568_e
set_option maxRecDepth 100000 in
def p34x_569 : ck_Sum := ((3, 0, 0), 245, [.inr (.inr (.inl 1)), .inl (ck_one 16), .inl (ck_one 1)], ([], [], [(222, 1, 1, ck_one 6), (222, 0, 0, ck_one 30), (222, 3, 3, ck_one 0), (1, 15, 15, ck_one 0), (220, 0, 0, ck_one 24), (220, 3, 3, ck_one 0), (10, 3, 3, ck_one 0), (3, 0, 0, ck_one 3), (223, 0, 179, ck_one 0)]), ([(1, 15, 15), (220, 3, 3), (221, 0, 47), (222, 3, 3), (223, 0, 179)], []), [(.inr (some (.inl (ck_one 0))), 245, ([], [], [(222, 3, 3, ck_one 16), (1, 15, 15, ck_one 1), (220, 3, 3, ck_one 0), (223, 0, 179, ck_one 0)]))])
set_option maxRecDepth 100000 in
theorem p34x_569_e : ck_ok p1_O none [] [(214, [p34x_545]), (24, [p34x_148]), (215, [p34x_547]), (219, [p34x_567, p34x_568])] 218 [(19, [some (.inr (.inr (.inl 1))), some (.inl (ck_one 16)), some (.inl (ck_one 1)), some (.inl (ck_one 0)), some (.inl (1, 3, none))], ([], [], [(222, 3, 3, ck_one 16), (223, 0, 179, ck_one 0), (1, 15, 15, ck_one 1), (220, 3, 3, ck_one 0), (222, 1, 1, ck_one 6), (222, 0, 0, ck_one 30), (220, 0, 0, ck_one 24), (10, 3, 3, ck_one 0), (3, 0, 0, ck_one 3)]), 100, .inl 4, true)] 158 p34x_569 = true := by decide +kernel
theorem p34x_569_s {X : Int → Int} {LX : Nat} : ck_Ok p1_O X LX 218 p34x_569 := ck_ok_s (ck_E1 (ck_S1 p34x_545_s ck_S0) (ck_E1 (ck_S1 p34x_148_s ck_S0) (ck_E1 (ck_S1 p34x_547_s ck_S0) (ck_E1 (ck_S1 p34x_567_s (ck_S1 p34x_568_s ck_S0)) ck_E0)))) ck_X0 ck_l0 p34x_569_e
set_option maxRecDepth 100000 in
def p34x_570 : ck_Sum := ((4, 0, 0), 245, [.inr (.inr (.inl 1)), .inl (ck_one 16), .inl (ck_one 1), .inr (.inr (.inl 245))], ([], [], [(222, 1, 1, ck_one 6), (222, 0, 0, ck_one 30), (222, 3, 3, ck_one 0), (1, 15, 15, ck_one 0), (220, 0, 0, ck_one 24), (220, 3, 3, ck_one 0), (10, 3, 3, ck_one 0), (3, 0, 0, ck_one 3), (223, 0, 179, ck_one 0)]), ([(1, 15, 15), (220, 3, 3), (221, 0, 47), (222, 3, 3), (223, 0, 179), (245, 0, 0)], []), [(.inr (some (.inl (ck_one 0))), 245, ([], [], [(245, 0, 0, ck_one 0), (222, 3, 3, ck_one 16), (1, 15, 15, ck_one 1), (220, 3, 3, ck_one 0), (223, 0, 179, ck_one 0)]))])
set_option maxRecDepth 100000 in
theorem p34x_570_e : ck_ok p1_O none [] [(218, [p34x_569])] 217 [] 92 p34x_570 = true := by decide +kernel
theorem p34x_570_s {X : Int → Int} {LX : Nat} : ck_Ok p1_O X LX 217 p34x_570 := ck_ok_s (ck_E1 (ck_S1 p34x_569_s ck_S0) ck_E0) ck_X0 ck_l0 p34x_570_e
set_option maxRecDepth 100000 in
def p34x_576 : ck_Sum := ((3, 0, 0), 245, [.inr (.inr (.inl 1)), .inl (ck_one 16), .inl (ck_one 0)], ([], [], [(222, 1, 1, ck_one 6), (222, 0, 0, ck_one 30), (222, 3, 3, ck_one 0), (1, 15, 15, ck_one 0), (220, 0, 0, ck_one 24), (220, 3, 3, ck_one 0), (10, 3, 3, ck_one 0), (3, 0, 0, ck_one 3), (223, 0, 179, ck_one 0)]), ([(1, 15, 15), (220, 3, 3), (221, 0, 47), (222, 3, 3), (223, 0, 179)], []), [(.inr (some (.inl (ck_one 0))), 245, ([], [], [(222, 3, 3, ck_one 16), (1, 15, 15, ck_one 1), (220, 3, 3, ck_one 0), (223, 0, 179, ck_one 0)]))])
set_option maxRecDepth 100000 in
theorem p34x_576_e : ck_ok p1_O none [] [(214, [p34x_545]), (24, [p34x_148]), (215, [p34x_547]), (219, [p34x_568, p34x_567])] 218 [(19, [some (.inr (.inr (.inl 1))), some (.inl (ck_one 16)), some (.inl (ck_one 0)), some (.inl (ck_one 0)), some (.inl (1, 3, none))], ([], [], [(222, 3, 3, ck_one 16), (223, 0, 179, ck_one 0), (1, 15, 15, ck_one 1), (220, 3, 3, ck_one 0), (222, 1, 1, ck_one 6), (222, 0, 0, ck_one 30), (220, 0, 0, ck_one 24), (10, 3, 3, ck_one 0), (3, 0, 0, ck_one 3)]), 100, .inl 4, true)] 158 p34x_576 = true := by decide +kernel
theorem p34x_576_s {X : Int → Int} {LX : Nat} : ck_Ok p1_O X LX 218 p34x_576 := ck_ok_s (ck_E1 (ck_S1 p34x_545_s ck_S0) (ck_E1 (ck_S1 p34x_148_s ck_S0) (ck_E1 (ck_S1 p34x_547_s ck_S0) (ck_E1 (ck_S1 p34x_568_s (ck_S1 p34x_567_s ck_S0)) ck_E0)))) ck_X0 ck_l0 p34x_576_e
set_option maxRecDepth 100000 in
def p34x_577 : ck_Sum := ((4, 0, 0), 245, [.inr (.inr (.inl 1)), .inl (ck_one 16), .inl (ck_one 0), .inr (.inr (.inl 245))], ([], [], [(222, 1, 1, ck_one 6), (222, 0, 0, ck_one 30), (222, 3, 3, ck_one 0), (1, 15, 15, ck_one 0), (220, 0, 0, ck_one 24), (220, 3, 3, ck_one 0), (10, 3, 3, ck_one 0), (3, 0, 0, ck_one 3), (223, 0, 179, ck_one 0)]), ([(1, 15, 15), (220, 3, 3), (221, 0, 47), (222, 3, 3), (223, 0, 179), (245, 0, 0)], []), [(.inr (some (.inl (ck_one 0))), 245, ([], [], [(245, 0, 0, ck_one 0), (222, 3, 3, ck_one 16), (1, 15, 15, ck_one 1), (220, 3, 3, ck_one 0), (223, 0, 179, ck_one 0)]))])
set_option maxRecDepth 100000 in
theorem p34x_577_e : ck_ok p1_O none [] [(218, [p34x_576])] 217 [] 92 p34x_577 = true := by decide +kernel
theorem p34x_577_s {X : Int → Int} {LX : Nat} : ck_Ok p1_O X LX 217 p34x_577 := ck_ok_s (ck_E1 (ck_S1 p34x_576_s ck_S0) ck_E0) ck_X0 ck_l0 p34x_577_e
set_option maxRecDepth 100000 in
def p34x_579 : ck_Sum := ((0, 0, 0), 245, [.inr (.inr (.inl 1)), .inl (ck_one 17)], ([], [], []), ([], []), [(.inr none, 245, ([], [], []))])
set_option maxRecDepth 100000 in
theorem p34x_579_e : ck_ok p1_O none [] [] 214 [] 84 p34x_579 = true := by decide +kernel
theorem p34x_579_s {X : Int → Int} {LX : Nat} : ck_Ok p1_O X LX 214 p34x_579 := ck_ok_s (ck_E0) ck_X0 ck_l0 p34x_579_e
set_option maxRecDepth 100000 in
def p34x_580 : ck_Sum := ((1, 0, 0), 245, [.inr (.inr (.inl 222)), .inl (ck_one 17)], ([], [], [(222, 0, 0, ck_one 30), (223, 0, 179, ck_one 0)]), ([(222, 3, 3), (223, 0, 179)], []), [(.inr none, 245, ([], [], [(222, 3, 3, ck_one 17), (223, 0, 179, ck_one 0)]))])
set_option maxRecDepth 100000 in
theorem p34x_580_e : ck_ok p1_O none [] [(8, [p34x_149])] 25 [] 96 p34x_580 = true := by decide +kernel
theorem p34x_580_s {X : Int → Int} {LX : Nat} : ck_Ok p1_O X LX 25 p34x_580 := ck_ok_s (ck_E1 (ck_S1 p34x_149_s ck_S0) ck_E0) ck_X0 ck_l0 p34x_580_e
set_option maxRecDepth 100000 in
def p34x_581 : ck_Sum := ((2, 0, 0), 245, [.inr (.inr (.inl 1)), .inl (ck_one 17)], ([], [], [(220, 3, 3, ck_one 0), (222, 0, 0, ck_one 30), (222, 3, 3, ck_one 0), (223, 0, 179, ck_one 0)]), ([(222, 3, 3), (223, 0, 179)], []), [(.inr none, 245, ([], [], [(222, 3, 3, ck_one 17), (223, 0, 179, ck_one 0)]))])
set_option maxRecDepth 100000 in
theorem p34x_581_e : ck_ok p1_O none [] [(25, [p34x_580]), (9, [p34x_147])] 215 [(10, [some (.inr (.inr (.inl 1))), some (.inl (ck_one 17)), some (.inl (ck_one 0)), none, none], ([], [], [(222, 3, 3, ck_one 17), (223, 0, 179, ck_one 0), (220, 3, 3, ck_one 0), (222, 0, 0, ck_one 30)]), 100, .inl 2, true)] 118 p34x_581 = true := by decide +kernel
theorem p34x_581_s {X : Int → Int} {LX : Nat} : ck_Ok p1_O X LX 215 p34x_581 := ck_ok_s (ck_E1 (ck_S1 p34x_580_s ck_S0) (ck_E1 (ck_S1 p34x_147_s ck_S0) ck_E0)) ck_X0 ck_l0 p34x_581_e
set_option maxRecDepth 100000 in
def p34x_600 : ck_Sum := ((0, 0, 0), 245, [.inr (.inr (.inl 222)), .inl (0, 16, none), .inl (0, 2, none)], ([], [], [(222, 3, 3, ck_one 17), (223, 0, 179, ck_one 0), (222, 1, 1, ck_one 6)]), ([], []), [(.inr (some (.inl (ck_one 0))), 245, ([], [], []))])
set_option maxRecDepth 100000 in
theorem p34x_600_e : ck_ok p1_O none [] [] 10 [] 114 p34x_600 = true := by decide +kernel
theorem p34x_600_s {X : Int → Int} {LX : Nat} : ck_Ok p1_O X LX 10 p34x_600 := ck_ok_s (ck_E0) ck_X0 ck_l0 p34x_600_e
set_option maxRecDepth 100000 in
def p34x_602 : ck_Sum := ((1, 0, 0), 245, [.inr (.inr (.inl 1)), .inl (ck_one 0), .inl (ck_one 17)], ([], [], [(222, 3, 3, ck_one 17), (223, 0, 179, ck_one 0), (222, 1, 1, ck_one 6), (3, 0, 0, ck_one 3)]), ([], []), [(.inr (some (.inl (ck_one 0))), 245, ([], [], []))])
set_option maxRecDepth 100000 in
theorem p34x_602_e : ck_ok p1_O none [] [(10, [p34x_600])] 219 [(5, [some (.inr (.inr (.inl 1))), some (.inl (ck_one 0)), some (.inl (ck_one 17)), some (.inl (ck_one 0)), some (.inl (0, 3, none)), none, none], ([], [], [(222, 3, 3, ck_one 17), (223, 0, 179, ck_one 0), (222, 1, 1, ck_one 6), (3, 0, 0, ck_one 3)]), 100, .inl 4, true), (23, [some (.inr (.inr (.inl 1))), some (.inl (ck_one 0)), some (.inl (ck_one 17)), some (.inl (ck_one 0)), some (.inl (0, 2, some (100, 0))), some (.inl (ck_one 0)), some (.inl (0, 17, none))], ([], [], [(222, 3, 3, ck_one 17), (223, 0, 179, ck_one 0), (222, 1, 1, ck_one 6), (3, 0, 0, ck_one 3)]), 300, .inl 6, true)] 194 p34x_602 = true := by decide +kernel
theorem p34x_602_s {X : Int → Int} {LX : Nat} : ck_Ok p1_O X LX 219 p34x_602 := ck_ok_s (ck_E1 (ck_S1 p34x_600_s ck_S0) ck_E0) ck_X0 ck_l0 p34x_602_e
set_option maxRecDepth 100000 in
def p34x_603 : ck_Sum := ((1, 0, 0), 245, [.inr (.inr (.inl 1)), .inl (1, 2, none), .inl (ck_one 17)], ([], [], [(222, 3, 3, ck_one 17), (223, 0, 179, ck_one 0), (222, 1, 1, ck_one 6), (3, 0, 0, ck_one 3)]), ([], []), [(.inr (some (.inl (ck_one 0))), 245, ([], [], []))])
set_option maxRecDepth 100000 in
theorem p34x_603_e : ck_ok p1_O none [] [(10, [p34x_600])] 219 [(5, [some (.inr (.inr (.inl 1))), some (.inl (1, 2, none)), some (.inl (ck_one 17)), some (.inl (ck_one 0)), some (.inl (0, 3, none)), none, none], ([], [], [(222, 3, 3, ck_one 17), (223, 0, 179, ck_one 0), (222, 1, 1, ck_one 6), (3, 0, 0, ck_one 3)]), 100, .inl 4, true), (23, [some (.inr (.inr (.inl 1))), some (.inl (1, 2, none)), some (.inl (ck_one 17)), some (.inl (ck_one 0)), some (.inl (0, 2, some (100, 0))), some (.inl (ck_one 0)), some (.inl (0, 17, none))], ([], [], [(222, 3, 3, ck_one 17), (223, 0, 179, ck_one 0), (222, 1, 1, ck_one 6), (3, 0, 0, ck_one 3)]), 300, .inl 6, true)] 194 p34x_603 = true := by decide +kernel
theorem p34x_603_s {X : Int → Int} {LX : Nat} : ck_Ok p1_O X LX 219 p34x_603 := ck_ok_s (ck_E1 (ck_S1 p34x_600_s ck_S0) ck_E0) ck_X0 ck_l0 p34x_603_e
set_option maxRecDepth 100000 in
def p34x_604 : ck_Sum := ((3, 0, 0), 245, [.inr (.inr (.inl 1)), .inl (ck_one 17), .inl (ck_one 1)], ([], [], [(222, 1, 1, ck_one 6), (222, 0, 0, ck_one 30), (222, 3, 3, ck_one 0), (1, 15, 15, ck_one 0), (220, 0, 0, ck_one 24), (220, 3, 3, ck_one 0), (10, 3, 3, ck_one 0), (3, 0, 0, ck_one 3), (223, 0, 179, ck_one 0)]), ([(1, 15, 15), (220, 3, 3), (221, 0, 47), (222, 3, 3), (223, 0, 179)], []), [(.inr (some (.inl (ck_one 0))), 245, ([], [], [(222, 3, 3, ck_one 17), (1, 15, 15, ck_one 1), (220, 3, 3, ck_one 0), (223, 0, 179, ck_one 0)]))])
set_option maxRecDepth 100000 in
theorem p34x_604_e : ck_ok p1_O none [] [(214, [p34x_579]), (24, [p34x_148]), (215, [p34x_581]), (219, [p34x_602, p34x_603])] 218 [(19, [some (.inr (.inr (.inl 1))), some (.inl (ck_one 17)), some (.inl (ck_one 1)), some (.inl (ck_one 0)), some (.inl (1, 3, none))], ([], [], [(222, 3, 3, ck_one 17), (223, 0, 179, ck_one 0), (1, 15, 15, ck_one 1), (220, 3, 3, ck_one 0), (222, 1, 1, ck_one 6), (222, 0, 0, ck_one 30), (220, 0, 0, ck_one 24), (10, 3, 3, ck_one 0), (3, 0, 0, ck_one 3)]), 100, .inl 4, true)] 158 p34x_604 = true := by decide +kernel
theorem p34x_604_s {X : Int → Int} {LX : Nat} : ck_Ok p1_O X LX 218 p34x_604 := ck_ok_s (ck_E1 (ck_S1 p34x_579_s ck_S0) (ck_E1 (ck_S1 p34x_148_s ck_S0) (ck_E1 (ck_S1 p34x_581_s ck_S0) (ck_E1 (ck_S1 p34x_602_s (ck_S1 p34x_603_s ck_S0)) ck_E0)))) ck_X0 ck_l0 p34x_604_e
set_option maxRecDepth 100000 in
def p34x_605 : ck_Sum := ((4, 0, 0), 245, [.inr (.inr (.inl 1)), .inl (ck_one 17), .inl (ck_one 1), .inr (.inr (.inl 245))], ([], [], [(222, 1, 1, ck_one 6), (222, 0, 0, ck_one 30), (222, 3, 3, ck_one 0), (1, 15, 15, ck_one 0), (220, 0, 0, ck_one 24), (220, 3, 3, ck_one 0), (10, 3, 3, ck_one 0), (3, 0, 0, ck_one 3), (223, 0, 179, ck_one 0)]), ([(1, 15, 15), (220, 3, 3), (221, 0, 47), (222, 3, 3), (223, 0, 179), (245, 0, 0)], []), [(.inr (some (.inl (ck_one 0))), 245, ([], [], [(245, 0, 0, ck_one 0), (222, 3, 3, ck_one 17), (1, 15, 15, ck_one 1), (220, 3, 3, ck_one 0), (223, 0, 179, ck_one 0)]))])
set_option maxRecDepth 100000 in
theorem p34x_605_e : ck_ok p1_O none [] [(218, [p34x_604])] 217 [] 92 p34x_605 = true := by decide +kernel
theorem p34x_605_s {X : Int → Int} {LX : Nat} : ck_Ok p1_O X LX 217 p34x_605 := ck_ok_s (ck_E1 (ck_S1 p34x_604_s ck_S0) ck_E0) ck_X0 ck_l0 p34x_605_e
set_option maxRecDepth 100000 in
def p34x_611 : ck_Sum := ((3, 0, 0), 245, [.inr (.inr (.inl 1)), .inl (ck_one 17), .inl (ck_one 0)], ([], [], [(222, 1, 1, ck_one 6), (222, 0, 0, ck_one 30), (222, 3, 3, ck_one 0), (1, 15, 15, ck_one 0), (220, 0, 0, ck_one 24), (220, 3, 3, ck_one 0), (10, 3, 3, ck_one 0), (3, 0, 0, ck_one 3), (223, 0, 179, ck_one 0)]), ([(1, 15, 15), (220, 3, 3), (221, 0, 47), (222, 3, 3), (223, 0, 179)], []), [(.inr (some (.inl (ck_one 0))), 245, ([], [], [(222, 3, 3, ck_one 17), (1, 15, 15, ck_one 1), (220, 3, 3, ck_one 0), (223, 0, 179, ck_one 0)]))])
set_option maxRecDepth 100000 in
theorem p34x_611_e : ck_ok p1_O none [] [(214, [p34x_579]), (24, [p34x_148]), (215, [p34x_581]), (219, [p34x_603, p34x_602])] 218 [(19, [some (.inr (.inr (.inl 1))), some (.inl (ck_one 17)), some (.inl (ck_one 0)), some (.inl (ck_one 0)), some (.inl (1, 3, none))], ([], [], [(222, 3, 3, ck_one 17), (223, 0, 179, ck_one 0), (1, 15, 15, ck_one 1), (220, 3, 3, ck_one 0), (222, 1, 1, ck_one 6), (222, 0, 0, ck_one 30), (220, 0, 0, ck_one 24), (10, 3, 3, ck_one 0), (3, 0, 0, ck_one 3)]), 100, .inl 4, true)] 158 p34x_611 = true := by decide +kernel
theorem p34x_611_s {X : Int → Int} {LX : Nat} : ck_Ok p1_O X LX 218 p34x_611 := ck_ok_s (ck_E1 (ck_S1 p34x_579_s ck_S0) (ck_E1 (ck_S1 p34x_148_s ck_S0) (ck_E1 (ck_S1 p34x_581_s ck_S0) (ck_E1 (ck_S1 p34x_603_s (ck_S1 p34x_602_s ck_S0)) ck_E0)))) ck_X0 ck_l0 p34x_611_e
set_option maxRecDepth 100000 in
def p34x_612 : ck_Sum := ((4, 0, 0), 245, [.inr (.inr (.inl 1)), .inl (ck_one 17), .inl (ck_one 0), .inr (.inr (.inl 245))], ([], [], [(222, 1, 1, ck_one 6), (222, 0, 0, ck_one 30), (222, 3, 3, ck_one 0), (1, 15, 15, ck_one 0), (220, 0, 0, ck_one 24), (220, 3, 3, ck_one 0), (10, 3, 3, ck_one 0), (3, 0, 0, ck_one 3), (223, 0, 179, ck_one 0)]), ([(1, 15, 15), (220, 3, 3), (221, 0, 47), (222, 3, 3), (223, 0, 179), (245, 0, 0)], []), [(.inr (some (.inl (ck_one 0))), 245, ([], [], [(245, 0, 0, ck_one 0), (222, 3, 3, ck_one 17), (1, 15, 15, ck_one 1), (220, 3, 3, ck_one 0), (223, 0, 179, ck_one 0)]))])
set_option maxRecDepth 100000 in
theorem p34x_612_e : ck_ok p1_O none [] [(218, [p34x_611])] 217 [] 92 p34x_612 = true := by decide +kernel
theorem p34x_612_s {X : Int → Int} {LX : Nat} : ck_Ok p1_O X LX 217 p34x_612 := ck_ok_s (ck_E1 (ck_S1 p34x_611_s ck_S0) ck_E0) ck_X0 ck_l0 p34x_612_e
set_option maxRecDepth 100000 in
def p34x_614 : ck_Sum := ((0, 0, 0), 245, [.inr (.inr (.inl 1)), .inl (ck_one 18)], ([], [], []), ([], []), [(.inr none, 245, ([], [], []))])
set_option maxRecDepth 100000 in
theorem p34x_614_e : ck_ok p1_O none [] [] 214 [] 84 p34x_614 = true := by decide +kernel
theorem p34x_614_s {X : Int → Int} {LX : Nat} : ck_Ok p1_O X LX 214 p34x_614 := ck_ok_s (ck_E0) ck_X0 ck_l0 p34x_614_e
set_option maxRecDepth 100000 in
def p34x_615 : ck_Sum := ((1, 0, 0), 245, [.inr (.inr (.inl 222)), .inl (ck_one 18)], ([], [], [(222, 0, 0, ck_one 30), (223, 0, 179, ck_one 0)]), ([(222, 3, 3), (223, 0, 179)], []), [(.inr none, 245, ([], [], [(222, 3, 3, ck_one 18), (223, 0, 179, ck_one 0)]))])
set_option maxRecDepth 100000 in
theorem p34x_615_e : ck_ok p1_O none [] [(8, [p34x_149])] 25 [] 96 p34x_615 = true := by decide +kernel
theorem p34x_615_s {X : Int → Int} {LX : Nat} : ck_Ok p1_O X LX 25 p34x_615 := ck_ok_s (ck_E1 (ck_S1 p34x_149_s ck_S0) ck_E0) ck_X0 ck_l0 p34x_615_e
set_option maxRecDepth 100000 in
def p34x_616 : ck_Sum := ((2, 0, 0), 245, [.inr (.inr (.inl 1)), .inl (ck_one 18)], ([], [], [(220, 3, 3, ck_one 0), (222, 0, 0, ck_one 30), (222, 3, 3, ck_one 0), (223, 0, 179, ck_one 0)]), ([(222, 3, 3), (223, 0, 179)], []), [(.inr none, 245, ([], [], [(222, 3, 3, ck_one 18), (223, 0, 179, ck_one 0)]))])
set_option maxRecDepth 100000 in
theorem p34x_616_e : ck_ok p1_O none [] [(25, [p34x_615]), (9, [p34x_147])] 215 [(10, [some (.inr (.inr (.inl 1))), some (.inl (ck_one 18)), some (.inl (ck_one 0)), none, none], ([], [], [(222, 3, 3, ck_one 18), (223, 0, 179, ck_one 0), (220, 3, 3, ck_one 0), (222, 0, 0, ck_one 30)]), 100, .inl 2, true)] 118 p34x_616 = true := by decide +kernel
theorem p34x_616_s {X : Int → Int} {LX : Nat} : ck_Ok p1_O X LX 215 p34x_616 := ck_ok_s (ck_E1 (ck_S1 p34x_615_s ck_S0) (ck_E1 (ck_S1 p34x_147_s ck_S0) ck_E0)) ck_X0 ck_l0 p34x_616_e
set_option maxRecDepth 100000 in
def p34x_635 : ck_Sum := ((0, 0, 0), 245, [.inr (.inr (.inl 222)), .inl (0, 17, none), .inl (0, 2, none)], ([], [], [(222, 3, 3, ck_one 18), (223, 0, 179, ck_one 0), (222, 1, 1, ck_one 6)]), ([], []), [(.inr (some (.inl (ck_one 0))), 245, ([], [], []))])
set_option maxRecDepth 100000 in
theorem p34x_635_e : ck_ok p1_O none [] [] 10 [] 114 p34x_635 = true := by decide +kernel
theorem p34x_635_s {X : Int → Int} {LX : Nat} : ck_Ok p1_O X LX 10 p34x_635 := ck_ok_s (ck_E0) ck_X0 ck_l0 p34x_635_e
set_option maxRecDepth 100000 in
def p34x_637 : ck_Sum := ((1, 0, 0), 245, [.inr (.inr (.inl 1)), .inl (ck_one 0), .inl (ck_one 18)], ([], [], [(222, 3, 3, ck_one 18), (223, 0, 179, ck_one 0), (222, 1, 1, ck_one 6), (3, 0, 0, ck_one 3)]), ([], []), [(.inr (some (.inl (ck_one 0))), 245, ([], [], []))])
set_option maxRecDepth 100000 in
theorem p34x_637_e : ck_ok p1_O none [] [(10, [p34x_635])] 219 [(5, [some (.inr (.inr (.inl 1))), some (.inl (ck_one 0)), some (.inl (ck_one 18)), some (.inl (ck_one 0)), some (.inl (0, 3, none)), none, none], ([], [], [(222, 3, 3, ck_one 18), (223, 0, 179, ck_one 0), (222, 1, 1, ck_one 6), (3, 0, 0, ck_one 3)]), 100, .inl 4, true), (23, [some (.inr (.inr (.inl 1))), some (.inl (ck_one 0)), some (.inl (ck_one 18)), some (.inl (ck_one 0)), some (.inl (0, 2, some (100, 0))), some (.inl (ck_one 0)), some (.inl (0, 18, none))], ([], [], [(222, 3, 3, ck_one 18), (223, 0, 179, ck_one 0), (222, 1, 1, ck_one 6), (3, 0, 0, ck_one 3)]), 300, .inl 6, true)] 194 p34x_637 = true := by decide +kernel
theorem p34x_637_s {X : Int → Int} {LX : Nat} : ck_Ok p1_O X LX 219 p34x_637 := ck_ok_s (ck_E1 (ck_S1 p34x_635_s ck_S0) ck_E0) ck_X0 ck_l0 p34x_637_e
set_option maxRecDepth 100000 in
def p34x_638 : ck_Sum := ((1, 0, 0), 245, [.inr (.inr (.inl 1)), .inl (1, 2, none), .inl (ck_one 18)], ([], [], [(222, 3, 3, ck_one 18), (223, 0, 179, ck_one 0), (222, 1, 1, ck_one 6), (3, 0, 0, ck_one 3)]), ([], []), [(.inr (some (.inl (ck_one 0))), 245, ([], [], []))])
set_option maxRecDepth 100000 in
theorem p34x_638_e : ck_ok p1_O none [] [(10, [p34x_635])] 219 [(5, [some (.inr (.inr (.inl 1))), some (.inl (1, 2, none)), some (.inl (ck_one 18)), some (.inl (ck_one 0)), some (.inl (0, 3, none)), none, none], ([], [], [(222, 3, 3, ck_one 18), (223, 0, 179, ck_one 0), (222, 1, 1, ck_one 6), (3, 0, 0, ck_one 3)]), 100, .inl 4, true), (23, [some (.inr (.inr (.inl 1))), some (.inl (1, 2, none)), some (.inl (ck_one 18)), some (.inl (ck_one 0)), some (.inl (0, 2, some (100, 0))), some (.inl (ck_one 0)), some (.inl (0, 18, none))], ([], [], [(222, 3, 3, ck_one 18), (223, 0, 179, ck_one 0), (222, 1, 1, ck_one 6), (3, 0, 0, ck_one 3)]), 300, .inl 6, true)] 194 p34x_638 = true := by decide +kernel
theorem p34x_638_s {X : Int → Int} {LX : Nat} : ck_Ok p1_O X LX 219 p34x_638 := ck_ok_s (ck_E1 (ck_S1 p34x_635_s ck_S0) ck_E0) ck_X0 ck_l0 p34x_638_e
set_option maxRecDepth 100000 in
def p34x_639 : ck_Sum := ((3, 0, 0), 245, [.inr (.inr (.inl 1)), .inl (ck_one 18), .inl (ck_one 1)], ([], [], [(222, 1, 1, ck_one 6), (222, 0, 0, ck_one 30), (222, 3, 3, ck_one 0), (1, 15, 15, ck_one 0), (220, 0, 0, ck_one 24), (220, 3, 3, ck_one 0), (10, 3, 3, ck_one 0), (3, 0, 0, ck_one 3), (223, 0, 179, ck_one 0)]), ([(1, 15, 15), (220, 3, 3), (221, 0, 47), (222, 3, 3), (223, 0, 179)], []), [(.inr (some (.inl (ck_one 0))), 245, ([], [], [(222, 3, 3, ck_one 18), (1, 15, 15, ck_one 1), (220, 3, 3, ck_one 0), (223, 0, 179, ck_one 0)]))])
set_option maxRecDepth 100000 in
theorem p34x_639_e : ck_ok p1_O none [] [(214, [p34x_614]), (24, [p34x_148]), (215, [p34x_616]), (219, [p34x_637, p34x_638])] 218 [(19, [some (.inr (.inr (.inl 1))), some (.inl (ck_one 18)), some (.inl (ck_one 1)), some (.inl (ck_one 0)), some (.inl (1, 3, none))], ([], [], [(222, 3, 3, ck_one 18), (223, 0, 179, ck_one 0), (1, 15, 15, ck_one 1), (220, 3, 3, ck_one 0), (222, 1, 1, ck_one 6), (222, 0, 0, ck_one 30), (220, 0, 0, ck_one 24), (10, 3, 3, ck_one 0), (3, 0, 0, ck_one 3)]), 100, .inl 4, true)] 158 p34x_639 = true := by decide +kernel
theorem p34x_639_s {X : Int → Int} {LX : Nat} : ck_Ok p1_O X LX 218 p34x_639 := ck_ok_s (ck_E1 (ck_S1 p34x_614_s ck_S0) (ck_E1 (ck_S1 p34x_148_s ck_S0) (ck_E1 (ck_S1 p34x_616_s ck_S0) (ck_E1 (ck_S1 p34x_637_s (ck_S1 p34x_638_s ck_S0)) ck_E0)))) ck_X0 ck_l0 p34x_639_e
set_option maxRecDepth 100000 in
def p34x_640 : ck_Sum := ((4, 0, 0), 245, [.inr (.inr (.inl 1)), .inl (ck_one 18), .inl (ck_one 1), .inr (.inr (.inl 245))], ([], [], [(222, 1, 1, ck_one 6), (222, 0, 0, ck_one 30), (222, 3, 3, ck_one 0), (1, 15, 15, ck_one 0), (220, 0, 0, ck_one 24), (220, 3, 3, ck_one 0), (10, 3, 3, ck_one 0), (3, 0, 0, ck_one 3), (223, 0, 179, ck_one 0)]), ([(1, 15, 15), (220, 3, 3), (221, 0, 47), (222, 3, 3), (223, 0, 179), (245, 0, 0)], []), [(.inr (some (.inl (ck_one 0))), 245, ([], [], [(245, 0, 0, ck_one 0), (222, 3, 3, ck_one 18), (1, 15, 15, ck_one 1), (220, 3, 3, ck_one 0), (223, 0, 179, ck_one 0)]))])
set_option maxRecDepth 100000 in
theorem p34x_640_e : ck_ok p1_O none [] [(218, [p34x_639])] 217 [] 92 p34x_640 = true := by decide +kernel
theorem p34x_640_s {X : Int → Int} {LX : Nat} : ck_Ok p1_O X LX 217 p34x_640 := ck_ok_s (ck_E1 (ck_S1 p34x_639_s ck_S0) ck_E0) ck_X0 ck_l0 p34x_640_e
set_option maxRecDepth 100000 in
def p34x_646 : ck_Sum := ((3, 0, 0), 245, [.inr (.inr (.inl 1)), .inl (ck_one 18), .inl (ck_one 0)], ([], [], [(222, 1, 1, ck_one 6), (222, 0, 0, ck_one 30), (222, 3, 3, ck_one 0), (1, 15, 15, ck_one 0), (220, 0, 0, ck_one 24), (220, 3, 3, ck_one 0), (10, 3, 3, ck_one 0), (3, 0, 0, ck_one 3), (223, 0, 179, ck_one 0)]), ([(1, 15, 15), (220, 3, 3), (221, 0, 47), (222, 3, 3), (223, 0, 179)], []), [(.inr (some (.inl (ck_one 0))), 245, ([], [], [(222, 3, 3, ck_one 18), (1, 15, 15, ck_one 1), (220, 3, 3, ck_one 0), (223, 0, 179, ck_one 0)]))])
set_option maxRecDepth 100000 in
theorem p34x_646_e : ck_ok p1_O none [] [(214, [p34x_614]), (24, [p34x_148]), (215, [p34x_616]), (219, [p34x_638, p34x_637])] 218 [(19, [some (.inr (.inr (.inl 1))), some (.inl (ck_one 18)), some (.inl (ck_one 0)), some (.inl (ck_one 0)), some (.inl (1, 3, none))], ([], [], [(222, 3, 3, ck_one 18), (223, 0, 179, ck_one 0), (1, 15, 15, ck_one 1), (220, 3, 3, ck_one 0), (222, 1, 1, ck_one 6), (222, 0, 0, ck_one 30), (220, 0, 0, ck_one 24), (10, 3, 3, ck_one 0), (3, 0, 0, ck_one 3)]), 100, .inl 4, true)] 158 p34x_646 = true := by decide +kernel
theorem p34x_646_s {X : Int → Int} {LX : Nat} : ck_Ok p1_O X LX 218 p34x_646 := ck_ok_s (ck_E1 (ck_S1 p34x_614_s ck_S0) (ck_E1 (ck_S1 p34x_148_s ck_S0) (ck_E1 (ck_S1 p34x_616_s ck_S0) (ck_E1 (ck_S1 p34x_638_s (ck_S1 p34x_637_s ck_S0)) ck_E0)))) ck_X0 ck_l0 p34x_646_e
set_option maxRecDepth 100000 in
def p34x_647 : ck_Sum := ((4, 0, 0), 245, [.inr (.inr (.inl 1)), .inl (ck_one 18), .inl (ck_one 0), .inr (.inr (.inl 245))], ([], [], [(222, 1, 1, ck_one 6), (222, 0, 0, ck_one 30), (222, 3, 3, ck_one 0), (1, 15, 15, ck_one 0), (220, 0, 0, ck_one 24), (220, 3, 3, ck_one 0), (10, 3, 3, ck_one 0), (3, 0, 0, ck_one 3), (223, 0, 179, ck_one 0)]), ([(1, 15, 15), (220, 3, 3), (221, 0, 47), (222, 3, 3), (223, 0, 179), (245, 0, 0)], []), [(.inr (some (.inl (ck_one 0))), 245, ([], [], [(245, 0, 0, ck_one 0), (222, 3, 3, ck_one 18), (1, 15, 15, ck_one 1), (220, 3, 3, ck_one 0), (223, 0, 179, ck_one 0)]))])
set_option maxRecDepth 100000 in
theorem p34x_647_e : ck_ok p1_O none [] [(218, [p34x_646])] 217 [] 92 p34x_647 = true := by decide +kernel
theorem p34x_647_s {X : Int → Int} {LX : Nat} : ck_Ok p1_O X LX 217 p34x_647 := ck_ok_s (ck_E1 (ck_S1 p34x_646_s ck_S0) ck_E0) ck_X0 ck_l0 p34x_647_e
set_option maxRecDepth 100000 in
def p34x_649 : ck_Sum := ((0, 0, 0), 245, [.inr (.inr (.inl 1)), .inl (ck_one 19)], ([], [], []), ([], []), [(.inr none, 245, ([], [], []))])
set_option maxRecDepth 100000 in
theorem p34x_649_e : ck_ok p1_O none [] [] 214 [] 84 p34x_649 = true := by decide +kernel
theorem p34x_649_s {X : Int → Int} {LX : Nat} : ck_Ok p1_O X LX 214 p34x_649 := ck_ok_s (ck_E0) ck_X0 ck_l0 p34x_649_e
set_option maxRecDepth 100000 in
def p34x_650 : ck_Sum := ((1, 0, 0), 245, [.inr (.inr (.inl 222)), .inl (ck_one 19)], ([], [], [(222, 0, 0, ck_one 30), (223, 0, 179, ck_one 0)]), ([(222, 3, 3), (223, 0, 179)], []), [(.inr none, 245, ([], [], [(222, 3, 3, ck_one 19), (223, 0, 179, ck_one 0)]))])
set_option maxRecDepth 100000 in
theorem p34x_650_e : ck_ok p1_O none [] [(8, [p34x_149])] 25 [] 96 p34x_650 = true := by decide +kernel
theorem p34x_650_s {X : Int → Int} {LX : Nat} : ck_Ok p1_O X LX 25 p34x_650 := ck_ok_s (ck_E1 (ck_S1 p34x_149_s ck_S0) ck_E0) ck_X0 ck_l0 p34x_650_e
set_option maxRecDepth 100000 in
def p34x_651 : ck_Sum := ((2, 0, 0), 245, [.inr (.inr (.inl 1)), .inl (ck_one 19)], ([], [], [(220, 3, 3, ck_one 0), (222, 0, 0, ck_one 30), (222, 3, 3, ck_one 0), (223, 0, 179, ck_one 0)]), ([(222, 3, 3), (223, 0, 179)], []), [(.inr none, 245, ([], [], [(222, 3, 3, ck_one 19), (223, 0, 179, ck_one 0)]))])
set_option maxRecDepth 100000 in
theorem p34x_651_e : ck_ok p1_O none [] [(25, [p34x_650]), (9, [p34x_147])] 215 [(10, [some (.inr (.inr (.inl 1))), some (.inl (ck_one 19)), some (.inl (ck_one 0)), none, none], ([], [], [(222, 3, 3, ck_one 19), (223, 0, 179, ck_one 0), (220, 3, 3, ck_one 0), (222, 0, 0, ck_one 30)]), 100, .inl 2, true)] 118 p34x_651 = true := by decide +kernel
theorem p34x_651_s {X : Int → Int} {LX : Nat} : ck_Ok p1_O X LX 215 p34x_651 := ck_ok_s (ck_E1 (ck_S1 p34x_650_s ck_S0) (ck_E1 (ck_S1 p34x_147_s ck_S0) ck_E0)) ck_X0 ck_l0 p34x_651_e
set_option maxRecDepth 100000 in
def p34x_670 : ck_Sum := ((0, 0, 0), 245, [.inr (.inr (.inl 222)), .inl (0, 18, none), .inl (0, 2, none)], ([], [], [(222, 3, 3, ck_one 19), (223, 0, 179, ck_one 0), (222, 1, 1, ck_one 6)]), ([], []), [(.inr (some (.inl (ck_one 0))), 245, ([], [], []))])
set_option maxRecDepth 100000 in
theorem p34x_670_e : ck_ok p1_O none [] [] 10 [] 114 p34x_670 = true := by decide +kernel
theorem p34x_670_s {X : Int → Int} {LX : Nat} : ck_Ok p1_O X LX 10 p34x_670 := ck_ok_s (ck_E0) ck_X0 ck_l0 p34x_670_e
set_option maxRecDepth 100000 in
def p34x_672 : ck_Sum := ((1, 0, 0), 245, [.inr (.inr (.inl 1)), .inl (ck_one 0), .inl (ck_one 19)], ([], [], [(222, 3, 3, ck_one 19), (223, 0, 179, ck_one 0), (222, 1, 1, ck_one 6), (3, 0, 0, ck_one 3)]), ([], []), [(.inr (some (.inl (ck_one 0))), 245, ([], [], []))])
set_option maxRecDepth 100000 in
theorem p34x_672_e : ck_ok p1_O none [] [(10, [p34x_670])] 219 [(5, [some (.inr (.inr (.inl 1))), some (.inl (ck_one 0)), some (.inl (ck_one 19)), some (.inl (ck_one 0)), some (.inl (0, 3, none)), none, none], ([], [], [(222, 3, 3, ck_one 19), (223, 0, 179, ck_one 0), (222, 1, 1, ck_one 6), (3, 0, 0, ck_one 3)]), 100, .inl 4, true), (23, [some (.inr (.inr (.inl 1))), some (.inl (ck_one 0)), some (.inl (ck_one 19)), some (.inl (ck_one 0)), some (.inl (0, 2, some (100, 0))), some (.inl (ck_one 0)), some (.inl (0, 19, none))], ([], [], [(222, 3, 3, ck_one 19), (223, 0, 179, ck_one 0), (222, 1, 1, ck_one 6), (3, 0, 0, ck_one 3)]), 300, .inl 6, true)] 194 p34x_672 = true := by decide +kernel
theorem p34x_672_s {X : Int → Int} {LX : Nat} : ck_Ok p1_O X LX 219 p34x_672 := ck_ok_s (ck_E1 (ck_S1 p34x_670_s ck_S0) ck_E0) ck_X0 ck_l0 p34x_672_e
set_option maxRecDepth 100000 in
def p34x_673 : ck_Sum := ((1, 0, 0), 245, [.inr (.inr (.inl 1)), .inl (1, 2, none), .inl (ck_one 19)], ([], [], [(222, 3, 3, ck_one 19), (223, 0, 179, ck_one 0), (222, 1, 1, ck_one 6), (3, 0, 0, ck_one 3)]), ([], []), [(.inr (some (.inl (ck_one 0))), 245, ([], [], []))])
set_option maxRecDepth 100000 in
theorem p34x_673_e : ck_ok p1_O none [] [(10, [p34x_670])] 219 [(5, [some (.inr (.inr (.inl 1))), some (.inl (1, 2, none)), some (.inl (ck_one 19)), some (.inl (ck_one 0)), some (.inl (0, 3, none)), none, none], ([], [], [(222, 3, 3, ck_one 19), (223, 0, 179, ck_one 0), (222, 1, 1, ck_one 6), (3, 0, 0, ck_one 3)]), 100, .inl 4, true), (23, [some (.inr (.inr (.inl 1))), some (.inl (1, 2, none)), some (.inl (ck_one 19)), some (.inl (ck_one 0)), some (.inl (0, 2, some (100, 0))), some (.inl (ck_one 0)), some (.inl (0, 19, none))], ([], [], [(222, 3, 3, ck_one 19), (223, 0, 179, ck_one 0), (222, 1, 1, ck_one 6), (3, 0, 0, ck_one 3)]), 300, .inl 6, true)] 194 p34x_673 = true := by decide +kernel
theorem p34x_673_s {X : Int → Int} {LX : Nat} : ck_Ok p1_O X LX 219 p34x_673 := ck_ok_s (ck_E1 (ck_S1 p34x_670_s ck_S0) ck_E0) ck_X0 ck_l0 p34x_673_e
set_option maxRecDepth 100000 in
def p34x_674 : ck_Sum := ((3, 0, 0), 245, [.inr (.inr (.inl 1)), .inl (ck_one 19), .inl (ck_one 1)], ([], [], [(222, 1, 1, ck_one 6), (222, 0, 0, ck_one 30), (222, 3, 3, ck_one 0), (1, 15, 15, ck_one 0), (220, 0, 0, ck_one 24), (220, 3, 3, ck_one 0), (10, 3, 3, ck_one 0), (3, 0, 0, ck_one 3), (223, 0, 179, ck_one 0)]), ([(1, 15, 15), (220, 3, 3), (221, 0, 47), (222, 3, 3), (223, 0, 179)], []), [(.inr (some (.inl (ck_one 0))), 245, ([], [], [(222, 3, 3, ck_one 19), (1, 15, 15, ck_one 1), (220, 3, 3, ck_one 0), (223, 0, 179, ck_one 0)]))])
set_option maxRecDepth 100000 in
theorem p34x_674_e : ck_ok p1_O none [] [(214, [p34x_649]), (24, [p34x_148]), (215, [p34x_651]), (219, [p34x_672, p34x_673])] 218 [(19, [some (.inr (.inr (.inl 1))), some (.inl (ck_one 19)), some (.inl (ck_one 1)), some (.inl (ck_one 0)), some (.inl (1, 3, none))], ([], [], [(222, 3, 3, ck_one 19), (223, 0, 179, ck_one 0), (1, 15, 15, ck_one 1), (220, 3, 3, ck_one 0), (222, 1, 1, ck_one 6), (222, 0, 0, ck_one 30), (220, 0, 0, ck_one 24), (10, 3, 3, ck_one 0), (3, 0, 0, ck_one 3)]), 100, .inl 4, true)] 158 p34x_674 = true := by decide +kernel
theorem p34x_674_s {X : Int → Int} {LX : Nat} : ck_Ok p1_O X LX 218 p34x_674 := ck_ok_s (ck_E1 (ck_S1 p34x_649_s ck_S0) (ck_E1 (ck_S1 p34x_148_s ck_S0) (ck_E1 (ck_S1 p34x_651_s ck_S0) (ck_E1 (ck_S1 p34x_672_s (ck_S1 p34x_673_s ck_S0)) ck_E0)))) ck_X0 ck_l0 p34x_674_e
set_option maxRecDepth 100000 in
def p34x_675 : ck_Sum := ((4, 0, 0), 245, [.inr (.inr (.inl 1)), .inl (ck_one 19), .inl (ck_one 1), .inr (.inr (.inl 245))], ([], [], [(222, 1, 1, ck_one 6), (222, 0, 0, ck_one 30), (222, 3, 3, ck_one 0), (1, 15, 15, ck_one 0), (220, 0, 0, ck_one 24), (220, 3, 3, ck_one 0), (10, 3, 3, ck_one 0), (3, 0, 0, ck_one 3), (223, 0, 179, ck_one 0)]), ([(1, 15, 15), (220, 3, 3), (221, 0, 47), (222, 3, 3), (223, 0, 179), (245, 0, 0)], []), [(.inr (some (.inl (ck_one 0))), 245, ([], [], [(245, 0, 0, ck_one 0), (222, 3, 3, ck_one 19), (1, 15, 15, ck_one 1), (220, 3, 3, ck_one 0), (223, 0, 179, ck_one 0)]))])
set_option maxRecDepth 100000 in
theorem p34x_675_e : ck_ok p1_O none [] [(218, [p34x_674])] 217 [] 92 p34x_675 = true := by decide +kernel
theorem p34x_675_s {X : Int → Int} {LX : Nat} : ck_Ok p1_O X LX 217 p34x_675 := ck_ok_s (ck_E1 (ck_S1 p34x_674_s ck_S0) ck_E0) ck_X0 ck_l0 p34x_675_e
set_option maxRecDepth 100000 in
def p34x_681 : ck_Sum := ((3, 0, 0), 245, [.inr (.inr (.inl 1)), .inl (ck_one 19), .inl (ck_one 0)], ([], [], [(222, 1, 1, ck_one 6), (222, 0, 0, ck_one 30), (222, 3, 3, ck_one 0), (1, 15, 15, ck_one 0), (220, 0, 0, ck_one 24), (220, 3, 3, ck_one 0), (10, 3, 3, ck_one 0), (3, 0, 0, ck_one 3), (223, 0, 179, ck_one 0)]), ([(1, 15, 15), (220, 3, 3), (221, 0, 47), (222, 3, 3), (223, 0, 179)], []), [(.inr (some (.inl (ck_one 0))), 245, ([], [], [(222, 3, 3, ck_one 19), (1, 15, 15, ck_one 1), (220, 3, 3, ck_one 0), (223, 0, 179, ck_one 0)]))])
set_option maxRecDepth 100000 in
theorem p34x_681_e : ck_ok p1_O none [] [(214, [p34x_649]), (24, [p34x_148]), (215, [p34x_651]), (219, [p34x_673, p34x_672])] 218 [(19, [some (.inr (.inr (.inl 1))), some (.inl (ck_one 19)), some (.inl (ck_one 0)), some (.inl (ck_one 0)), some (.inl (1, 3, none))], ([], [], [(222, 3, 3, ck_one 19), (223, 0, 179, ck_one 0), (1, 15, 15, ck_one 1), (220, 3, 3, ck_one 0), (222, 1, 1, ck_one 6), (222, 0, 0, ck_one 30), (220, 0, 0, ck_one 24), (10, 3, 3, ck_one 0), (3, 0, 0, ck_one 3)]), 100, .inl 4, true)] 158 p34x_681 = true := by decide +kernel
theorem p34x_681_s {X : Int → Int} {LX : Nat} : ck_Ok p1_O X LX 218 p34x_681 := ck_ok_s (ck_E1 (ck_S1 p34x_649_s ck_S0) (ck_E1 (ck_S1 p34x_148_s ck_S0) (ck_E1 (ck_S1 p34x_651_s ck_S0) (ck_E1 (ck_S1 p34x_673_s (ck_S1 p34x_672_s ck_S0)) ck_E0)))) ck_X0 ck_l0 p34x_681_e
set_option maxRecDepth 100000 in
def p34x_682 : ck_Sum := ((4, 0, 0), 245, [.inr (.inr (.inl 1)), .inl (ck_one 19), .inl (ck_one 0), .inr (.inr (.inl 245))], ([], [], [(222, 1, 1, ck_one 6), (222, 0, 0, ck_one 30), (222, 3, 3, ck_one 0), (1, 15, 15, ck_one 0), (220, 0, 0, ck_one 24), (220, 3, 3, ck_one 0), (10, 3, 3, ck_one 0), (3, 0, 0, ck_one 3), (223, 0, 179, ck_one 0)]), ([(1, 15, 15), (220, 3, 3), (221, 0, 47), (222, 3, 3), (223, 0, 179), (245, 0, 0)], []), [(.inr (some (.inl (ck_one 0))), 245, ([], [], [(245, 0, 0, ck_one 0), (222, 3, 3, ck_one 19), (1, 15, 15, ck_one 1), (220, 3, 3, ck_one 0), (223, 0, 179, ck_one 0)]))])
set_option maxRecDepth 100000 in
theorem p34x_682_e : ck_ok p1_O none [] [(218, [p34x_681])] 217 [] 92 p34x_682 = true := by decide +kernel
theorem p34x_682_s {X : Int → Int} {LX : Nat} : ck_Ok p1_O X LX 217 p34x_682 := ck_ok_s (ck_E1 (ck_S1 p34x_681_s ck_S0) ck_E0) ck_X0 ck_l0 p34x_682_e
set_option maxRecDepth 100000 in
def p34x_684 : ck_Sum := ((0, 0, 0), 245, [.inr (.inr (.inl 1)), .inl (ck_one 20)], ([], [], []), ([], []), [(.inr none, 245, ([], [], []))])
set_option maxRecDepth 100000 in
theorem p34x_684_e : ck_ok p1_O none [] [] 214 [] 84 p34x_684 = true := by decide +kernel
theorem p34x_684_s {X : Int → Int} {LX : Nat} : ck_Ok p1_O X LX 214 p34x_684 := ck_ok_s (ck_E0) ck_X0 ck_l0 p34x_684_e
set_option maxRecDepth 100000 in
def p34x_685 : ck_Sum := ((1, 0, 0), 245, [.inr (.inr (.inl 222)), .inl (ck_one 20)], ([], [], [(222, 0, 0, ck_one 30), (223, 0, 179, ck_one 0)]), ([(222, 3, 3), (223, 0, 179)], []), [(.inr none, 245, ([], [], [(222, 3, 3, ck_one 20), (223, 0, 179, ck_one 0)]))])
set_option maxRecDepth 100000 in
theorem p34x_685_e : ck_ok p1_O none [] [(8, [p34x_149])] 25 [] 96 p34x_685 = true := by decide +kernel
theorem p34x_685_s {X : Int → Int} {LX : Nat} : ck_Ok p1_O X LX 25 p34x_685 := ck_ok_s (ck_E1 (ck_S1 p34x_149_s ck_S0) ck_E0) ck_X0 ck_l0 p34x_685_e
set_option maxRecDepth 100000 in
def p34x_686 : ck_Sum := ((2, 0, 0), 245, [.inr (.inr (.inl 1)), .inl (ck_one 20)], ([], [], [(220, 3, 3, ck_one 0), (222, 0, 0, ck_one 30), (222, 3, 3, ck_one 0), (223, 0, 179, ck_one 0)]), ([(222, 3, 3), (223, 0, 179)], []), [(.inr none, 245, ([], [], [(222, 3, 3, ck_one 20), (223, 0, 179, ck_one 0)]))])
set_option maxRecDepth 100000 in
theorem p34x_686_e : ck_ok p1_O none [] [(25, [p34x_685]), (9, [p34x_147])] 215 [(10, [some (.inr (.inr (.inl 1))), some (.inl (ck_one 20)), some (.inl (ck_one 0)), none, none], ([], [], [(222, 3, 3, ck_one 20), (223, 0, 179, ck_one 0), (220, 3, 3, ck_one 0), (222, 0, 0, ck_one 30)]), 100, .inl 2, true)] 118 p34x_686 = true := by decide +kernel
theorem p34x_686_s {X : Int → Int} {LX : Nat} : ck_Ok p1_O X LX 215 p34x_686 := ck_ok_s (ck_E1 (ck_S1 p34x_685_s ck_S0) (ck_E1 (ck_S1 p34x_147_s ck_S0) ck_E0)) ck_X0 ck_l0 p34x_686_e
set_option maxRecDepth 100000 in
def p34x_705 : ck_Sum := ((0, 0, 0), 245, [.inr (.inr (.inl 222)), .inl (0, 19, none), .inl (0, 2, none)], ([], [], [(222, 3, 3, ck_one 20), (223, 0, 179, ck_one 0), (222, 1, 1, ck_one 6)]), ([], []), [(.inr (some (.inl (ck_one 0))), 245, ([], [], []))])
set_option maxRecDepth 100000 in
theorem p34x_705_e : ck_ok p1_O none [] [] 10 [] 114 p34x_705 = true := by decide +kernel
theorem p34x_705_s {X : Int → Int} {LX : Nat} : ck_Ok p1_O X LX 10 p34x_705 := ck_ok_s (ck_E0) ck_X0 ck_l0 p34x_705_e
set_option maxRecDepth 100000 in
def p34x_707 : ck_Sum := ((1, 0, 0), 245, [.inr (.inr (.inl 1)), .inl (ck_one 0), .inl (ck_one 20)], ([], [], [(222, 3, 3, ck_one 20), (223, 0, 179, ck_one 0), (222, 1, 1, ck_one 6), (3, 0, 0, ck_one 3)]), ([], []), [(.inr (some (.inl (ck_one 0))), 245, ([], [], []))])
set_option maxRecDepth 100000 in
theorem p34x_707_e : ck_ok p1_O none [] [(10, [p34x_705])] 219 [(5, [some (.inr (.inr (.inl 1))), some (.inl (ck_one 0)), some (.inl (ck_one 20)), some (.inl (ck_one 0)), some (.inl (0, 3, none)), none, none], ([], [], [(222, 3, 3, ck_one 20), (223, 0, 179, ck_one 0), (222, 1, 1, ck_one 6), (3, 0, 0, ck_one 3)]), 100, .inl 4, true), (23, [some (.inr (.inr (.inl 1))), some (.inl (ck_one 0)), some (.inl (ck_one 20)), some (.inl (ck_one 0)), some (.inl (0, 2, some (100, 0))), some (.inl (ck_one 0)), some (.inl (0, 20, none))], ([], [], [(222, 3, 3, ck_one 20), (223, 0, 179, ck_one 0), (222, 1, 1, ck_one 6), (3, 0, 0, ck_one 3)]), 300, .inl 6, true)] 194 p34x_707 = true := by decide +kernel
theorem p34x_707_s {X : Int → Int} {LX : Nat} : ck_Ok p1_O X LX 219 p34x_707 := ck_ok_s (ck_E1 (ck_S1 p34x_705_s ck_S0) ck_E0) ck_X0 ck_l0 p34x_707_e
set_option maxRecDepth 100000 in
def p34x_708 : ck_Sum := ((1, 0, 0), 245, [.inr (.inr (.inl 1)), .inl (1, 2, none), .inl (ck_one 20)], ([], [], [(222, 3, 3, ck_one 20), (223, 0, 179, ck_one 0), (222, 1, 1, ck_one 6), (3, 0, 0, ck_one 3)]), ([], []), [(.inr (some (.inl (ck_one 0))), 245, ([], [], []))])
set_option maxRecDepth 100000 in
theorem p34x_708_e : ck_ok p1_O none [] [(10, [p34x_705])] 219 [(5, [some (.inr (.inr (.inl 1))), some (.inl (1, 2, none)), some (.inl (ck_one 20)), some (.inl (ck_one 0)), some (.inl (0, 3, none)), none, none], ([], [], [(222, 3, 3, ck_one 20), (223, 0, 179, ck_one 0), (222, 1, 1, ck_one 6), (3, 0, 0, ck_one 3)]), 100, .inl 4, true), (23, [some (.inr (.inr (.inl 1))), some (.inl (1, 2, none)), some (.inl (ck_one 20)), some (.inl (ck_one 0)), some (.inl (0, 2, some (100, 0))), some (.inl (ck_one 0)), some (.inl (0, 20, none))], ([], [], [(222, 3, 3, ck_one 20), (223, 0, 179, ck_one 0), (222, 1, 1, ck_one 6), (3, 0, 0, ck_one 3)]), 300, .inl 6, true)] 194 p34x_708 = true := by decide +kernel
theorem p34x_708_s {X : Int → Int} {LX : Nat} : ck_Ok p1_O X LX 219 p34x_708 := ck_ok_s (ck_E1 (ck_S1 p34x_705_s ck_S0) ck_E0) ck_X0 ck_l0 p34x_708_e
set_option maxRecDepth 100000 in
def p34x_709 : ck_Sum := ((3, 0, 0), 245, [.inr (.inr (.inl 1)), .inl (ck_one 20), .inl (ck_one 1)], ([], [], [(222, 1, 1, ck_one 6), (222, 0, 0, ck_one 30), (222, 3, 3, ck_one 0), (1, 15, 15, ck_one 0), (220, 0, 0, ck_one 24), (220, 3, 3, ck_one 0), (10, 3, 3, ck_one 0), (3, 0, 0, ck_one 3), (223, 0, 179, ck_one 0)]), ([(1, 15, 15), (220, 3, 3), (221, 0, 47), (222, 3, 3), (223, 0, 179)], []), [(.inr (some (.inl (ck_one 0))), 245, ([], [], [(222, 3, 3, ck_one 20), (1, 15, 15, ck_one 1), (220, 3, 3, ck_one 0), (223, 0, 179, ck_one 0)]))])
set_option maxRecDepth 100000 in
theorem p34x_709_e : ck_ok p1_O none [] [(214, [p34x_684]), (24, [p34x_148]), (215, [p34x_686]), (219, [p34x_707, p34x_708])] 218 [(19, [some (.inr (.inr (.inl 1))), some (.inl (ck_one 20)), some (.inl (ck_one 1)), some (.inl (ck_one 0)), some (.inl (1, 3, none))], ([], [], [(222, 3, 3, ck_one 20), (223, 0, 179, ck_one 0), (1, 15, 15, ck_one 1), (220, 3, 3, ck_one 0), (222, 1, 1, ck_one 6), (222, 0, 0, ck_one 30), (220, 0, 0, ck_one 24), (10, 3, 3, ck_one 0), (3, 0, 0, ck_one 3)]), 100, .inl 4, true)] 158 p34x_709 = true := by decide +kernel
theorem p34x_709_s {X : Int → Int} {LX : Nat} : ck_Ok p1_O X LX 218 p34x_709 := ck_ok_s (ck_E1 (ck_S1 p34x_684_s ck_S0) (ck_E1 (ck_S1 p34x_148_s ck_S0) (ck_E1 (ck_S1 p34x_686_s ck_S0) (ck_E1 (ck_S1 p34x_707_s (ck_S1 p34x_708_s ck_S0)) ck_E0)))) ck_X0 ck_l0 p34x_709_e
set_option maxRecDepth 100000 in
def p34x_710 : ck_Sum := ((4, 0, 0), 245, [.inr (.inr (.inl 1)), .inl (ck_one 20), .inl (ck_one 1), .inr (.inr (.inl 245))], ([], [], [(222, 1, 1, ck_one 6), (222, 0, 0, ck_one 30), (222, 3, 3, ck_one 0), (1, 15, 15, ck_one 0), (220, 0, 0, ck_one 24), (220, 3, 3, ck_one 0), (10, 3, 3, ck_one 0), (3, 0, 0, ck_one 3), (223, 0, 179, ck_one 0)]), ([(1, 15, 15), (220, 3, 3), (221, 0, 47), (222, 3, 3), (223, 0, 179), (245, 0, 0)], []), [(.inr (some (.inl (ck_one 0))), 245, ([], [], [(245, 0, 0, ck_one 0), (222, 3, 3, ck_one 20), (1, 15, 15, ck_one 1), (220, 3, 3, ck_one 0), (223, 0, 179, ck_one 0)]))])
set_option maxRecDepth 100000 in
theorem p34x_710_e : ck_ok p1_O none [] [(218, [p34x_709])] 217 [] 92 p34x_710 = true := by decide +kernel
theorem p34x_710_s {X : Int → Int} {LX : Nat} : ck_Ok p1_O X LX 217 p34x_710 := ck_ok_s (ck_E1 (ck_S1 p34x_709_s ck_S0) ck_E0) ck_X0 ck_l0 p34x_710_e
set_option maxRecDepth 100000 in
def p34x_716 : ck_Sum := ((3, 0, 0), 245, [.inr (.inr (.inl 1)), .inl (ck_one 20), .inl (ck_one 0)], ([], [], [(222, 1, 1, ck_one 6), (222, 0, 0, ck_one 30), (222, 3, 3, ck_one 0), (1, 15, 15, ck_one 0), (220, 0, 0, ck_one 24), (220, 3, 3, ck_one 0), (10, 3, 3, ck_one 0), (3, 0, 0, ck_one 3), (223, 0, 179, ck_one 0)]), ([(1, 15, 15), (220, 3, 3), (221, 0, 47), (222, 3, 3), (223, 0, 179)], []), [(.inr (some (.inl (ck_one 0))), 245, ([], [], [(222, 3, 3, ck_one 20), (1, 15, 15, ck_one 1), (220, 3, 3, ck_one 0), (223, 0, 179, ck_one 0)]))])
set_option maxRecDepth 100000 in
theorem p34x_716_e : ck_ok p1_O none [] [(214, [p34x_684]), (24, [p34x_148]), (215, [p34x_686]), (219, [p34x_708, p34x_707])] 218 [(19, [some (.inr (.inr (.inl 1))), some (.inl (ck_one 20)), some (.inl (ck_one 0)), some (.inl (ck_one 0)), some (.inl (1, 3, none))], ([], [], [(222, 3, 3, ck_one 20), (223, 0, 179, ck_one 0), (1, 15, 15, ck_one 1), (220, 3, 3, ck_one 0), (222, 1, 1, ck_one 6), (222, 0, 0, ck_one 30), (220, 0, 0, ck_one 24), (10, 3, 3, ck_one 0), (3, 0, 0, ck_one 3)]), 100, .inl 4, true)] 158 p34x_716 = true := by decide +kernel
theorem p34x_716_s {X : Int → Int} {LX : Nat} : ck_Ok p1_O X LX 218 p34x_716 := ck_ok_s (ck_E1 (ck_S1 p34x_684_s ck_S0) (ck_E1 (ck_S1 p34x_148_s ck_S0) (ck_E1 (ck_S1 p34x_686_s ck_S0) (ck_E1 (ck_S1 p34x_708_s (ck_S1 p34x_707_s ck_S0)) ck_E0)))) ck_X0 ck_l0 p34x_716_e
set_option maxRecDepth 100000 in
def p34x_717 : ck_Sum := ((4, 0, 0), 245, [.inr (.inr (.inl 1)), .inl (ck_one 20), .inl (ck_one 0), .inr (.inr (.inl 245))], ([], [], [(222, 1, 1, ck_one 6), (222, 0, 0, ck_one 30), (222, 3, 3, ck_one 0), (1, 15, 15, ck_one 0), (220, 0, 0, ck_one 24), (220, 3, 3, ck_one 0), (10, 3, 3, ck_one 0), (3, 0, 0, ck_one 3), (223, 0, 179, ck_one 0)]), ([(1, 15, 15), (220, 3, 3), (221, 0, 47), (222, 3, 3), (223, 0, 179), (245, 0, 0)], []), [(.inr (some (.inl (ck_one 0))), 245, ([], [], [(245, 0, 0, ck_one 0), (222, 3, 3, ck_one 20), (1, 15, 15, ck_one 1), (220, 3, 3, ck_one 0), (223, 0, 179, ck_one 0)]))])
set_option maxRecDepth 100000 in
theorem p34x_717_e : ck_ok p1_O none [] [(218, [p34x_716])] 217 [] 92 p34x_717 = true := by decide +kernel
theorem p34x_717_s {X : Int → Int} {LX : Nat} : ck_Ok p1_O X LX 217 p34x_717 := ck_ok_s (ck_E1 (ck_S1 p34x_716_s ck_S0) ck_E0) ck_X0 ck_l0 p34x_717_e
set_option maxRecDepth 100000 in
def p34x_719 : ck_Sum := ((0, 0, 0), 245, [.inr (.inr (.inl 1)), .inl (ck_one 21)], ([], [], []), ([], []), [(.inr none, 245, ([], [], []))])
set_option maxRecDepth 100000 in
theorem p34x_719_e : ck_ok p1_O none [] [] 214 [] 84 p34x_719 = true := by decide +kernel
theorem p34x_719_s {X : Int → Int} {LX : Nat} : ck_Ok p1_O X LX 214 p34x_719 := ck_ok_s (ck_E0) ck_X0 ck_l0 p34x_719_e
set_option maxRecDepth 100000 in
def p34x_720 : ck_Sum := ((1, 0, 0), 245, [.inr (.inr (.inl 222)), .inl (ck_one 21)], ([], [], [(222, 0, 0, ck_one 30), (223, 0, 179, ck_one 0)]), ([(222, 3, 3), (223, 0, 179)], []), [(.inr none, 245, ([], [], [(222, 3, 3, ck_one 21), (223, 0, 179, ck_one 0)]))])
set_option maxRecDepth 100000 in
theorem p34x_720_e : ck_ok p1_O none [] [(8, [p34x_149])] 25 [] 96 p34x_720 = true := by decide +kernel
theorem p34x_720_s {X : Int → Int} {LX : Nat} : ck_Ok p1_O X LX 25 p34x_720 := ck_ok_s (ck_E1 (ck_S1 p34x_149_s ck_S0) ck_E0) ck_X0 ck_l0 p34x_720_e
set_option maxRecDepth 100000 in
def p34x_721 : ck_Sum := ((2, 0, 0), 245, [.inr (.inr (.inl 1)), .inl (ck_one 21)], ([], [], [(220, 3, 3, ck_one 0), (222, 0, 0, ck_one 30), (222, 3, 3, ck_one 0), (223, 0, 179, ck_one 0)]), ([(222, 3, 3), (223, 0, 179)], []), [(.inr none, 245, ([], [], [(222, 3, 3, ck_one 21), (223, 0, 179, ck_one 0)]))])
set_option maxRecDepth 100000 in
theorem p34x_721_e : ck_ok p1_O none [] [(25, [p34x_720]), (9, [p34x_147])] 215 [(10, [some (.inr (.inr (.inl 1))), some (.inl (ck_one 21)), some (.inl (ck_one 0)), none, none], ([], [], [(222, 3, 3, ck_one 21), (223, 0, 179, ck_one 0), (220, 3, 3, ck_one 0), (222, 0, 0, ck_one 30)]), 100, .inl 2, true)] 118 p34x_721 = true := by decide +kernel
theorem p34x_721_s {X : Int → Int} {LX : Nat} : ck_Ok p1_O X LX 215 p34x_721 := ck_ok_s (ck_E1 (ck_S1 p34x_720_s ck_S0) (ck_E1 (ck_S1 p34x_147_s ck_S0) ck_E0)) ck_X0 ck_l0 p34x_721_e
set_option maxRecDepth 100000 in
def p34x_740 : ck_Sum := ((0, 0, 0), 245, [.inr (.inr (.inl 222)), .inl (0, 20, none), .inl (0, 2, none)], ([], [], [(222, 3, 3, ck_one 21), (223, 0, 179, ck_one 0), (222, 1, 1, ck_one 6)]), ([], []), [(.inr (some (.inl (ck_one 0))), 245, ([], [], []))])
set_option maxRecDepth 100000 in
theorem p34x_740_e : ck_ok p1_O none [] [] 10 [] 114 p34x_740 = true := by decide +kernel
theorem p34x_740_s {X : Int → Int} {LX : Nat} : ck_Ok p1_O X LX 10 p34x_740 := ck_ok_s (ck_E0) ck_X0 ck_l0 p34x_740_e
set_option maxRecDepth 100000 in
def p34x_742 : ck_Sum := ((1, 0, 0), 245, [.inr (.inr (.inl 1)), .inl (ck_one 0), .inl (ck_one 21)], ([], [], [(222, 3, 3, ck_one 21), (223, 0, 179, ck_one 0), (222, 1, 1, ck_one 6), (3, 0, 0, ck_one 3)]), ([], []), [(.inr (some (.inl (ck_one 0))), 245, ([], [], []))])
set_option maxRecDepth 100000 in
theorem p34x_742_e : ck_ok p1_O none [] [(10, [p34x_740])] 219 [(5, [some (.inr (.inr (.inl 1))), some (.inl (ck_one 0)), some (.inl (ck_one 21)), some (.inl (ck_one 0)), some (.inl (0, 3, none)), none, none], ([], [], [(222, 3, 3, ck_one 21), (223, 0, 179, ck_one 0), (222, 1, 1, ck_one 6), (3, 0, 0, ck_one 3)]), 100, .inl 4, true), (23, [some (.inr (.inr (.inl 1))), some (.inl (ck_one 0)), some (.inl (ck_one 21)), some (.inl (ck_one 0)), some (.inl (0, 2, some (100, 0))), some (.inl (ck_one 0)), some (.inl (0, 21, none))], ([], [], [(222, 3, 3, ck_one 21), (223, 0, 179, ck_one 0), (222, 1, 1, ck_one 6), (3, 0, 0, ck_one 3)]), 300, .inl 6, true)] 194 p34x_742 = true := by decide +kernel
theorem p34x_742_s {X : Int → Int} {LX : Nat} : ck_Ok p1_O X LX 219 p34x_742 := ck_ok_s (ck_E1 (ck_S1 p34x_740_s ck_S0) ck_E0) ck_X0 ck_l0 p34x_742_e
set_option maxRecDepth 100000 in
def p34x_743 : ck_Sum := ((1, 0, 0), 245, [.inr (.inr (.inl 1)), .inl (1, 2, none), .inl (ck_one 21)], ([], [], [(222, 3, 3, ck_one 21), (223, 0, 179, ck_one 0), (222, 1, 1, ck_one 6), (3, 0, 0, ck_one 3)]), ([], []), [(.inr (some (.inl (ck_one 0))), 245, ([], [], []))])
set_option maxRecDepth 100000 in
theorem p34x_743_e : ck_ok p1_O none [] [(10, [p34x_740])] 219 [(5, [some (.inr (.inr (.inl 1))), some (.inl (1, 2, none)), some (.inl (ck_one 21)), some (.inl (ck_one 0)), some (.inl (0, 3, none)), none, none], ([], [], [(222, 3, 3, ck_one 21), (223, 0, 179, ck_one 0), (222, 1, 1, ck_one 6), (3, 0, 0, ck_one 3)]), 100, .inl 4, true), (23, [some (.inr (.inr (.inl 1))), some (.inl (1, 2, none)), some (.inl (ck_one 21)), some (.inl (ck_one 0)), some (.inl (0, 2, some (100, 0))), some (.inl (ck_one 0)), some (.inl (0, 21, none))], ([], [], [(222, 3, 3, ck_one 21), (223, 0, 179, ck_one 0), (222, 1, 1, ck_one 6), (3, 0, 0, ck_one 3)]), 300, .inl 6, true)] 194 p34x_743 = true := by decide +kernel
theorem p34x_743_s {X : Int → Int} {LX : Nat} : ck_Ok p1_O X LX 219 p34x_743 := ck_ok_s (ck_E1 (ck_S1 p34x_740_s ck_S0) ck_E0) ck_X0 ck_l0 p34x_743_e
set_option maxRecDepth 100000 in
def p34x_744 : ck_Sum := ((3, 0, 0), 245, [.inr (.inr (.inl 1)), .inl (ck_one 21), .inl (ck_one 1)], ([], [], [(222, 1, 1, ck_one 6), (222, 0, 0, ck_one 30), (222, 3, 3, ck_one 0), (1, 15, 15, ck_one 0), (220, 0, 0, ck_one 24), (220, 3, 3, ck_one 0), (10, 3, 3, ck_one 0), (3, 0, 0, ck_one 3), (223, 0, 179, ck_one 0)]), ([(1, 15, 15), (220, 3, 3), (221, 0, 47), (222, 3, 3), (223, 0, 179)], []), [(.inr (some (.inl (ck_one 0))), 245, ([], [], [(222, 3, 3, ck_one 21), (1, 15, 15, ck_one 1), (220, 3, 3, ck_one 0), (223, 0, 179, ck_one 0)]))])
set_option maxRecDepth 100000 in
theorem p34x_744_e : ck_ok p1_O none [] [(214, [p34x_719]), (24, [p34x_148]), (215, [p34x_721]), (219, [p34x_742, p34x_743])] 218 [(19, [some (.inr (.inr (.inl 1))), some (.inl (ck_one 21)), some (.inl (ck_one 1)), some (.inl (ck_one 0)), some (.inl (1, 3, none))], ([], [], [(222, 3, 3, ck_one 21), (223, 0, 179, ck_one 0), (1, 15, 15, ck_one 1), (220, 3, 3, ck_one 0), (222, 1, 1, ck_one 6), (222, 0, 0, ck_one 30), (220, 0, 0, ck_one 24), (10, 3, 3, ck_one 0), (3, 0, 0, ck_one 3)]), 100, .inl 4, true)] 158 p34x_744 = true := by decide +kernel
theorem p34x_744_s {X : Int → Int} {LX : Nat} : ck_Ok p1_O X LX 218 p34x_744 := ck_ok_s (ck_E1 (ck_S1 p34x_719_s ck_S0) (ck_E1 (ck_S1 p34x_148_s ck_S0) (ck_E1 (ck_S1 p34x_721_s ck_S0) (ck_E1 (ck_S1 p34x_742_s (ck_S1 p34x_743_s ck_S0)) ck_E0)))) ck_X0 ck_l0 p34x_744_e
set_option maxRecDepth 100000 in
def p34x_745 : ck_Sum := ((4, 0, 0), 245, [.inr (.inr (.inl 1)), .inl (ck_one 21), .inl (ck_one 1), .inr (.inr (.inl 245))], ([], [], [(222, 1, 1, ck_one 6), (222, 0, 0, ck_one 30), (222, 3, 3, ck_one 0), (1, 15, 15, ck_one 0), (220, 0, 0, ck_one 24), (220, 3, 3, ck_one 0), (10, 3, 3, ck_one 0), (3, 0, 0, ck_one 3), (223, 0, 179, ck_one 0)]), ([(1, 15, 15), (220, 3, 3), (221, 0, 47), (222, 3, 3), (223, 0, 179), (245, 0, 0)], []), [(.inr (some (.inl (ck_one 0))), 245, ([], [], [(245, 0, 0, ck_one 0), (222, 3, 3, ck_one 21), (1, 15, 15, ck_one 1), (220, 3, 3, ck_one 0), (223, 0, 179, ck_one 0)]))])
set_option maxRecDepth 100000 in
theorem p34x_745_e : ck_ok p1_O none [] [(218, [p34x_744])] 217 [] 92 p34x_745 = true := by decide +kernel
theorem p34x_745_s {X : Int → Int} {LX : Nat} : ck_Ok p1_O X LX 217 p34x_745 := ck_ok_s (ck_E1 (ck_S1 p34x_744_s ck_S0) ck_E0) ck_X0 ck_l0 p34x_745_e
set_option maxRecDepth 100000 in
def p34x_751 : ck_Sum := ((3, 0, 0), 245, [.inr (.inr (.inl 1)), .inl (ck_one 21), .inl (ck_one 0)], ([], [], [(222, 1, 1, ck_one 6), (222, 0, 0, ck_one 30), (222, 3, 3, ck_one 0), (1, 15, 15, ck_one 0), (220, 0, 0, ck_one 24), (220, 3, 3, ck_one 0), (10, 3, 3, ck_one 0), (3, 0, 0, ck_one 3), (223, 0, 179, ck_one 0)]), ([(1, 15, 15), (220, 3, 3), (221, 0, 47), (222, 3, 3), (223, 0, 179)], []), [(.inr (some (.inl (ck_one 0))), 245, ([], [], [(222, 3, 3, ck_one 21), (1, 15, 15, ck_one 1), (220, 3, 3, ck_one 0), (223, 0, 179, ck_one 0)]))])
set_option maxRecDepth 100000 in
theorem p34x_751_e : ck_ok p1_O none [] [(214, [p34x_719]), (24, [p34x_148]), (215, [p34x_721]), (219, [p34x_743, p34x_742])] 218 [(19, [some (.inr (.inr (.inl 1))), some (.inl (ck_one 21)), some (.inl (ck_one 0)), some (.inl (ck_one 0)), some (.inl (1, 3, none))], ([], [], [(222, 3, 3, ck_one 21), (223, 0, 179, ck_one 0), (1, 15, 15, ck_one 1), (220, 3, 3, ck_one 0), (222, 1, 1, ck_one 6), (222, 0, 0, ck_one 30), (220, 0, 0, ck_one 24), (10, 3, 3, ck_one 0), (3, 0, 0, ck_one 3)]), 100, .inl 4, true)] 158 p34x_751 = true := by decide +kernel
theorem p34x_751_s {X : Int → Int} {LX : Nat} : ck_Ok p1_O X LX 218 p34x_751 := ck_ok_s (ck_E1 (ck_S1 p34x_719_s ck_S0) (ck_E1 (ck_S1 p34x_148_s ck_S0) (ck_E1 (ck_S1 p34x_721_s ck_S0) (ck_E1 (ck_S1 p34x_743_s (ck_S1 p34x_742_s ck_S0)) ck_E0)))) ck_X0 ck_l0 p34x_751_e
set_option maxRecDepth 100000 in
def p34x_752 : ck_Sum := ((4, 0, 0), 245, [.inr (.inr (.inl 1)), .inl (ck_one 21), .inl (ck_one 0), .inr (.inr (.inl 245))], ([], [], [(222, 1, 1, ck_one 6), (222, 0, 0, ck_one 30), (222, 3, 3, ck_one 0), (1, 15, 15, ck_one 0), (220, 0, 0, ck_one 24), (220, 3, 3, ck_one 0), (10, 3, 3, ck_one 0), (3, 0, 0, ck_one 3), (223, 0, 179, ck_one 0)]), ([(1, 15, 15), (220, 3, 3), (221, 0, 47), (222, 3, 3), (223, 0, 179), (245, 0, 0)], []), [(.inr (some (.inl (ck_one 0))), 245, ([], [], [(245, 0, 0, ck_one 0), (222, 3, 3, ck_one 21), (1, 15, 15, ck_one 1), (220, 3, 3, ck_one 0), (223, 0, 179, ck_one 0)]))])
set_option maxRecDepth 100000 in
theorem p34x_752_e : ck_ok p1_O none [] [(218, [p34x_751])] 217 [] 92 p34x_752 = true := by decide +kernel
theorem p34x_752_s {X : Int → Int} {LX : Nat} : ck_Ok p1_O X LX 217 p34x_752 := ck_ok_s (ck_E1 (ck_S1 p34x_751_s ck_S0) ck_E0) ck_X0 ck_l0 p34x_752_e
set_option maxRecDepth 100000 in
def p34x_754 : ck_Sum := ((0, 0, 0), 245, [.inr (.inr (.inl 1)), .inl (ck_one 22)], ([], [], []), ([], []), [(.inr none, 245, ([], [], []))])
set_option maxRecDepth 100000 in
theorem p34x_754_e : ck_ok p1_O none [] [] 214 [] 84 p34x_754 = true := by decide +kernel
theorem p34x_754_s {X : Int → Int} {LX : Nat} : ck_Ok p1_O X LX 214 p34x_754 := ck_ok_s (ck_E0) ck_X0 ck_l0 p34x_754_e
set_option maxRecDepth 100000 in
def p34x_755 : ck_Sum := ((1, 0, 0), 245, [.inr (.inr (.inl 222)), .inl (ck_one 22)], ([], [], [(222, 0, 0, ck_one 30), (223, 0, 179, ck_one 0)]), ([(222, 3, 3), (223, 0, 179)], []), [(.inr none, 245, ([], [], [(222, 3, 3, ck_one 22), (223, 0, 179, ck_one 0)]))])
set_option maxRecDepth 100000 in
theorem p34x_755_e : ck_ok p1_O none [] [(8, [p34x_149])] 25 [] 96 p34x_755 = true := by decide +kernel
theorem p34x_755_s {X : Int → Int} {LX : Nat} : ck_Ok p1_O X LX 25 p34x_755 := ck_ok_s (ck_E1 (ck_S1 p34x_149_s ck_S0) ck_E0) ck_X0 ck_l0 p34x_755_e
set_option maxRecDepth 100000 in
def p34x_756 : ck_Sum := ((2, 0, 0), 245, [.inr (.inr (.inl 1)), .inl (ck_one 22)], ([], [], [(220, 3, 3, ck_one 0), (222, 0, 0, ck_one 30), (222, 3, 3, ck_one 0), (223, 0, 179, ck_one 0)]), ([(222, 3, 3), (223, 0, 179)], []), [(.inr none, 245, ([], [], [(222, 3, 3, ck_one 22), (223, 0, 179, ck_one 0)]))])
set_option maxRecDepth 100000 in
theorem p34x_756_e : ck_ok p1_O none [] [(25, [p34x_755]), (9, [p34x_147])] 215 [(10, [some (.inr (.inr (.inl 1))), some (.inl (ck_one 22)), some (.inl (ck_one 0)), none, none], ([], [], [(222, 3, 3, ck_one 22), (223, 0, 179, ck_one 0), (220, 3, 3, ck_one 0), (222, 0, 0, ck_one 30)]), 100, .inl 2, true)] 118 p34x_756 = true := by decide +kernel
theorem p34x_756_s {X : Int → Int} {LX : Nat} : ck_Ok p1_O X LX 215 p34x_756 := ck_ok_s (ck_E1 (ck_S1 p34x_755_s ck_S0) (ck_E1 (ck_S1 p34x_147_s ck_S0) ck_E0)) ck_X0 ck_l0 p34x_756_e
set_option maxRecDepth 100000 in
def p34x_775 : ck_Sum := ((0, 0, 0), 245, [.inr (.inr (.inl 222)), .inl (0, 21, none), .inl (0, 2, none)], ([], [], [(222, 3, 3, ck_one 22), (223, 0, 179, ck_one 0), (222, 1, 1, ck_one 6)]), ([], []), [(.inr (some (.inl (ck_one 0))), 245, ([], [], []))])
set_option maxRecDepth 100000 in
theorem p34x_775_e : ck_ok p1_O none [] [] 10 [] 114 p34x_775 = true := by decide +kernel
theorem p34x_775_s {X : Int → Int} {LX : Nat} : ck_Ok p1_O X LX 10 p34x_775 := ck_ok_s (ck_E0) ck_X0 ck_l0 p34x_775_e
set_option maxRecDepth 100000 in
def p34x_777 : ck_Sum := ((1, 0, 0), 245, [.inr (.inr (.inl 1)), .inl (ck_one 0), .inl (ck_one 22)], ([], [], [(222, 3, 3, ck_one 22), (223, 0, 179, ck_one 0), (222, 1, 1, ck_one 6), (3, 0, 0, ck_one 3)]), ([], []), [(.inr (some (.inl (ck_one 0))), 245, ([], [], []))])
set_option maxRecDepth 100000 in
theorem p34x_777_e : ck_ok p1_O none [] [(10, [p34x_775])] 219 [(5, [some (.inr (.inr (.inl 1))), some (.inl (ck_one 0)), some (.inl (ck_one 22)), some (.inl (ck_one 0)), some (.inl (0, 3, none)), none, none], ([], [], [(222, 3, 3, ck_one 22), (223, 0, 179, ck_one 0), (222, 1, 1, ck_one 6), (3, 0, 0, ck_one 3)]), 100, .inl 4, true), (23, [some (.inr (.inr (.inl 1))), some (.inl (ck_one 0)), some (.inl (ck_one 22)), some (.inl (ck_one 0)), some (.inl (0, 2, some (100, 0))), some (.inl (ck_one 0)), some (.inl (0, 22, none))], ([], [], [(222, 3, 3, ck_one 22), (223, 0, 179, ck_one 0), (222, 1, 1, ck_one 6), (3, 0, 0, ck_one 3)]), 300, .inl 6, true)] 194 p34x_777 = true := by decide +kernel
theorem p34x_777_s {X : Int → Int} {LX : Nat} : ck_Ok p1_O X LX 219 p34x_777 := ck_ok_s (ck_E1 (ck_S1 p34x_775_s ck_S0) ck_E0) ck_X0 ck_l0 p34x_777_e
set_option maxRecDepth 100000 in
def p34x_778 : ck_Sum := ((1, 0, 0), 245, [.inr (.inr (.inl 1)), .inl (1, 2, none), .inl (ck_one 22)], ([], [], [(222, 3, 3, ck_one 22), (223, 0, 179, ck_one 0), (222, 1, 1, ck_one 6), (3, 0, 0, ck_one 3)]), ([], []), [(.inr (some (.inl (ck_one 0))), 245, ([], [], []))])
set_option maxRecDepth 100000 in
theorem p34x_778_e : ck_ok p1_O none [] [(10, [p34x_775])] 219 [(5, [some (.inr (.inr (.inl 1))), some (.inl (1, 2, none)), some (.inl (ck_one 22)), some (.inl (ck_one 0)), some (.inl (0, 3, none)), none, none], ([], [], [(222, 3, 3, ck_one 22), (223, 0, 179, ck_one 0), (222, 1, 1, ck_one 6), (3, 0, 0, ck_one 3)]), 100, .inl 4, true), (23, [some (.inr (.inr (.inl 1))), some (.inl (1, 2, none)), some (.inl (ck_one 22)), some (.inl (ck_one 0)), some (.inl (0, 2, some (100, 0))), some (.inl (ck_one 0)), some (.inl (0, 22, none))], ([], [], [(222, 3, 3, ck_one 22), (223, 0, 179, ck_one 0), (222, 1, 1, ck_one 6), (3, 0, 0, ck_one 3)]), 300, .inl 6, true)] 194 p34x_778 = true := by decide +kernel
theorem p34x_778_s {X : Int → Int} {LX : Nat} : ck_Ok p1_O X LX 219 p34x_778 := ck_ok_s (ck_E1 (ck_S1 p34x_775_s ck_S0) ck_E0) ck_X0 ck_l0 p34x_778_e
set_option maxRecDepth 100000 in
def p34x_779 : ck_Sum := ((3, 0, 0), 245, [.inr (.inr (.inl 1)), .inl (ck_one 22), .inl (ck_one 1)], ([], [], [(222, 1, 1, ck_one 6), (222, 0, 0, ck_one 30), (222, 3, 3, ck_one 0), (1, 15, 15, ck_one 0), (220, 0, 0, ck_one 24), (220, 3, 3, ck_one 0), (10, 3, 3, ck_one 0), (3, 0, 0, ck_one 3), (223, 0, 179, ck_one 0)]), ([(1, 15, 15), (220, 3, 3), (221, 0, 47), (222, 3, 3), (223, 0, 179)], []), [(.inr (some (.inl (ck_one 0))), 245, ([], [], [(222, 3, 3, ck_one 22), (1, 15, 15, ck_one 1), (220, 3, 3, ck_one 0), (223, 0, 179, ck_one 0)]))])
set_option maxRecDepth 100000 in
theorem p34x_779_e : ck_ok p1_O none [] [(214, [p34x_754]), (24, [p34x_148]), (215, [p34x_756]), (219, [p34x_777, p34x_778])] 218 [(19, [some (.inr (.inr (.inl 1))), some (.inl (ck_one 22)), some (.inl (ck_one 1)), some (.inl (ck_one 0)), some (.inl (1, 3, none))], ([], [], [(222, 3, 3, ck_one 22), (223, 0, 179, ck_one 0), (1, 15, 15, ck_one 1), (220, 3, 3, ck_one 0), (222, 1, 1, ck_one 6), (222, 0, 0, ck_one 30), (220, 0, 0, ck_one 24), (10, 3, 3, ck_one 0), (3, 0, 0, ck_one 3)]), 100, .inl 4, true)] 158 p34x_779 = true := by decide +kernel
theorem p34x_779_s {X : Int → Int} {LX : Nat} : ck_Ok p1_O X LX 218 p34x_779 := ck_ok_s (ck_E1 (ck_S1 p34x_754_s ck_S0) (ck_E1 (ck_S1 p34x_148_s ck_S0) (ck_E1 (ck_S1 p34x_756_s ck_S0) (ck_E1 (ck_S1 p34x_777_s (ck_S1 p34x_778_s ck_S0)) ck_E0)))) ck_X0 ck_l0 p34x_779_e
set_option maxRecDepth 100000 in
def p34x_780 : ck_Sum := ((4, 0, 0), 245, [.inr (.inr (.inl 1)), .inl (ck_one 22), .inl (ck_one 1), .inr (.inr (.inl 245))], ([], [], [(222, 1, 1, ck_one 6), (222, 0, 0, ck_one 30), (222, 3, 3, ck_one 0), (1, 15, 15, ck_one 0), (220, 0, 0, ck_one 24), (220, 3, 3, ck_one 0), (10, 3, 3, ck_one 0), (3, 0, 0, ck_one 3), (223, 0, 179, ck_one 0)]), ([(1, 15, 15), (220, 3, 3), (221, 0, 47), (222, 3, 3), (223, 0, 179), (245, 0, 0)], []), [(.inr (some (.inl (ck_one 0))), 245, ([], [], [(245, 0, 0, ck_one 0), (222, 3, 3, ck_one 22), (1, 15, 15, ck_one 1), (220, 3, 3, ck_one 0), (223, 0, 179, ck_one 0)]))])
set_option maxRecDepth 100000 in
theorem p34x_780_e : ck_ok p1_O none [] [(218, [p34x_779])] 217 [] 92 p34x_780 = true := by decide +kernel
theorem p34x_780_s {X : Int → Int} {LX : Nat} : ck_Ok p1_O X LX 217 p34x_780 := ck_ok_s (ck_E1 (ck_S1 p34x_779_s ck_S0) ck_E0) ck_X0 ck_l0 p34x_780_e
set_option maxRecDepth 100000 in
def p34x_786 : ck_Sum := ((3, 0, 0), 245, [.inr (.inr (.inl 1)), .inl (ck_one 22), .inl (ck_one 0)], ([], [], [(222, 1, 1, ck_one 6), (222, 0, 0, ck_one 30), (222, 3, 3, ck_one 0), (1, 15, 15, ck_one 0), (220, 0, 0, ck_one 24), (220, 3, 3, ck_one 0), (10, 3, 3, ck_one 0), (3, 0, 0, ck_one 3), (223, 0, 179, ck_one 0)]), ([(1, 15, 15), (220, 3, 3), (221, 0, 47), (222, 3, 3), (223, 0, 179)], []), [(.inr (some (.inl (ck_one 0))), 245, ([], [], [(222, 3, 3, ck_one 22), (1, 15, 15, ck_one 1), (220, 3, 3, ck_one 0), (223, 0, 179, ck_one 0)]))])
set_option maxRecDepth 100000 in
theorem p34x_786_e : ck_ok p1_O none [] [(214, [p34x_754]), (24, [p34x_148]), (215, [p34x_756]), (219, [p34x_778, p34x_777])] 218 [(19, [some (.inr (.inr (.inl 1))), some (.inl (ck_one 22)), some (.inl (ck_one 0)), some (.inl (ck_one 0)), some (.inl (1, 3, none))], ([], [], [(222, 3, 3, ck_one 22), (223, 0, 179, ck_one 0), (1, 15, 15, ck_one 1), (220, 3, 3, ck_one 0), (222, 1, 1, ck_one 6), (222, 0, 0, ck_one 30), (220, 0, 0, ck_one 24), (10, 3, 3, ck_one 0), (3, 0, 0, ck_one 3)]), 100, .inl 4, true)] 158 p34x_786 = true := by decide +kernel
theorem p34x_786_s {X : Int → Int} {LX : Nat} : ck_Ok p1_O X LX 218 p34x_786 := ck_ok_s (ck_E1 (ck_S1 p34x_754_s ck_S0) (ck_E1 (ck_S1 p34x_148_s ck_S0) (ck_E1 (ck_S1 p34x_756_s ck_S0) (ck_E1 (ck_S1 p34x_778_s (ck_S1 p34x_777_s ck_S0)) ck_E0)))) ck_X0 ck_l0 p34x_786_e
set_option maxRecDepth 100000 in
def p34x_787 : ck_Sum := ((4, 0, 0), 245, [.inr (.inr (.inl 1)), .inl (ck_one 22), .inl (ck_one 0), .inr (.inr (.inl 245))], ([], [], [(222, 1, 1, ck_one 6), (222, 0, 0, ck_one 30), (222, 3, 3, ck_one 0), (1, 15, 15, ck_one 0), (220, 0, 0, ck_one 24), (220, 3, 3, ck_one 0), (10, 3, 3, ck_one 0), (3, 0, 0, ck_one 3), (223, 0, 179, ck_one 0)]), ([(1, 15, 15), (220, 3, 3), (221, 0, 47), (222, 3, 3), (223, 0, 179), (245, 0, 0)], []), [(.inr (some (.inl (ck_one 0))), 245, ([], [], [(245, 0, 0, ck_one 0), (222, 3, 3, ck_one 22), (1, 15, 15, ck_one 1), (220, 3, 3, ck_one 0), (223, 0, 179, ck_one 0)]))])
set_option maxRecDepth 100000 in
theorem p34x_787_e : ck_ok p1_O none [] [(218, [p34x_786])] 217 [] 92 p34x_787 = true := by decide +kernel
theorem p34x_787_s {X : Int → Int} {LX : Nat} : ck_Ok p1_O X LX 217 p34x_787 := ck_ok_s (ck_E1 (ck_S1 p34x_786_s ck_S0) ck_E0) ck_X0 ck_l0 p34x_787_e
set_option maxRecDepth 100000 in
def p34x_789 : ck_Sum := ((0, 0, 0), 245, [.inr (.inr (.inl 1)), .inl (ck_one 23)], ([], [], []), ([], []), [(.inr none, 245, ([], [], []))])
set_option maxRecDepth 100000 in
theorem p34x_789_e : ck_ok p1_O none [] [] 214 [] 84 p34x_789 = true := by decide +kernel
theorem p34x_789_s {X : Int → Int} {LX : Nat} : ck_Ok p1_O X LX 214 p34x_789 := ck_ok_s (ck_E0) ck_X0 ck_l0 p34x_789_e
set_option maxRecDepth 100000 in
def p34x_790 : ck_Sum := ((1, 0, 0), 245, [.inr (.inr (.inl 222)), .inl (ck_one 23)], ([], [], [(222, 0, 0, ck_one 30), (223, 0, 179, ck_one 0)]), ([(222, 3, 3), (223, 0, 179)], []), [(.inr none, 245, ([], [], [(222, 3, 3, ck_one 23), (223, 0, 179, ck_one 0)]))])
set_option maxRecDepth 100000 in
theorem p34x_790_e : ck_ok p1_O none [] [(8, [p34x_149])] 25 [] 96 p34x_790 = true := by decide +kernel
theorem p34x_790_s {X : Int → Int} {LX : Nat} : ck_Ok p1_O X LX 25 p34x_790 := ck_ok_s (ck_E1 (ck_S1 p34x_149_s ck_S0) ck_E0) ck_X0 ck_l0 p34x_790_e
set_option maxRecDepth 100000 in
def p34x_791 : ck_Sum := ((2, 0, 0), 245, [.inr (.inr (.inl 1)), .inl (ck_one 23)], ([], [], [(220, 3, 3, ck_one 0), (222, 0, 0, ck_one 30), (222, 3, 3, ck_one 0), (223, 0, 179, ck_one 0)]), ([(222, 3, 3), (223, 0, 179)], []), [(.inr none, 245, ([], [], [(222, 3, 3, ck_one 23), (223, 0, 179, ck_one 0)]))])
set_option maxRecDepth 100000 in
theorem p34x_791_e : ck_ok p1_O none [] [(25, [p34x_790]), (9, [p34x_147])] 215 [(10, [some (.inr (.inr (.inl 1))), some (.inl (ck_one 23)), some (.inl (ck_one 0)), none, none], ([], [], [(222, 3, 3, ck_one 23), (223, 0, 179, ck_one 0), (220, 3, 3, ck_one 0), (222, 0, 0, ck_one 30)]), 100, .inl 2, true)] 118 p34x_791 = true := by decide +kernel
theorem p34x_791_s {X : Int → Int} {LX : Nat} : ck_Ok p1_O X LX 215 p34x_791 := ck_ok_s (ck_E1 (ck_S1 p34x_790_s ck_S0) (ck_E1 (ck_S1 p34x_147_s ck_S0) ck_E0)) ck_X0 ck_l0 p34x_791_e
set_option maxRecDepth 100000 in
def p34x_810 : ck_Sum := ((0, 0, 0), 245, [.inr (.inr (.inl 222)), .inl (0, 22, none), .inl (0, 2, none)], ([], [], [(222, 3, 3, ck_one 23), (223, 0, 179, ck_one 0), (222, 1, 1, ck_one 6)]), ([], []), [(.inr (some (.inl (ck_one 0))), 245, ([], [], []))])
set_option maxRecDepth 100000 in
theorem p34x_810_e : ck_ok p1_O none [] [] 10 [] 114 p34x_810 = true := by decide +kernel
theorem p34x_810_s {X : Int → Int} {LX : Nat} : ck_Ok p1_O X LX 10 p34x_810 := ck_ok_s (ck_E0) ck_X0 ck_l0 p34x_810_e
set_option maxRecDepth 100000 in
def p34x_812 : ck_Sum := ((1, 0, 0), 245, [.inr (.inr (.inl 1)), .inl (ck_one 0), .inl (ck_one 23)], ([], [], [(222, 3, 3, ck_one 23), (223, 0, 179, ck_one 0), (222, 1, 1, ck_one 6), (3, 0, 0, ck_one 3)]), ([], []), [(.inr (some (.inl (ck_one 0))), 245, ([], [], []))])
set_option maxRecDepth 100000 in
theorem p34x_812_e : ck_ok p1_O none [] [(10, [p34x_810])] 219 [(5, [some (.inr (.inr (.inl 1))), some (.inl (ck_one 0)), some (.inl (ck_one 23)), some (.inl (ck_one 0)), some (.inl (0, 3, none)), none, none], ([], [], [(222, 3, 3, ck_one 23), (223, 0, 179, ck_one 0), (222, 1, 1, ck_one 6), (3, 0, 0, ck_one 3)]), 100, .inl 4, true), (23, [some (.inr (.inr (.inl 1))), some (.inl (ck_one 0)), some (.inl (ck_one 23)), some (.inl (ck_one 0)), some (.inl (0, 2, some (100, 0))), some (.inl (ck_one 0)), some (.inl (0, 23, none))], ([], [], [(222, 3, 3, ck_one 23), (223, 0, 179, ck_one 0), (222, 1, 1, ck_one 6), (3, 0, 0, ck_one 3)]), 300, .inl 6, true)] 194 p34x_812 = true := by decide +kernel
theorem p34x_812_s {X : Int → Int} {LX : Nat} : ck_Ok p1_O X LX 219 p34x_812 := ck_ok_s (ck_E1 (ck_S1 p34x_810_s ck_S0) ck_E0) ck_X0 ck_l0 p34x_812_e
set_option maxRecDepth 100000 in
def p34x_813 : ck_Sum := ((1, 0, 0), 245, [.inr (.inr (.inl 1)), .inl (1, 2, none), .inl (ck_one 23)], ([], [], [(222, 3, 3, ck_one 23), (223, 0, 179, ck_one 0), (222, 1, 1, ck_one 6), (3, 0, 0, ck_one 3)]), ([], []), [(.inr (some (.inl (ck_one 0))), 245, ([], [], []))])
set_option maxRecDepth 100000 in
theorem p34x_813_e : ck_ok p1_O none [] [(10, [p34x_810])] 219 [(5, [some (.inr (.inr (.inl 1))), some (.inl (1, 2, none)), some (.inl (ck_one 23)), some (.inl (ck_one 0)), some (.inl (0, 3, none)), none, none], ([], [], [(222, 3, 3, ck_one 23), (223, 0, 179, ck_one 0), (222, 1, 1, ck_one 6), (3, 0, 0, ck_one 3)]), 100, .inl 4, true), (23, [some (.inr (.inr (.inl 1))), some (.inl (1, 2, none)), some (.inl (ck_one 23)), some (.inl (ck_one 0)), some (.inl (0, 2, some (100, 0))), some (.inl (ck_one 0)), some (.inl (0, 23, none))], ([], [], [(222, 3, 3, ck_one 23), (223, 0, 179, ck_one 0), (222, 1, 1, ck_one 6), (3, 0, 0, ck_one 3)]), 300, .inl 6, true)] 194 p34x_813 = true := by decide +kernel
theorem p34x_813_s {X : Int → Int} {LX : Nat} : ck_Ok p1_O X LX 219 p34x_813 := ck_ok_s (ck_E1 (ck_S1 p34x_810_s ck_S0) ck_E0) ck_X0 ck_l0 p34x_813_e
set_option maxRecDepth 100000 in
def p34x_814 : ck_Sum := ((3, 0, 0), 245, [.inr (.inr (.inl 1)), .inl (ck_one 23), .inl (ck_one 1)], ([], [], [(222, 1, 1, ck_one 6), (222, 0, 0, ck_one 30), (222, 3, 3, ck_one 0), (1, 15, 15, ck_one 0), (220, 0, 0, ck_one 24), (220, 3, 3, ck_one 0), (10, 3, 3, ck_one 0), (3, 0, 0, ck_one 3), (223, 0, 179, ck_one 0)]), ([(1, 15, 15), (220, 3, 3), (221, 0, 47), (222, 3, 3), (223, 0, 179)], []), [(.inr (some (.inl (ck_one 0))), 245, ([], [], [(222, 3, 3, ck_one 23), (1, 15, 15, ck_one 1), (220, 3, 3, ck_one 0), (223, 0, 179, ck_one 0)]))])
set_option maxRecDepth 100000 in
theorem p34x_814_e : ck_ok p1_O none [] [(214, [p34x_789]), (24, [p34x_148]), (215, [p34x_791]), (219, [p34x_812, p34x_813])] 218 [(19, [some (.inr (.inr (.inl 1))), some (.inl (ck_one 23)), some (.inl (ck_one 1)), some (.inl (ck_one 0)), some (.inl (1, 3, none))], ([], [], [(222, 3, 3, ck_one 23), (223, 0, 179, ck_one 0), (1, 15, 15, ck_one 1), (220, 3, 3, ck_one 0), (222, 1, 1, ck_one 6), (222, 0, 0, ck_one 30), (220, 0, 0, ck_one 24), (10, 3, 3, ck_one 0), (3, 0, 0, ck_one 3)]), 100, .inl 4, true)] 158 p34x_814 = true := by decide +kernel
theorem p34x_814_s {X : Int → Int} {LX : Nat} : ck_Ok p1_O X LX 218 p34x_814 := ck_ok_s (ck_E1 (ck_S1 p34x_789_s ck_S0) (ck_E1 (ck_S1 p34x_148_s ck_S0) (ck_E1 (ck_S1 p34x_791_s ck_S0) (ck_E1 (ck_S1 p34x_812_s (ck_S1 p34x_813_s ck_S0)) ck_E0)))) ck_X0 ck_l0 p34x_814_e
set_option maxRecDepth 100000 in
def p34x_815 : ck_Sum := ((4, 0, 0), 245, [.inr (.inr (.inl 1)), .inl (ck_one 23), .inl (ck_one 1), .inr (.inr (.inl 245))], ([], [], [(222, 1, 1, ck_one 6), (222, 0, 0, ck_one 30), (222, 3, 3, ck_one 0), (1, 15, 15, ck_one 0), (220, 0, 0, ck_one 24), (220, 3, 3, ck_one 0), (10, 3, 3, ck_one 0), (3, 0, 0, ck_one 3), (223, 0, 179, ck_one 0)]), ([(1, 15, 15), (220, 3, 3), (221, 0, 47), (222, 3, 3), (223, 0, 179), (245, 0, 0)], []), [(.inr (some (.inl (ck_one 0))), 245, ([], [], [(245, 0, 0, ck_one 0), (222, 3, 3, ck_one 23), (1, 15, 15, ck_one 1), (220, 3, 3, ck_one 0), (223, 0, 179, ck_one 0)]))])
set_option maxRecDepth 100000 in
theorem p34x_815_e : ck_ok p1_O none [] [(218, [p34x_814])] 217 [] 92 p34x_815 = true := by decide +kernel
theorem p34x_815_s {X : Int → Int} {LX : Nat} : ck_Ok p1_O X LX 217 p34x_815 := ck_ok_s (ck_E1 (ck_S1 p34x_814_s ck_S0) ck_E0) ck_X0 ck_l0 p34x_815_e
set_option maxRecDepth 100000 in
def p34x_821 : ck_Sum := ((3, 0, 0), 245, [.inr (.inr (.inl 1)), .inl (ck_one 23), .inl (ck_one 0)], ([], [], [(222, 1, 1, ck_one 6), (222, 0, 0, ck_one 30), (222, 3, 3, ck_one 0), (1, 15, 15, ck_one 0), (220, 0, 0, ck_one 24), (220, 3, 3, ck_one 0), (10, 3, 3, ck_one 0), (3, 0, 0, ck_one 3), (223, 0, 179, ck_one 0)]), ([(1, 15, 15), (220, 3, 3), (221, 0, 47), (222, 3, 3), (223, 0, 179)], []), [(.inr (some (.inl (ck_one 0))), 245, ([], [], [(222, 3, 3, ck_one 23), (1, 15, 15, ck_one 1), (220, 3, 3, ck_one 0), (223, 0, 179, ck_one 0)]))])
set_option maxRecDepth 100000 in
theorem p34x_821_e : ck_ok p1_O none [] [(214, [p34x_789]), (24, [p34x_148]), (215, [p34x_791]), (219, [p34x_813, p34x_812])] 218 [(19, [some (.inr (.inr (.inl 1))), some (.inl (ck_one 23)), some (.inl (ck_one 0)), some (.inl (ck_one 0)), some (.inl (1, 3, none))], ([], [], [(222, 3, 3, ck_one 23), (223, 0, 179, ck_one 0), (1, 15, 15, ck_one 1), (220, 3, 3, ck_one 0), (222, 1, 1, ck_one 6), (222, 0, 0, ck_one 30), (220, 0, 0, ck_one 24), (10, 3, 3, ck_one 0), (3, 0, 0, ck_one 3)]), 100, .inl 4, true)] 158 p34x_821 = true := by decide +kernel
theorem p34x_821_s {X : Int → Int} {LX : Nat} : ck_Ok p1_O X LX 218 p34x_821 := ck_ok_s (ck_E1 (ck_S1 p34x_789_s ck_S0) (ck_E1 (ck_S1 p34x_148_s ck_S0) (ck_E1 (ck_S1 p34x_791_s ck_S0) (ck_E1 (ck_S1 p34x_813_s (ck_S1 p34x_812_s ck_S0)) ck_E0)))) ck_X0 ck_l0 p34x_821_e
set_option maxRecDepth 100000 in
def p34x_822 : ck_Sum := ((4, 0, 0), 245, [.inr (.inr (.inl 1)), .inl (ck_one 23), .inl (ck_one 0), .inr (.inr (.inl 245))], ([], [], [(222, 1, 1, ck_one 6), (222, 0, 0, ck_one 30), (222, 3, 3, ck_one 0), (1, 15, 15, ck_one 0), (220, 0, 0, ck_one 24), (220, 3, 3, ck_one 0), (10, 3, 3, ck_one 0), (3, 0, 0, ck_one 3), (223, 0, 179, ck_one 0)]), ([(1, 15, 15), (220, 3, 3), (221, 0, 47), (222, 3, 3), (223, 0, 179), (245, 0, 0)], []), [(.inr (some (.inl (ck_one 0))), 245, ([], [], [(245, 0, 0, ck_one 0), (222, 3, 3, ck_one 23), (1, 15, 15, ck_one 1), (220, 3, 3, ck_one 0), (223, 0, 179, ck_one 0)]))])
set_option maxRecDepth 100000 in
theorem p34x_822_e : ck_ok p1_O none [] [(218, [p34x_821])] 217 [] 92 p34x_822 = true := by decide +kernel
theorem p34x_822_s {X : Int → Int} {LX : Nat} : ck_Ok p1_O X LX 217 p34x_822 := ck_ok_s (ck_E1 (ck_S1 p34x_821_s ck_S0) ck_E0) ck_X0 ck_l0 p34x_822_e
set_option maxRecDepth 100000 in
def p34x_824 : ck_Sum := ((0, 0, 0), 245, [.inr (.inr (.inl 1)), .inl (ck_one 24)], ([], [], []), ([], []), [(.inr none, 245, ([], [], []))])
set_option maxRecDepth 100000 in
theorem p34x_824_e : ck_ok p1_O none [] [] 214 [] 84 p34x_824 = true := by decide +kernel
theorem p34x_824_s {X : Int → Int} {LX : Nat} : ck_Ok p1_O X LX 214 p34x_824 := ck_ok_s (ck_E0) ck_X0 ck_l0 p34x_824_e
set_option maxRecDepth 100000 in
def p34x_825 : ck_Sum := ((1, 0, 0), 245, [.inr (.inr (.inl 222)), .inl (ck_one 24)], ([], [], [(222, 0, 0, ck_one 30), (223, 0, 179, ck_one 0)]), ([(222, 3, 3), (223, 0, 179)], []), [(.inr none, 245, ([], [], [(222, 3, 3, ck_one 24), (223, 0, 179, ck_one 0)]))])
set_option maxRecDepth 100000 in
theorem p34x_825_e : ck_ok p1_O none [] [(8, [p34x_149])] 25 [] 96 p34x_825 = true := by decide +kernel
theorem p34x_825_s {X : Int → Int} {LX : Nat} : ck_Ok p1_O X LX 25 p34x_825 := ck_ok_s (ck_E1 (ck_S1 p34x_149_s ck_S0) ck_E0) ck_X0 ck_l0 p34x_825_e
set_option maxRecDepth 100000 in
def p34x_826 : ck_Sum := ((2, 0, 0), 245, [.inr (.inr (.inl 1)), .inl (ck_one 24)], ([], [], [(220, 3, 3, ck_one 0), (222, 0, 0, ck_one 30), (222, 3, 3, ck_one 0), (223, 0, 179, ck_one 0)]), ([(222, 3, 3), (223, 0, 179)], []), [(.inr none, 245, ([], [], [(222, 3, 3, ck_one 24), (223, 0, 179, ck_one 0)]))])
set_option maxRecDepth 100000 in
theorem p34x_826_e : ck_ok p1_O none [] [(25, [p34x_825]), (9, [p34x_147])] 215 [(10, [some (.inr (.inr (.inl 1))), some (.inl (ck_one 24)), some (.inl (ck_one 0)), none, none], ([], [], [(222, 3, 3, ck_one 24), (223, 0, 179, ck_one 0), (220, 3, 3, ck_one 0), (222, 0, 0, ck_one 30)]), 100, .inl 2, true)] 118 p34x_826 = true := by decide +kernel
theorem p34x_826_s {X : Int → Int} {LX : Nat} : ck_Ok p1_O X LX 215 p34x_826 := ck_ok_s (ck_E1 (ck_S1 p34x_825_s ck_S0) (ck_E1 (ck_S1 p34x_147_s ck_S0) ck_E0)) ck_X0 ck_l0 p34x_826_e
set_option maxRecDepth 100000 in
def p34x_845 : ck_Sum := ((0, 0, 0), 245, [.inr (.inr (.inl 222)), .inl (0, 23, none), .inl (0, 2, none)], ([], [], [(222, 3, 3, ck_one 24), (223, 0, 179, ck_one 0), (222, 1, 1, ck_one 6)]), ([], []), [(.inr (some (.inl (ck_one 0))), 245, ([], [], []))])
set_option maxRecDepth 100000 in
theorem p34x_845_e : ck_ok p1_O none [] [] 10 [] 114 p34x_845 = true := by decide +kernel
theorem p34x_845_s {X : Int → Int} {LX : Nat} : ck_Ok p1_O X LX 10 p34x_845 := ck_ok_s (ck_E0) ck_X0 ck_l0 p34x_845_e
set_option maxRecDepth 100000 in
def p34x_847 : ck_Sum := ((1, 0, 0), 245, [.inr (.inr (.inl 1)), .inl (ck_one 0), .inl (ck_one 24)], ([], [], [(222, 3, 3, ck_one 24), (223, 0, 179, ck_one 0), (222, 1, 1, ck_one 6), (3, 0, 0, ck_one 3)]), ([], []), [(.inr (some (.inl (ck_one 0))), 245, ([], [], []))])
set_option maxRecDepth 100000 in
theorem p34x_847_e : ck_ok p1_O none [] [(10, [p34x_845])] 219 [(5, [some (.inr (.inr (.inl 1))), some (.inl (ck_one 0)), some (.inl (ck_one 24)), some (.inl (ck_one 0)), some (.inl (0, 3, none)), none, none], ([], [], [(222, 3, 3, ck_one 24), (223, 0, 179, ck_one 0), (222, 1, 1, ck_one 6), (3, 0, 0, ck_one 3)]), 100, .inl 4, true), (23, [some (.inr (.inr (.inl 1))), some (.inl (ck_one 0)), some (.inl (ck_one 24)), some (.inl (ck_one 0)), some (.inl (0, 2, some (100, 0))), some (.inl (ck_one 0)), some (.inl (0, 24, none))], ([], [], [(222, 3, 3, ck_one 24), (223, 0, 179, ck_one 0), (222, 1, 1, ck_one 6), (3, 0, 0, ck_one 3)]), 300, .inl 6, true)] 194 p34x_847 = true := by decide +kernel
theorem p34x_847_s {X : Int → Int} {LX : Nat} : ck_Ok p1_O X LX 219 p34x_847 := ck_ok_s (ck_E1 (ck_S1 p34x_845_s ck_S0) ck_E0) ck_X0 ck_l0 p34x_847_e
set_option maxRecDepth 100000 in
def p34x_848 : ck_Sum := ((1, 0, 0), 245, [.inr (.inr (.inl 1)), .inl (1, 2, none), .inl (ck_one 24)], ([], [], [(222, 3, 3, ck_one 24), (223, 0, 179, ck_one 0), (222, 1, 1, ck_one 6), (3, 0, 0, ck_one 3)]), ([], []), [(.inr (some (.inl (ck_one 0))), 245, ([], [], []))])
set_option maxRecDepth 100000 in
theorem p34x_848_e : ck_ok p1_O none [] [(10, [p34x_845])] 219 [(5, [some (.inr (.inr (.inl 1))), some (.inl (1, 2, none)), some (.inl (ck_one 24)), some (.inl (ck_one 0)), some (.inl (0, 3, none)), none, none], ([], [], [(222, 3, 3, ck_one 24), (223, 0, 179, ck_one 0), (222, 1, 1, ck_one 6), (3, 0, 0, ck_one 3)]), 100, .inl 4, true), (23, [some (.inr (.inr (.inl 1))), some (.inl (1, 2, none)), some (.inl (ck_one 24)), some (.inl (ck_one 0)), some (.inl (0, 2, some (100, 0))), some (.inl (ck_one 0)), some (.inl (0, 24, none))], ([], [], [(222, 3, 3, ck_one 24), (223, 0, 179, ck_one 0), (222, 1, 1, ck_one 6), (3, 0, 0, ck_one 3)]), 300, .inl 6, true)] 194 p34x_848 = true := by decide +kernel
theorem p34x_848_s {X : Int → Int} {LX : Nat} : ck_Ok p1_O X LX 219 p34x_848 := ck_ok_s (ck_E1 (ck_S1 p34x_845_s ck_S0) ck_E0) ck_X0 ck_l0 p34x_848_e
set_option maxRecDepth 100000 in
def p34x_849 : ck_Sum := ((3, 0, 0), 245, [.inr (.inr (.inl 1)), .inl (ck_one 24), .inl (ck_one 1)], ([], [], [(222, 1, 1, ck_one 6), (222, 0, 0, ck_one 30), (222, 3, 3, ck_one 0), (1, 15, 15, ck_one 0), (220, 0, 0, ck_one 24), (220, 3, 3, ck_one 0), (10, 3, 3, ck_one 0), (3, 0, 0, ck_one 3), (223, 0, 179, ck_one 0)]), ([(1, 15, 15), (220, 3, 3), (221, 0, 47), (222, 3, 3), (223, 0, 179)], []), [(.inr (some (.inl (ck_one 0))), 245, ([], [], [(222, 3, 3, ck_one 24), (1, 15, 15, ck_one 1), (220, 3, 3, ck_one 0), (223, 0, 179, ck_one 0)]))])
set_option maxRecDepth 100000 in
theorem p34x_849_e : ck_ok p1_O none [] [(214, [p34x_824]), (24, [p34x_148]), (215, [p34x_826]), (219, [p34x_847, p34x_848])] 218 [(19, [some (.inr (.inr (.inl 1))), some (.inl (ck_one 24)), some (.inl (ck_one 1)), some (.inl (ck_one 0)), some (.inl (1, 3, none))], ([], [], [(222, 3, 3, ck_one 24), (223, 0, 179, ck_one 0), (1, 15, 15, ck_one 1), (220, 3, 3, ck_one 0), (222, 1, 1, ck_one 6), (222, 0, 0, ck_one 30), (220, 0, 0, ck_one 24), (10, 3, 3, ck_one 0), (3, 0, 0, ck_one 3)]), 100, .inl 4, true)] 158 p34x_849 = true := by decide +kernel
theorem p34x_849_s {X : Int → Int} {LX : Nat} : ck_Ok p1_O X LX 218 p34x_849 := ck_ok_s (ck_E1 (ck_S1 p34x_824_s ck_S0) (ck_E1 (ck_S1 p34x_148_s ck_S0) (ck_E1 (ck_S1 p34x_826_s ck_S0) (ck_E1 (ck_S1 p34x_847_s (ck_S1 p34x_848_s ck_S0)) ck_E0)))) ck_X0 ck_l0 p34x_849_e
set_option maxRecDepth 100000 in
def p34x_850 : ck_Sum := ((4, 0, 0), 245, [.inr (.inr (.inl 1)), .inl (ck_one 24), .inl (ck_one 1), .inr (.inr (.inl 245))], ([], [], [(222, 1, 1, ck_one 6), (222, 0, 0, ck_one 30), (222, 3, 3, ck_one 0), (1, 15, 15, ck_one 0), (220, 0, 0, ck_one 24), (220, 3, 3, ck_one 0), (10, 3, 3, ck_one 0), (3, 0, 0, ck_one 3), (223, 0, 179, ck_one 0)]), ([(1, 15, 15), (220, 3, 3), (221, 0, 47), (222, 3, 3), (223, 0, 179), (245, 0, 0)], []), [(.inr (some (.inl (ck_one 0))), 245, ([], [], [(245, 0, 0, ck_one 0), (222, 3, 3, ck_one 24), (1, 15, 15, ck_one 1), (220, 3, 3, ck_one 0), (223, 0, 179, ck_one 0)]))])
set_option maxRecDepth 100000 in
theorem p34x_850_e : ck_ok p1_O none [] [(218, [p34x_849])] 217 [] 92 p34x_850 = true := by decide +kernel
theorem p34x_850_s {X : Int → Int} {LX : Nat} : ck_Ok p1_O X LX 217 p34x_850 := ck_ok_s (ck_E1 (ck_S1 p34x_849_s ck_S0) ck_E0) ck_X0 ck_l0 p34x_850_e
set_option maxRecDepth 100000 in
def p34x_856 : ck_Sum := ((3, 0, 0), 245, [.inr (.inr (.inl 1)), .inl (ck_one 24), .inl (ck_one 0)], ([], [], [(222, 1, 1, ck_one 6), (222, 0, 0, ck_one 30), (222, 3, 3, ck_one 0), (1, 15, 15, ck_one 0), (220, 0, 0, ck_one 24), (220, 3, 3, ck_one 0), (10, 3, 3, ck_one 0), (3, 0, 0, ck_one 3), (223, 0, 179, ck_one 0)]), ([(1, 15, 15), (220, 3, 3), (221, 0, 47), (222, 3, 3), (223, 0, 179)], []), [(.inr (some (.inl (ck_one 0))), 245, ([], [], [(222, 3, 3, ck_one 24), (1, 15, 15, ck_one 1), (220, 3, 3, ck_one 0), (223, 0, 179, ck_one 0)]))])
set_option maxRecDepth 100000 in
theorem p34x_856_e : ck_ok p1_O none [] [(214, [p34x_824]), (24, [p34x_148]), (215, [p34x_826]), (219, [p34x_848, p34x_847])] 218 [(19, [some (.inr (.inr (.inl 1))), some (.inl (ck_one 24)), some (.inl (ck_one 0)), some (.inl (ck_one 0)), some (.inl (1, 3, none))], ([], [], [(222, 3, 3, ck_one 24), (223, 0, 179, ck_one 0), (1, 15, 15, ck_one 1), (220, 3, 3, ck_one 0), (222, 1, 1, ck_one 6), (222, 0, 0, ck_one 30), (220, 0, 0, ck_one 24), (10, 3, 3, ck_one 0), (3, 0, 0, ck_one 3)]), 100, .inl 4, true)] 158 p34x_856 = true := by decide +kernel
theorem p34x_856_s {X : Int → Int} {LX : Nat} : ck_Ok p1_O X LX 218 p34x_856 := ck_ok_s (ck_E1 (ck_S1 p34x_824_s ck_S0) (ck_E1 (ck_S1 p34x_148_s ck_S0) (ck_E1 (ck_S1 p34x_826_s ck_S0) (ck_E1 (ck_S1 p34x_848_s (ck_S1 p34x_847_s ck_S0)) ck_E0)))) ck_X0 ck_l0 p34x_856_e
set_option maxRecDepth 100000 in
def p34x_857 : ck_Sum := ((4, 0, 0), 245, [.inr (.inr (.inl 1)), .inl (ck_one 24), .inl (ck_one 0), .inr (.inr (.inl 245))], ([], [], [(222, 1, 1, ck_one 6), (222, 0, 0, ck_one 30), (222, 3, 3, ck_one 0), (1, 15, 15, ck_one 0), (220, 0, 0, ck_one 24), (220, 3, 3, ck_one 0), (10, 3, 3, ck_one 0), (3, 0, 0, ck_one 3), (223, 0, 179, ck_one 0)]), ([(1, 15, 15), (220, 3, 3), (221, 0, 47), (222, 3, 3), (223, 0, 179), (245, 0, 0)], []), [(.inr (some (.inl (ck_one 0))), 245, ([], [], [(245, 0, 0, ck_one 0), (222, 3, 3, ck_one 24), (1, 15, 15, ck_one 1), (220, 3, 3, ck_one 0), (223, 0, 179, ck_one 0)]))])
set_option maxRecDepth 100000 in
theorem p34x_857_e : ck_ok p1_O none [] [(218, [p34x_856])] 217 [] 92 p34x_857 = true := by decide +kernel
theorem p34x_857_s {X : Int → Int} {LX : Nat} : ck_Ok p1_O X LX 217 p34x_857 := ck_ok_s (ck_E1 (ck_S1 p34x_856_s ck_S0) ck_E0) ck_X0 ck_l0 p34x_857_e
set_option maxRecDepth 100000 in
def p34x_859 : ck_Sum := ((0, 0, 0), 245, [.inr (.inr (.inl 1)), .inl (ck_one 25)], ([], [], []), ([], []), [(.inr none, 245, ([], [], []))])
set_option maxRecDepth 100000 in
theorem p34x_859_e : ck_ok p1_O none [] [] 214 [] 84 p34x_859 = true := by decide +kernel
theorem p34x_859_s {X : Int → Int} {LX : Nat} : ck_Ok p1_O X LX 214 p34x_859 := ck_ok_s (ck_E0) ck_X0 ck_l0 p34x_859_e
set_option maxRecDepth 100000 in
def p34x_860 : ck_Sum := ((1, 0, 0), 245, [.inr (.inr (.inl 222)), .inl (ck_one 25)], ([], [], [(222, 0, 0, ck_one 30), (223, 0, 179, ck_one 0)]), ([(222, 3, 3), (223, 0, 179)], []), [(.inr none, 245, ([], [], [(222, 3, 3, ck_one 25), (223, 0, 179, ck_one 0)]))])
set_option maxRecDepth 100000 in
theorem p34x_860_e : ck_ok p1_O none [] [(8, [p34x_149])] 25 [] 96 p34x_860 = true := by decide +kernel
theorem p34x_860_s {X : Int → Int} {LX : Nat} : ck_Ok p1_O X LX 25 p34x_860 := ck_ok_s (ck_E1 (ck_S1 p34x_149_s ck_S0) ck_E0) ck_X0 ck_l0 p34x_860_e
set_option maxRecDepth 100000 in
def p34x_861 : ck_Sum := ((2, 0, 0), 245, [.inr (.inr (.inl 1)), .inl (ck_one 25)], ([], [], [(220, 3, 3, ck_one 0), (222, 0, 0, ck_one 30), (222, 3, 3, ck_one 0), (223, 0, 179, ck_one 0)]), ([(222, 3, 3), (223, 0, 179)], []), [(.inr none, 245, ([], [], [(222, 3, 3, ck_one 25), (223, 0, 179, ck_one 0)]))])
set_option maxRecDepth 100000 in
theorem p34x_861_e : ck_ok p1_O none [] [(25, [p34x_860]), (9, [p34x_147])] 215 [(10, [some (.inr (.inr (.inl 1))), some (.inl (ck_one 25)), some (.inl (ck_one 0)), none, none], ([], [], [(222, 3, 3, ck_one 25), (223, 0, 179, ck_one 0), (220, 3, 3, ck_one 0), (222, 0, 0, ck_one 30)]), 100, .inl 2, true)] 118 p34x_861 = true := by decide +kernel
theorem p34x_861_s {X : Int → Int} {LX : Nat} : ck_Ok p1_O X LX 215 p34x_861 := ck_ok_s (ck_E1 (ck_S1 p34x_860_s ck_S0) (ck_E1 (ck_S1 p34x_147_s ck_S0) ck_E0)) ck_X0 ck_l0 p34x_861_e
set_option maxRecDepth 100000 in
def p34x_881 : ck_Sum := ((0, 0, 0), 245, [.inr (.inr (.inl 222)), .inl (0, 24, none), .inl (0, 2, none)], ([], [], [(222, 3, 3, ck_one 25), (223, 0, 179, ck_one 0), (222, 1, 1, ck_one 6)]), ([], []), [(.inr (some (.inl (ck_one 0))), 245, ([], [], []))])
set_option maxRecDepth 100000 in
theorem p34x_881_e : ck_ok p1_O none [] [] 10 [] 114 p34x_881 = true := by decide +kernel
theorem p34x_881_s {X : Int → Int} {LX : Nat} : ck_Ok p1_O X LX 10 p34x_881 := ck_ok_s (ck_E0) ck_X0 ck_l0 p34x_881_e
set_option maxRecDepth 100000 in
def p34x_883 : ck_Sum := ((1, 0, 0), 245, [.inr (.inr (.inl 1)), .inl (ck_one 0), .inl (ck_one 25)], ([], [], [(222, 3, 3, ck_one 25), (223, 0, 179, ck_one 0), (222, 1, 1, ck_one 6), (3, 0, 0, ck_one 3)]), ([], []), [(.inr (some (.inl (ck_one 0))), 245, ([], [], []))])
set_option maxRecDepth 100000 in
theorem p34x_883_e : ck_ok p1_O none [] [(10, [p34x_881])] 219 [(5, [some (.inr (.inr (.inl 1))), some (.inl (ck_one 0)), some (.inl (ck_one 25)), some (.inl (ck_one 0)), some (.inl (0, 3, none)), none, none], ([], [], [(222, 3, 3, ck_one 25), (223, 0, 179, ck_one 0), (222, 1, 1, ck_one 6), (3, 0, 0, ck_one 3)]), 100, .inl 4, true), (23, [some (.inr (.inr (.inl 1))), some (.inl (ck_one 0)), some (.inl (ck_one 25)), some (.inl (ck_one 0)), some (.inl (0, 2, some (100, 0))), some (.inl (ck_one 0)), some (.inl (0, 25, none))], ([], [], [(222, 3, 3, ck_one 25), (223, 0, 179, ck_one 0), (222, 1, 1, ck_one 6), (3, 0, 0, ck_one 3)]), 300, .inl 6, true)] 194 p34x_883 = true := by decide +kernel
theorem p34x_883_s {X : Int → Int} {LX : Nat} : ck_Ok p1_O X LX 219 p34x_883 := ck_ok_s (ck_E1 (ck_S1 p34x_881_s ck_S0) ck_E0) ck_X0 ck_l0 p34x_883_e
set_option maxRecDepth 100000 in
def p34x_884 : ck_Sum := ((1, 0, 0), 245, [.inr (.inr (.inl 1)), .inl (1, 2, none), .inl (ck_one 25)], ([], [], [(222, 3, 3, ck_one 25), (223, 0, 179, ck_one 0), (222, 1, 1, ck_one 6), (3, 0, 0, ck_one 3)]), ([], []), [(.inr (some (.inl (ck_one 0))), 245, ([], [], []))])
set_option maxRecDepth 100000 in
theorem p34x_884_e : ck_ok p1_O none [] [(10, [p34x_881])] 219 [(5, [some (.inr (.inr (.inl 1))), some (.inl (1, 2, none)), some (.inl (ck_one 25)), some (.inl (ck_one 0)), some (.inl (0, 3, none)), none, none], ([], [], [(222, 3, 3, ck_one 25), (223, 0, 179, ck_one 0), (222, 1, 1, ck_one 6), (3, 0, 0, ck_one 3)]), 100, .inl 4, true), (23, [some (.inr (.inr (.inl 1))), some (.inl (1, 2, none)), some (.inl (ck_one 25)), some (.inl (ck_one 0)), some (.inl (0, 2, some (100, 0))), some (.inl (ck_one 0)), some (.inl (0, 25, none))], ([], [], [(222, 3, 3, ck_one 25), (223, 0, 179, ck_one 0), (222, 1, 1, ck_one 6), (3, 0, 0, ck_one 3)]), 300, .inl 6, true)] 194 p34x_884 = true := by decide +kernel
theorem p34x_884_s {X : Int → Int} {LX : Nat} : ck_Ok p1_O X LX 219 p34x_884 := ck_ok_s (ck_E1 (ck_S1 p34x_881_s ck_S0) ck_E0) ck_X0 ck_l0 p34x_884_e
set_option maxRecDepth 100000 in
def p34x_885 : ck_Sum := ((3, 0, 0), 245, [.inr (.inr (.inl 1)), .inl (ck_one 25), .inl (ck_one 1)], ([], [], [(222, 1, 1, ck_one 6), (222, 0, 0, ck_one 30), (222, 3, 3, ck_one 0), (1, 15, 15, ck_one 0), (220, 0, 0, ck_one 24), (220, 3, 3, ck_one 0), (10, 3, 3, ck_one 0), (3, 0, 0, ck_one 3), (223, 0, 179, ck_one 0)]), ([(1, 15, 15), (220, 3, 3), (221, 0, 47), (222, 3, 3), (223, 0, 179)], []), [(.inr (some (.inl (ck_one 0))), 245, ([], [], [(222, 3, 3, ck_one 25), (1, 15, 15, ck_one 1), (220, 3, 3, ck_one 0), (223, 0, 179, ck_one 0)]))])
set_option maxRecDepth 100000 in
theorem p34x_885_e : ck_ok p1_O none [] [(214, [p34x_859]), (24, [p34x_148]), (215, [p34x_861]), (219, [p34x_883, p34x_884])] 218 [(19, [some (.inr (.inr (.inl 1))), some (.inl (ck_one 25)), some (.inl (ck_one 1)), some (.inl (ck_one 0)), some (.inl (1, 3, none))], ([], [], [(222, 3, 3, ck_one 25), (223, 0, 179, ck_one 0), (1, 15, 15, ck_one 1), (220, 3, 3, ck_one 0), (222, 1, 1, ck_one 6), (222, 0, 0, ck_one 30), (220, 0, 0, ck_one 24), (10, 3, 3, ck_one 0), (3, 0, 0, ck_one 3)]), 100, .inl 4, true)] 158 p34x_885 = true := by decide +kernel
theorem p34x_885_s {X : Int → Int} {LX : Nat} : ck_Ok p1_O X LX 218 p34x_885 := ck_ok_s (ck_E1 (ck_S1 p34x_859_s ck_S0) (ck_E1 (ck_S1 p34x_148_s ck_S0) (ck_E1 (ck_S1 p34x_861_s ck_S0) (ck_E1 (ck_S1 p34x_883_s (ck_S1 p34x_884_s ck_S0)) ck_E0)))) ck_X0 ck_l0 p34x_885_e
set_option maxRecDepth 100000 in
def p34x_886 : ck_Sum := ((4, 0, 0), 245, [.inr (.inr (.inl 1)), .inl (ck_one 25), .inl (ck_one 1), .inr (.inr (.inl 245))], ([], [], [(222, 1, 1, ck_one 6), (222, 0, 0, ck_one 30), (222, 3, 3, ck_one 0), (1, 15, 15, ck_one 0), (220, 0, 0, ck_one 24), (220, 3, 3, ck_one 0), (10, 3, 3, ck_one 0), (3, 0, 0, ck_one 3), (223, 0, 179, ck_one 0)]), ([(1, 15, 15), (220, 3, 3), (221, 0, 47), (222, 3, 3), (223, 0, 179), (245, 0, 0)], []), [(.inr (some (.inl (ck_one 0))), 245, ([], [], [(245, 0, 0, ck_one 0), (222, 3, 3, ck_one 25), (1, 15, 15, ck_one 1), (220, 3, 3, ck_one 0), (223, 0, 179, ck_one 0)]))])
set_option maxRecDepth 100000 in
theorem p34x_886_e : ck_ok p1_O none [] [(218, [p34x_885])] 217 [] 92 p34x_886 = true := by decide +kernel
theorem p34x_886_s {X : Int → Int} {LX : Nat} : ck_Ok p1_O X LX 217 p34x_886 := ck_ok_s (ck_E1 (ck_S1 p34x_885_s ck_S0) ck_E0) ck_X0 ck_l0 p34x_886_e
set_option maxRecDepth 100000 in
def p34x_892 : ck_Sum := ((3, 0, 0), 245, [.inr (.inr (.inl 1)), .inl (ck_one 25), .inl (ck_one 0)], ([], [], [(222, 1, 1, ck_one 6), (222, 0, 0, ck_one 30), (222, 3, 3, ck_one 0), (1, 15, 15, ck_one 0), (220, 0, 0, ck_one 24), (220, 3, 3, ck_one 0), (10, 3, 3, ck_one 0), (3, 0, 0, ck_one 3), (223, 0, 179, ck_one 0)]), ([(1, 15, 15), (220, 3, 3), (221, 0, 47), (222, 3, 3), (223, 0, 179)], []), [(.inr (some (.inl (ck_one 0))), 245, ([], [], [(222, 3, 3, ck_one 25), (1, 15, 15, ck_one 1), (220, 3, 3, ck_one 0), (223, 0, 179, ck_one 0)]))])
set_option maxRecDepth 100000 in
theorem p34x_892_e : ck_ok p1_O none [] [(214, [p34x_859]), (24, [p34x_148]), (215, [p34x_861]), (219, [p34x_884, p34x_883])] 218 [(19, [some (.inr (.inr (.inl 1))), some (.inl (ck_one 25)), some (.inl (ck_one 0)), some (.inl (ck_one 0)), some (.inl (1, 3, none))], ([], [], [(222, 3, 3, ck_one 25), (223, 0, 179, ck_one 0), (1, 15, 15, ck_one 1), (220, 3, 3, ck_one 0), (222, 1, 1, ck_one 6), (222, 0, 0, ck_one 30), (220, 0, 0, ck_one 24), (10, 3, 3, ck_one 0), (3, 0, 0, ck_one 3)]), 100, .inl 4, true)] 158 p34x_892 = true := by decide +kernel
theorem p34x_892_s {X : Int → Int} {LX : Nat} : ck_Ok p1_O X LX 218 p34x_892 := ck_ok_s (ck_E1 (ck_S1 p34x_859_s ck_S0) (ck_E1 (ck_S1 p34x_148_s ck_S0) (ck_E1 (ck_S1 p34x_861_s ck_S0) (ck_E1 (ck_S1 p34x_884_s (ck_S1 p34x_883_s ck_S0)) ck_E0)))) ck_X0 ck_l0 p34x_892_e
set_option maxRecDepth 100000 in
def p34x_893 : ck_Sum := ((4, 0, 0), 245, [.inr (.inr (.inl 1)), .inl (ck_one 25), .inl (ck_one 0), .inr (.inr (.inl 245))], ([], [], [(222, 1, 1, ck_one 6), (222, 0, 0, ck_one 30), (222, 3, 3, ck_one 0), (1, 15, 15, ck_one 0), (220, 0, 0, ck_one 24), (220, 3, 3, ck_one 0), (10, 3, 3, ck_one 0), (3, 0, 0, ck_one 3), (223, 0, 179, ck_one 0)]), ([(1, 15, 15), (220, 3, 3), (221, 0, 47), (222, 3, 3), (223, 0, 179), (245, 0, 0)], []), [(.inr (some (.inl (ck_one 0))), 245, ([], [], [(245, 0, 0, ck_one 0), (222, 3, 3, ck_one 25), (1, 15, 15, ck_one 1), (220, 3, 3, ck_one 0), (223, 0, 179, ck_one 0)]))])
set_option maxRecDepth 100000 in
theorem p34x_893_e : ck_ok p1_O none [] [(218, [p34x_892])] 217 [] 92 p34x_893 = true := by decide +kernel
theorem p34x_893_s {X : Int → Int} {LX : Nat} : ck_Ok p1_O X LX 217 p34x_893 := ck_ok_s (ck_E1 (ck_S1 p34x_892_s ck_S0) ck_E0) ck_X0 ck_l0 p34x_893_e
set_option maxRecDepth 100000 in
def p34x_895 : ck_Sum := ((0, 0, 0), 245, [.inr (.inr (.inl 1)), .inl (ck_one 26)], ([], [], []), ([], []), [(.inr none, 245, ([], [], []))])
set_option maxRecDepth 100000 in
theorem p34x_895_e : ck_ok p1_O none [] [] 214 [] 84 p34x_895 = true := by decide +kernel
theorem p34x_895_s {X : Int → Int} {LX : Nat} : ck_Ok p1_O X LX 214 p34x_895 := ck_ok_s (ck_E0) ck_X0 ck_l0 p34x_895_e
set_option maxRecDepth 100000 in
def p34x_896 : ck_Sum := ((1, 0, 0), 245, [.inr (.inr (.inl 222)), .inl (ck_one 26)], ([], [], [(222, 0, 0, ck_one 30), (223, 0, 179, ck_one 0)]), ([(222, 3, 3), (223, 0, 179)], []), [(.inr none, 245, ([], [], [(222, 3, 3, ck_one 26), (223, 0, 179, ck_one 0)]))])
set_option maxRecDepth 100000 in
theorem p34x_896_e : ck_ok p1_O none [] [(8, [p34x_149])] 25 [] 96 p34x_896 = true := by decide +kernel
theorem p34x_896_s {X : Int → Int} {LX : Nat} : ck_Ok p1_O X LX 25 p34x_896 := ck_ok_s (ck_E1 (ck_S1 p34x_149_s ck_S0) ck_E0) ck_X0 ck_l0 p34x_896_e
set_option maxRecDepth 100000 in
def p34x_897 : ck_Sum := ((2, 0, 0), 245, [.inr (.inr (.inl 1)), .inl (ck_one 26)], ([], [], [(220, 3, 3, ck_one 0), (222, 0, 0, ck_one 30), (222, 3, 3, ck_one 0), (223, 0, 179, ck_one 0)]), ([(222, 3, 3), (223, 0, 179)], []), [(.inr none, 245, ([], [], [(222, 3, 3, ck_one 26), (223, 0, 179, ck_one 0)]))])
set_option maxRecDepth 100000 in
theorem p34x_897_e : ck_ok p1_O none [] [(25, [p34x_896]), (9, [p34x_147])] 215 [(10, [some (.inr (.inr (.inl 1))), some (.inl (ck_one 26)), some (.inl (ck_one 0)), none, none], ([], [], [(222, 3, 3, ck_one 26), (223, 0, 179, ck_one 0), (220, 3, 3, ck_one 0), (222, 0, 0, ck_one 30)]), 100, .inl 2, true)] 118 p34x_897 = true := by decide +kernel
theorem p34x_897_s {X : Int → Int} {LX : Nat} : ck_Ok p1_O X LX 215 p34x_897 := ck_ok_s (ck_E1 (ck_S1 p34x_896_s ck_S0) (ck_E1 (ck_S1 p34x_147_s ck_S0) ck_E0)) ck_X0 ck_l0 p34x_897_e
set_option maxRecDepth 100000 in
def p34x_918 : ck_Sum := ((0, 0, 0), 245, [.inr (.inr (.inl 222)), .inl (0, 25, none), .inl (0, 2, none)], ([], [], [(222, 3, 3, ck_one 26), (223, 0, 179, ck_one 0), (222, 1, 1, ck_one 6)]), ([], []), [(.inr (some (.inl (ck_one 0))), 245, ([], [], []))])
set_option maxRecDepth 100000 in
theorem p34x_918_e : ck_ok p1_O none [] [] 10 [] 114 p34x_918 = true := by decide +kernel
theorem p34x_918_s {X : Int → Int} {LX : Nat} : ck_Ok p1_O X LX 10 p34x_918 := ck_ok_s (ck_E0) ck_X0 ck_l0 p34x_918_e
set_option maxRecDepth 100000 in
def p34x_920 : ck_Sum := ((1, 0, 0), 245, [.inr (.inr (.inl 1)), .inl (ck_one 0), .inl (ck_one 26)], ([], [], [(222, 3, 3, ck_one 26), (223, 0, 179, ck_one 0), (222, 1, 1, ck_one 6), (3, 0, 0, ck_one 3)]), ([], []), [(.inr (some (.inl (ck_one 0))), 245, ([], [], []))])
set_option maxRecDepth 100000 in
theorem p34x_920_e : ck_ok p1_O none [] [(10, [p34x_918])] 219 [(5, [some (.inr (.inr (.inl 1))), some (.inl (ck_one 0)), some (.inl (ck_one 26)), some (.inl (ck_one 0)), some (.inl (0, 3, none)), none, none], ([], [], [(222, 3, 3, ck_one 26), (223, 0, 179, ck_one 0), (222, 1, 1, ck_one 6), (3, 0, 0, ck_one 3)]), 100, .inl 4, true), (23, [some (.inr (.inr (.inl 1))), some (.inl (ck_one 0)), some (.inl (ck_one 26)), some (.inl (ck_one 0)), some (.inl (0, 2, some (100, 0))), some (.inl (ck_one 0)), some (.inl (0, 26, none))], ([], [], [(222, 3, 3, ck_one 26), (223, 0, 179, ck_one 0), (222, 1, 1, ck_one 6), (3, 0, 0, ck_one 3)]), 300, .inl 6, true)] 194 p34x_920 = true := by decide +kernel
theorem p34x_920_s {X : Int → Int} {LX : Nat} : ck_Ok p1_O X LX 219 p34x_920 := ck_ok_s (ck_E1 (ck_S1 p34x_918_s ck_S0) ck_E0) ck_X0 ck_l0 p34x_920_e
set_option maxRecDepth 100000 in
def p34x_921 : ck_Sum := ((1, 0, 0), 245, [.inr (.inr (.inl 1)), .inl (1, 2, none), .inl (ck_one 26)], ([], [], [(222, 3, 3, ck_one 26), (223, 0, 179, ck_one 0), (222, 1, 1, ck_one 6), (3, 0, 0, ck_one 3)]), ([], []), [(.inr (some (.inl (ck_one 0))), 245, ([], [], []))])
set_option maxRecDepth 100000 in
theorem p34x_921_e : ck_ok p1_O none [] [(10, [p34x_918])] 219 [(5, [some (.inr (.inr (.inl 1))), some (.inl (1, 2, none)), some (.inl (ck_one 26)), some (.inl (ck_one 0)), some (.inl (0, 3, none)), none, none], ([], [], [(222, 3, 3, ck_one 26), (223, 0, 179, ck_one 0), (222, 1, 1, ck_one 6), (3, 0, 0, ck_one 3)]), 100, .inl 4, true), (23, [some (.inr (.inr (.inl 1))), some (.inl (1, 2, none)), some (.inl (ck_one 26)), some (.inl (ck_one 0)), some (.inl (0, 2, some (100, 0))), some (.inl (ck_one 0)), some (.inl (0, 26, none))], ([], [], [(222, 3, 3, ck_one 26), (223, 0, 179, ck_one 0), (222, 1, 1, ck_one 6), (3, 0, 0, ck_one 3)]), 300, .inl 6, true)] 194 p34x_921 = true := by decide +kernel
theorem p34x_921_s {X : Int → Int} {LX : Nat} : ck_Ok p1_O X LX 219 p34x_921 := ck_ok_s (ck_E1 (ck_S1 p34x_918_s ck_S0) ck_E0) ck_X0 ck_l0 p34x_921_e
set_option maxRecDepth 100000 in
def p34x_922 : ck_Sum := ((3, 0, 0), 245, [.inr (.inr (.inl 1)), .inl (ck_one 26), .inl (ck_one 1)], ([], [], [(222, 1, 1, ck_one 6), (222, 0, 0, ck_one 30), (222, 3, 3, ck_one 0), (1, 15, 15, ck_one 0), (220, 0, 0, ck_one 24), (220, 3, 3, ck_one 0), (10, 3, 3, ck_one 0), (3, 0, 0, ck_one 3), (223, 0, 179, ck_one 0)]), ([(1, 15, 15), (220, 3, 3), (221, 0, 47), (222, 3, 3), (223, 0, 179)], []), [(.inr (some (.inl (ck_one 0))), 245, ([], [], [(222, 3, 3, ck_one 26), (1, 15, 15, ck_one 1), (220, 3, 3, ck_one 0), (223, 0, 179, ck_one 0)]))])
set_option maxRecDepth 100000 in
theorem p34x_922_e : ck_ok p1_O none [] [(214, [p34x_895]), (24, [p34x_148]), (215, [p34x_897]), (219, [p34x_920, p34x_921])] 218 [(19, [some (.inr (.inr (.inl 1))), some (.inl (ck_one 26)), some (.inl (ck_one 1)), some (.inl (ck_one 0)), some (.inl (1, 3, none))], ([], [], [(222, 3, 3, ck_one 26), (223, 0, 179, ck_one 0), (1, 15, 15, ck_one 1), (220, 3, 3, ck_one 0), (222, 1, 1, ck_one 6), (222, 0, 0, ck_one 30), (220, 0, 0, ck_one 24), (10, 3, 3, ck_one 0), (3, 0, 0, ck_one 3)]), 100, .inl 4, true)] 158 p34x_922 = true := by decide +kernel
theorem p34x_922_s {X : Int → Int} {LX : Nat} : ck_Ok p1_O X LX 218 p34x_922 := ck_ok_s (ck_E1 (ck_S1 p34x_895_s ck_S0) (ck_E1 (ck_S1 p34x_148_s ck_S0) (ck_E1 (ck_S1 p34x_897_s ck_S0) (ck_E1 (ck_S1 p34x_920_s (ck_S1 p34x_921_s ck_S0)) ck_E0)))) ck_X0 ck_l0 p34x_922_e
set_option maxRecDepth 100000 in
def p34x_923 : ck_Sum := ((4, 0, 0), 245, [.inr (.inr (.inl 1)), .inl (ck_one 26), .inl (ck_one 1), .inr (.inr (.inl 245))], ([], [], [(222, 1, 1, ck_one 6), (222, 0, 0, ck_one 30), (222, 3, 3, ck_one 0), (1, 15, 15, ck_one 0), (220, 0, 0, ck_one 24), (220, 3, 3, ck_one 0), (10, 3, 3, ck_one 0), (3, 0, 0, ck_one 3), (223, 0, 179, ck_one 0)]), ([(1, 15, 15), (220, 3, 3), (221, 0, 47), (222, 3, 3), (223, 0, 179), (245, 0, 0)], []), [(.inr (some (.inl (ck_one 0))), 245, ([], [], [(245, 0, 0, ck_one 0), (222, 3, 3, ck_one 26), (1, 15, 15, ck_one 1), (220, 3, 3, ck_one 0), (223, 0, 179, ck_one 0)]))])
set_option maxRecDepth 100000 in
theorem p34x_923_e : ck_ok p1_O none [] [(218, [p34x_922])] 217 [] 92 p34x_923 = true := by decide +kernel
theorem p34x_923_s {X : Int → Int} {LX : Nat} : ck_Ok p1_O X LX 217 p34x_923 := ck_ok_s (ck_E1 (ck_S1 p34x_922_s ck_S0) ck_E0) ck_X0 ck_l0 p34x_923_e
set_option maxRecDepth 100000 in
def p34x_929 : ck_Sum := ((3, 0, 0), 245, [.inr (.inr (.inl 1)), .inl (ck_one 26), .inl (ck_one 0)], ([], [], [(222, 1, 1, ck_one 6), (222, 0, 0, ck_one 30), (222, 3, 3, ck_one 0), (1, 15, 15, ck_one 0), (220, 0, 0, ck_one 24), (220, 3, 3, ck_one 0), (10, 3, 3, ck_one 0), (3, 0, 0, ck_one 3), (223, 0, 179, ck_one 0)]), ([(1, 15, 15), (220, 3, 3), (221, 0, 47), (222, 3, 3), (223, 0, 179)], []), [(.inr (some (.inl (ck_one 0))), 245, ([], [], [(222, 3, 3, ck_one 26), (1, 15, 15, ck_one 1), (220, 3, 3, ck_one 0), (223, 0, 179, ck_one 0)]))])
set_option maxRecDepth 100000 in
theorem p34x_929_e : ck_ok p1_O none [] [(214, [p34x_895]), (24, [p34x_148]), (215, [p34x_897]), (219, [p34x_921, p34x_920])] 218 [(19, [some (.inr (.inr (.inl 1))), some (.inl (ck_one 26)), some (.inl (ck_one 0)), some (.inl (ck_one 0)), some (.inl (1, 3, none))], ([], [], [(222, 3, 3, ck_one 26), (223, 0, 179, ck_one 0), (1, 15, 15, ck_one 1), (220, 3, 3, ck_one 0), (222, 1, 1, ck_one 6), (222, 0, 0, ck_one 30), (220, 0, 0, ck_one 24), (10, 3, 3, ck_one 0), (3, 0, 0, ck_one 3)]), 100, .inl 4, true)] 158 p34x_929 = true := by decide +kernel
theorem p34x_929_s {X : Int → Int} {LX : Nat} : ck_Ok p1_O X LX 218 p34x_929 := ck_ok_s (ck_E1 (ck_S1 p34x_895_s ck_S0) (ck_E1 (ck_S1 p34x_148_s ck_S0) (ck_E1 (ck_S1 p34x_897_s ck_S0) (ck_E1 (ck_S1 p34x_921_s (ck_S1 p34x_920_s ck_S0)) ck_E0)))) ck_X0 ck_l0 p34x_929_e
set_option maxRecDepth 100000 in
def p34x_930 : ck_Sum := ((4, 0, 0), 245, [.inr (.inr (.inl 1)), .inl (ck_one 26), .inl (ck_one 0), .inr (.inr (.inl 245))], ([], [], [(222, 1, 1, ck_one 6), (222, 0, 0, ck_one 30), (222, 3, 3, ck_one 0), (1, 15, 15, ck_one 0), (220, 0, 0, ck_one 24), (220, 3, 3, ck_one 0), (10, 3, 3, ck_one 0), (3, 0, 0, ck_one 3), (223, 0, 179, ck_one 0)]), ([(1, 15, 15), (220, 3, 3), (221, 0, 47), (222, 3, 3), (223, 0, 179), (245, 0, 0)], []), [(.inr (some (.inl (ck_one 0))), 245, ([], [], [(245, 0, 0, ck_one 0), (222, 3, 3, ck_one 26), (1, 15, 15, ck_one 1), (220, 3, 3, ck_one 0), (223, 0, 179, ck_one 0)]))])
set_option maxRecDepth 100000 in
theorem p34x_930_e : ck_ok p1_O none [] [(218, [p34x_929])] 217 [] 92 p34x_930 = true := by decide +kernel
theorem p34x_930_s {X : Int → Int} {LX : Nat} : ck_Ok p1_O X LX 217 p34x_930 := ck_ok_s (ck_E1 (ck_S1 p34x_929_s ck_S0) ck_E0) ck_X0 ck_l0 p34x_930_e
set_option maxRecDepth 100000 in
def p34x_932 : ck_Sum := ((0, 0, 0), 245, [.inr (.inr (.inl 1)), .inl (ck_one 27)], ([], [], []), ([], []), [(.inr none, 245, ([], [], []))])
set_option maxRecDepth 100000 in
theorem p34x_932_e : ck_ok p1_O none [] [] 214 [] 84 p34x_932 = true := by decide +kernel
theorem p34x_932_s {X : Int → Int} {LX : Nat} : ck_Ok p1_O X LX 214 p34x_932 := ck_ok_s (ck_E0) ck_X0 ck_l0 p34x_932_e
set_option maxRecDepth 100000 in
def p34x_933 : ck_Sum := ((1, 0, 0), 245, [.inr (.inr (.inl 222)), .inl (ck_one 27)], ([], [], [(222, 0, 0, ck_one 30), (223, 0, 179, ck_one 0)]), ([(222, 3, 3), (223, 0, 179)], []), [(.inr none, 245, ([], [], [(222, 3, 3, ck_one 27), (223, 0, 179, ck_one 0)]))])
set_option maxRecDepth 100000 in
theorem p34x_933_e : ck_ok p1_O none [] [(8, [p34x_149])] 25 [] 96 p34x_933 = true := by decide +kernel
theorem p34x_933_s {X : Int → Int} {LX : Nat} : ck_Ok p1_O X LX 25 p34x_933 := ck_ok_s (ck_E1 (ck_S1 p34x_149_s ck_S0) ck_E0) ck_X0 ck_l0 p34x_933_e
set_option maxRecDepth 100000 in
def p34x_934 : ck_Sum := ((2, 0, 0), 245, [.inr (.inr (.inl 1)), .inl (ck_one 27)], ([], [], [(220, 3, 3, ck_one 0), (222, 0, 0, ck_one 30), (222, 3, 3, ck_one 0), (223, 0, 179, ck_one 0)]), ([(222, 3, 3), (223, 0, 179)], []), [(.inr none, 245, ([], [], [(222, 3, 3, ck_one 27), (223, 0, 179, ck_one 0)]))])
set_option maxRecDepth 100000 in
theorem p34x_934_e : ck_ok p1_O none [] [(25, [p34x_933]), (9, [p34x_147])] 215 [(10, [some (.inr (.inr (.inl 1))), some (.inl (ck_one 27)), some (.inl (ck_one 0)), none, none], ([], [], [(222, 3, 3, ck_one 27), (223, 0, 179, ck_one 0), (220, 3, 3, ck_one 0), (222, 0, 0, ck_one 30)]), 100, .inl 2, true)] 118 p34x_934 = true := by decide +kernel
theorem p34x_934_s {X : Int → Int} {LX : Nat} : ck_Ok p1_O X LX 215 p34x_934 := ck_ok_s (ck_E1 (ck_S1 p34x_933_s ck_S0) (ck_E1 (ck_S1 p34x_147_s ck_S0) ck_E0)) ck_X0 ck_l0 p34x_934_e
set_option maxRecDepth 100000 in
def p34x_956 : ck_Sum := ((0, 0, 0), 245, [.inr (.inr (.inl 222)), .inl (0, 26, none), .inl (0, 2, none)], ([], [], [(222, 3, 3, ck_one 27), (223, 0, 179, ck_one 0), (222, 1, 1, ck_one 6)]), ([], []), [(.inr (some (.inl (ck_one 0))), 245, ([], [], []))])
set_option maxRecDepth 100000 in
theorem p34x_956_e : ck_ok p1_O none [] [] 10 [] 114 p34x_956 = true := by decide +kernel
theorem p34x_956_s {X : Int → Int} {LX : Nat} : ck_Ok p1_O X LX 10 p34x_956 := ck_ok_s (ck_E0) ck_X0 ck_l0 p34x_956_e
set_option maxRecDepth 100000 in
def p34x_958 : ck_Sum := ((1, 0, 0), 245, [.inr (.inr (.inl 1)), .inl (ck_one 0), .inl (ck_one 27)], ([], [], [(222, 3, 3, ck_one 27), (223, 0, 179, ck_one 0), (222, 1, 1, ck_one 6), (3, 0, 0, ck_one 3)]), ([], []), [(.inr (some (.inl (ck_one 0))), 245, ([], [], []))])
set_option maxRecDepth 100000 in
theorem p34x_958_e : ck_ok p1_O none [] [(10, [p34x_956])] 219 [(5, [some (.inr (.inr (.inl 1))), some (.inl (ck_one 0)), some (.inl (ck_one 27)), some (.inl (ck_one 0)), some (.inl (0, 3, none)), none, none], ([], [], [(222, 3, 3, ck_one 27), (223, 0, 179, ck_one 0), (222, 1, 1, ck_one 6), (3, 0, 0, ck_one 3)]), 100, .inl 4, true), (23, [some (.inr (.inr (.inl 1))), some (.inl (ck_one 0)), some (.inl (ck_one 27)), some (.inl (ck_one 0)), some (.inl (0, 2, some (100, 0))), some (.inl (ck_one 0)), some (.inl (0, 27, none))], ([], [], [(222, 3, 3, ck_one 27), (223, 0, 179, ck_one 0), (222, 1, 1, ck_one 6), (3, 0, 0, ck_one 3)]), 300, .inl 6, true)] 194 p34x_958 = true := by decide +kernel
theorem p34x_958_s {X : Int → Int} {LX : Nat} : ck_Ok p1_O X LX 219 p34x_958 := ck_ok_s (ck_E1 (ck_S1 p34x_956_s ck_S0) ck_E0) ck_X0 ck_l0 p34x_958_e
set_option maxRecDepth 100000 in
def p34x_959 : ck_Sum := ((1, 0, 0), 245, [.inr (.inr (.inl 1)), .inl (1, 2, none), .inl (ck_one 27)], ([], [], [(222, 3, 3, ck_one 27), (223, 0, 179, ck_one 0), (222, 1, 1, ck_one 6), (3, 0, 0, ck_one 3)]), ([], []), [(.inr (some (.inl (ck_one 0))), 245, ([], [], []))])
set_option maxRecDepth 100000 in
theorem p34x_959_e : ck_ok p1_O none [] [(10, [p34x_956])] 219 [(5, [some (.inr (.inr (.inl 1))), some (.inl (1, 2, none)), some (.inl (ck_one 27)), some (.inl (ck_one 0)), some (.inl (0, 3, none)), none, none], ([], [], [(222, 3, 3, ck_one 27), (223, 0, 179, ck_one 0), (222, 1, 1, ck_one 6), (3, 0, 0, ck_one 3)]), 100, .inl 4, true), (23, [some (.inr (.inr (.inl 1))), some (.inl (1, 2, none)), some (.inl (ck_one 27)), some (.inl (ck_one 0)), some (.inl (0, 2, some (100, 0))), some (.inl (ck_one 0)), some (.inl (0, 27, none))], ([], [], [(222, 3, 3, ck_one 27), (223, 0, 179, ck_one 0), (222, 1, 1, ck_one 6), (3, 0, 0, ck_one 3)]), 300, .inl 6, true)] 194 p34x_959 = true := by decide +kernel
theorem p34x_959_s {X : Int → Int} {LX : Nat} : ck_Ok p1_O X LX 219 p34x_959 := ck_ok_s (ck_E1 (ck_S1 p34x_956_s ck_S0) ck_E0) ck_X0 ck_l0 p34x_959_e
set_option maxRecDepth 100000 in
def p34x_960 : ck_Sum := ((3, 0, 0), 245, [.inr (.inr (.inl 1)), .inl (ck_one 27), .inl (ck_one 1)], ([], [], [(222, 1, 1, ck_one 6), (222, 0, 0, ck_one 30), (222, 3, 3, ck_one 0), (1, 15, 15, ck_one 0), (220, 0, 0, ck_one 24), (220, 3, 3, ck_one 0), (10, 3, 3, ck_one 0), (3, 0, 0, ck_one 3), (223, 0, 179, ck_one 0)]), ([(1, 15, 15), (220, 3, 3), (221, 0, 47), (222, 3, 3), (223, 0, 179)], []), [(.inr (some (.inl (ck_one 0))), 245, ([], [], [(222, 3, 3, ck_one 27), (1, 15, 15, ck_one 1), (220, 3, 3, ck_one 0), (223, 0, 179, ck_one 0)]))])
set_option maxRecDepth 100000 in
theorem p34x_960_e : ck_ok p1_O none [] [(214, [p34x_932]), (24, [p34x_148]), (215, [p34x_934]), (219, [p34x_958, p34x_959])] 218 [(19, [some (.inr (.inr (.inl 1))), some (.inl (ck_one 27)), some (.inl (ck_one 1)), some (.inl (ck_one 0)), some (.inl (1, 3, none))], ([], [], [(222, 3, 3, ck_one 27), (223, 0, 179, ck_one 0), (1, 15, 15, ck_one 1), (220, 3, 3, ck_one 0), (222, 1, 1, ck_one 6), (222, 0, 0, ck_one 30), (220, 0, 0, ck_one 24), (10, 3, 3, ck_one 0), (3, 0, 0, ck_one 3)]), 100, .inl 4, true)] 158 p34x_960 = true := by decide +kernel
theorem p34x_960_s {X : Int → Int} {LX : Nat} : ck_Ok p1_O X LX 218 p34x_960 := ck_ok_s (ck_E1 (ck_S1 p34x_932_s ck_S0) (ck_E1 (ck_S1 p34x_148_s ck_S0) (ck_E1 (ck_S1 p34x_934_s ck_S0) (ck_E1 (ck_S1 p34x_958_s (ck_S1 p34x_959_s ck_S0)) ck_E0)))) ck_X0 ck_l0 p34x_960_e
set_option maxRecDepth 100000 in
def p34x_961 : ck_Sum := ((4, 0, 0), 245, [.inr (.inr (.inl 1)), .inl (ck_one 27), .inl (ck_one 1), .inr (.inr (.inl 245))], ([], [], [(222, 1, 1, ck_one 6), (222, 0, 0, ck_one 30), (222, 3, 3, ck_one 0), (1, 15, 15, ck_one 0), (220, 0, 0, ck_one 24), (220, 3, 3, ck_one 0), (10, 3, 3, ck_one 0), (3, 0, 0, ck_one 3), (223, 0, 179, ck_one 0)]), ([(1, 15, 15), (220, 3, 3), (221, 0, 47), (222, 3, 3), (223, 0, 179), (245, 0, 0)], []), [(.inr (some (.inl (ck_one 0))), 245, ([], [], [(245, 0, 0, ck_one 0), (222, 3, 3, ck_one 27), (1, 15, 15, ck_one 1), (220, 3, 3, ck_one 0), (223, 0, 179, ck_one 0)]))])
set_option maxRecDepth 100000 in
theorem p34x_961_e : ck_ok p1_O none [] [(218, [p34x_960])] 217 [] 92 p34x_961 = true := by decide +kernel
theorem p34x_961_s {X : Int → Int} {LX : Nat} : ck_Ok p1_O X LX 217 p34x_961 := ck_ok_s (ck_E1 (ck_S1 p34x_960_s ck_S0) ck_E0) ck_X0 ck_l0 p34x_961_e
set_option maxRecDepth 100000 in
def p34x_967 : ck_Sum := ((3, 0, 0), 245, [.inr (.inr (.inl 1)), .inl (ck_one 27), .inl (ck_one 0)], ([], [], [(222, 1, 1, ck_one 6), (222, 0, 0, ck_one 30), (222, 3, 3, ck_one 0), (1, 15, 15, ck_one 0), (220, 0, 0, ck_one 24), (220, 3, 3, ck_one 0), (10, 3, 3, ck_one 0), (3, 0, 0, ck_one 3), (223, 0, 179, ck_one 0)]), ([(1, 15, 15), (220, 3, 3), (221, 0, 47), (222, 3, 3), (223, 0, 179)], []), [(.inr (some (.inl (ck_one 0))), 245, ([], [], [(222, 3, 3, ck_one 27), (1, 15, 15, ck_one 1), (220, 3, 3, ck_one 0), (223, 0, 179, ck_one 0)]))])
set_option maxRecDepth 100000 in
theorem p34x_967_e : ck_ok p1_O none [] [(214, [p34x_932]), (24, [p34x_148]), (215, [p34x_934]), (219, [p34x_959, p34x_958])] 218 [(19, [some (.inr (.inr (.inl 1))), some (.inl (ck_one 27)), some (.inl (ck_one 0)), some (.inl (ck_one 0)), some (.inl (1, 3, none))], ([], [], [(222, 3, 3, ck_one 27), (223, 0, 179, ck_one 0), (1, 15, 15, ck_one 1), (220, 3, 3, ck_one 0), (222, 1, 1, ck_one 6), (222, 0, 0, ck_one 30), (220, 0, 0, ck_one 24), (10, 3, 3, ck_one 0), (3, 0, 0, ck_one 3)]), 100, .inl 4, true)] 158 p34x_967 = true := by decide +kernel
theorem p34x_967_s {X : Int → Int} {LX : Nat} : ck_Ok p1_O X LX 218 p34x_967 := ck_ok_s (ck_E1 (ck_S1 p34x_932_s ck_S0) (ck_E1 (ck_S1 p34x_148_s ck_S0) (ck_E1 (ck_S1 p34x_934_s ck_S0) (ck_E1 (ck_S1 p34x_959_s (ck_S1 p34x_958_s ck_S0)) ck_E0)))) ck_X0 ck_l0 p34x_967_e
set_option maxRecDepth 100000 in
def p34x_968 : ck_Sum := ((4, 0, 0), 245, [.inr (.inr (.inl 1)), .inl (ck_one 27), .inl (ck_one 0), .inr (.inr (.inl 245))], ([], [], [(222, 1, 1, ck_one 6), (222, 0, 0, ck_one 30), (222, 3, 3, ck_one 0), (1, 15, 15, ck_one 0), (220, 0, 0, ck_one 24), (220, 3, 3, ck_one 0), (10, 3, 3, ck_one 0), (3, 0, 0, ck_one 3), (223, 0, 179, ck_one 0)]), ([(1, 15, 15), (220, 3, 3), (221, 0, 47), (222, 3, 3), (223, 0, 179), (245, 0, 0)], []), [(.inr (some (.inl (ck_one 0))), 245, ([], [], [(245, 0, 0, ck_one 0), (222, 3, 3, ck_one 27), (1, 15, 15, ck_one 1), (220, 3, 3, ck_one 0), (223, 0, 179, ck_one 0)]))])
set_option maxRecDepth 100000 in
theorem p34x_968_e : ck_ok p1_O none [] [(218, [p34x_967])] 217 [] 92 p34x_968 = true := by decide +kernel
theorem p34x_968_s {X : Int → Int} {LX : Nat} : ck_Ok p1_O X LX 217 p34x_968 := ck_ok_s (ck_E1 (ck_S1 p34x_967_s ck_S0) ck_E0) ck_X0 ck_l0 p34x_968_e
set_option maxRecDepth 100000 in
def p34x_970 : ck_Sum := ((0, 0, 0), 245, [.inr (.inr (.inl 1)), .inl (ck_one 28)], ([], [], []), ([], []), [(.inr none, 245, ([], [], []))])
set_option maxRecDepth 100000 in
theorem p34x_970_e : ck_ok p1_O none [] [] 214 [] 84 p34x_970 = true := by decide +kernel
theorem p34x_970_s {X : Int → Int} {LX : Nat} : ck_Ok p1_O X LX 214 p34x_970 := ck_ok_s (ck_E0) ck_X0 ck_l0 p34x_970_e
set_option maxRecDepth 100000 in
def p34x_971 : ck_Sum := ((1, 0, 0), 245, [.inr (.inr (.inl 222)), .inl (ck_one 28)], ([], [], [(222, 0, 0, ck_one 30), (223, 0, 179, ck_one 0)]), ([(222, 3, 3), (223, 0, 179)], []), [(.inr none, 245, ([], [], [(222, 3, 3, ck_one 28), (223, 0, 179, ck_one 0)]))])
set_option maxRecDepth 100000 in
theorem p34x_971_e : ck_ok p1_O none [] [(8, [p34x_149])] 25 [] 96 p34x_971 = true := by decide +kernel
theorem p34x_971_s {X : Int → Int} {LX : Nat} : ck_Ok p1_O X LX 25 p34x_971 := ck_ok_s (ck_E1 (ck_S1 p34x_149_s ck_S0) ck_E0) ck_X0 ck_l0 p34x_971_e
set_option maxRecDepth 100000 in
def p34x_972 : ck_Sum := ((2, 0, 0), 245, [.inr (.inr (.inl 1)), .inl (ck_one 28)], ([], [], [(220, 3, 3, ck_one 0), (222, 0, 0, ck_one 30), (222, 3, 3, ck_one 0), (223, 0, 179, ck_one 0)]), ([(222, 3, 3), (223, 0, 179)], []), [(.inr none, 245, ([], [], [(222, 3, 3, ck_one 28), (223, 0, 179, ck_one 0)]))])
set_option maxRecDepth 100000 in
theorem p34x_972_e : ck_ok p1_O none [] [(25, [p34x_971]), (9, [p34x_147])] 215 [(10, [some (.inr (.inr (.inl 1))), some (.inl (ck_one 28)), some (.inl (ck_one 0)), none, none], ([], [], [(222, 3, 3, ck_one 28), (223, 0, 179, ck_one 0), (220, 3, 3, ck_one 0), (222, 0, 0, ck_one 30)]), 100, .inl 2, true)] 118 p34x_972 = true := by decide +kernel
theorem p34x_972_s {X : Int → Int} {LX : Nat} : ck_Ok p1_O X LX 215 p34x_972 := ck_ok_s (ck_E1 (ck_S1 p34x_971_s ck_S0) (ck_E1 (ck_S1 p34x_147_s ck_S0) ck_E0)) ck_X0 ck_l0 p34x_972_e
set_option maxRecDepth 100000 in
def p34x_994 : ck_Sum := ((0, 0, 0), 245, [.inr (.inr (.inl 222)), .inl (0, 27, none), .inl (0, 2, none)], ([], [], [(222, 3, 3, ck_one 28), (223, 0, 179, ck_one 0), (222, 1, 1, ck_one 6)]), ([], []), [(.inr (some (.inl (ck_one 0))), 245, ([], [], []))])
set_option maxRecDepth 100000 in
theorem p34x_994_e : ck_ok p1_O none [] [] 10 [] 114 p34x_994 = true := by decide +kernel
theorem p34x_994_s {X : Int → Int} {LX : Nat} : ck_Ok p1_O X LX 10 p34x_994 := ck_ok_s (ck_E0) ck_X0 ck_l0 p34x_994_e
set_option maxRecDepth 100000 in
def p34x_996 : ck_Sum := ((1, 0, 0), 245, [.inr (.inr (.inl 1)), .inl (ck_one 0), .inl (ck_one 28)], ([], [], [(222, 3, 3, ck_one 28), (223, 0, 179, ck_one 0), (222, 1, 1, ck_one 6), (3, 0, 0, ck_one 3)]), ([], []), [(.inr (some (.inl (ck_one 0))), 245, ([], [], []))])
set_option maxRecDepth 100000 in
theorem p34x_996_e : ck_ok p1_O none [] [(10, [p34x_994])] 219 [(5, [some (.inr (.inr (.inl 1))), some (.inl (ck_one 0)), some (.inl (ck_one 28)), some (.inl (ck_one 0)), some (.inl (0, 3, none)), none, none], ([], [], [(222, 3, 3, ck_one 28), (223, 0, 179, ck_one 0), (222, 1, 1, ck_one 6), (3, 0, 0, ck_one 3)]), 100, .inl 4, true), (23, [some (.inr (.inr (.inl 1))), some (.inl (ck_one 0)), some (.inl (ck_one 28)), some (.inl (ck_one 0)), some (.inl (0, 2, some (100, 0))), some (.inl (ck_one 0)), some (.inl (0, 28, none))], ([], [], [(222, 3, 3, ck_one 28), (223, 0, 179, ck_one 0), (222, 1, 1, ck_one 6), (3, 0, 0, ck_one 3)]), 300, .inl 6, true)] 194 p34x_996 = true := by decide +kernel
theorem p34x_996_s {X : Int → Int} {LX : Nat} : ck_Ok p1_O X LX 219 p34x_996 := ck_ok_s (ck_E1 (ck_S1 p34x_994_s ck_S0) ck_E0) ck_X0 ck_l0 p34x_996_e
set_option maxRecDepth 100000 in
def p34x_997 : ck_Sum := ((1, 0, 0), 245, [.inr (.inr (.inl 1)), .inl (1, 2, none), .inl (ck_one 28)], ([], [], [(222, 3, 3, ck_one 28), (223, 0, 179, ck_one 0), (222, 1, 1, ck_one 6), (3, 0, 0, ck_one 3)]), ([], []), [(.inr (some (.inl (ck_one 0))), 245, ([], [], []))])
set_option maxRecDepth 100000 in
theorem p34x_997_e : ck_ok p1_O none [] [(10, [p34x_994])] 219 [(5, [some (.inr (.inr (.inl 1))), some (.inl (1, 2, none)), some (.inl (ck_one 28)), some (.inl (ck_one 0)), some (.inl (0, 3, none)), none, none], ([], [], [(222, 3, 3, ck_one 28), (223, 0, 179, ck_one 0), (222, 1, 1, ck_one 6), (3, 0, 0, ck_one 3)]), 100, .inl 4, true), (23, [some (.inr (.inr (.inl 1))), some (.inl (1, 2, none)), some (.inl (ck_one 28)), some (.inl (ck_one 0)), some (.inl (0, 2, some (100, 0))), some (.inl (ck_one 0)), some (.inl (0, 28, none))], ([], [], [(222, 3, 3, ck_one 28), (223, 0, 179, ck_one 0), (222, 1, 1, ck_one 6), (3, 0, 0, ck_one 3)]), 300, .inl 6, true)] 194 p34x_997 = true := by decide +kernel
theorem p34x_997_s {X : Int → Int} {LX : Nat} : ck_Ok p1_O X LX 219 p34x_997 := ck_ok_s (ck_E1 (ck_S1 p34x_994_s ck_S0) ck_E0) ck_X0 ck_l0 p34x_997_e
set_option maxRecDepth 100000 in
def p34x_998 : ck_Sum := ((3, 0, 0), 245, [.inr (.inr (.inl 1)), .inl (ck_one 28), .inl (ck_one 1)], ([], [], [(222, 1, 1, ck_one 6), (222, 0, 0, ck_one 30), (222, 3, 3, ck_one 0), (1, 15, 15, ck_one 0), (220, 0, 0, ck_one 24), (220, 3, 3, ck_one 0), (10, 3, 3, ck_one 0), (3, 0, 0, ck_one 3), (223, 0, 179, ck_one 0)]), ([(1, 15, 15), (220, 3, 3), (221, 0, 47), (222, 3, 3), (223, 0, 179)], []), [(.inr (some (.inl (ck_one 0))), 245, ([], [], [(222, 3, 3, ck_one 28), (1, 15, 15, ck_one 1), (220, 3, 3, ck_one 0), (223, 0, 179, ck_one 0)]))])
set_option maxRecDepth 100000 in
theorem p34x_998_e : ck_ok p1_O none [] [(214, [p34x_970]), (24, [p34x_148]), (215, [p34x_972]), (219, [p34x_996, p34x_997])] 218 [(19, [some (.inr (.inr (.inl 1))), some (.inl (ck_one 28)), some (.inl (ck_one 1)), some (.inl (ck_one 0)), some (.inl (1, 3, none))], ([], [], [(222, 3, 3, ck_one 28), (223, 0, 179, ck_one 0), (1, 15, 15, ck_one 1), (220, 3, 3, ck_one 0), (222, 1, 1, ck_one 6), (222, 0, 0, ck_one 30), (220, 0, 0, ck_one 24), (10, 3, 3, ck_one 0), (3, 0, 0, ck_one 3)]), 100, .inl 4, true)] 158 p34x_998 = true := by decide +kernel
theorem p34x_998_s {X : Int → Int} {LX : Nat} : ck_Ok p1_O X LX 218 p34x_998 := ck_ok_s (ck_E1 (ck_S1 p34x_970_s ck_S0) (ck_E1 (ck_S1 p34x_148_s ck_S0) (ck_E1 (ck_S1 p34x_972_s ck_S0) (ck_E1 (ck_S1 p34x_996_s (ck_S1 p34x_997_s ck_S0)) ck_E0)))) ck_X0 ck_l0 p34x_998_e
set_option maxRecDepth 100000 in
def p34x_999 : ck_Sum := ((4, 0, 0), 245, [.inr (.inr (.inl 1)), .inl (ck_one 28), .inl (ck_one 1), .inr (.inr (.inl 245))], ([], [], [(222, 1, 1, ck_one 6), (222, 0, 0, ck_one 30), (222, 3, 3, ck_one 0), (1, 15, 15, ck_one 0), (220, 0, 0, ck_one 24), (220, 3, 3, ck_one 0), (10, 3, 3, ck_one 0), (3, 0, 0, ck_one 3), (223, 0, 179, ck_one 0)]), ([(1, 15, 15), (220, 3, 3), (221, 0, 47), (222, 3, 3), (223, 0, 179), (245, 0, 0)], []), [(.inr (some (.inl (ck_one 0))), 245, ([], [], [(245, 0, 0, ck_one 0), (222, 3, 3, ck_one 28), (1, 15, 15, ck_one 1), (220, 3, 3, ck_one 0), (223, 0, 179, ck_one 0)]))])
set_option maxRecDepth 100000 in
theorem p34x_999_e : ck_ok p1_O none [] [(218, [p34x_998])] 217 [] 92 p34x_999 = true := by decide +kernel
theorem p34x_999_s {X : Int → Int} {LX : Nat} : ck_Ok p1_O X LX 217 p34x_999 := ck_ok_s (ck_E1 (ck_S1 p34x_998_s ck_S0) ck_E0) ck_X0 ck_l0 p34x_999_e
set_option maxRecDepth 100000 in
def p34x_1005 : ck_Sum := ((3, 0, 0), 245, [.inr (.inr (.inl 1)), .inl (ck_one 28), .inl (ck_one 0)], ([], [], [(222, 1, 1, ck_one 6), (222, 0, 0, ck_one 30), (222, 3, 3, ck_one 0), (1, 15, 15, ck_one 0), (220, 0, 0, ck_one 24), (220, 3, 3, ck_one 0), (10, 3, 3, ck_one 0), (3, 0, 0, ck_one 3), (223, 0, 179, ck_one 0)]), ([(1, 15, 15), (220, 3, 3), (221, 0, 47), (222, 3, 3), (223, 0, 179)], []), [(.inr (some (.inl (ck_one 0))), 245, ([], [], [(222, 3, 3, ck_one 28), (1, 15, 15, ck_one 1), (220, 3, 3, ck_one 0), (223, 0, 179, ck_one 0)]))])
set_option maxRecDepth 100000 in
theorem p34x_1005_e : ck_ok p1_O none [] [(214, [p34x_970]), (24, [p34x_148]), (215, [p34x_972]), (219, [p34x_997, p34x_996])] 218 [(19, [some (.inr (.inr (.inl 1))), some (.inl (ck_one 28)), some (.inl (ck_one 0)), some (.inl (ck_one 0)), some (.inl (1, 3, none))], ([], [], [(222, 3, 3, ck_one 28), (223, 0, 179, ck_one 0), (1, 15, 15, ck_one 1), (220, 3, 3, ck_one 0), (222, 1, 1, ck_one 6), (222, 0, 0, ck_one 30), (220, 0, 0, ck_one 24), (10, 3, 3, ck_one 0), (3, 0, 0, ck_one 3)]), 100, .inl 4, true)] 158 p34x_1005 = true := by decide +kernel
theorem p34x_1005_s {X : Int → Int} {LX : Nat} : ck_Ok p1_O X LX 218 p34x_1005 := ck_ok_s (ck_E1 (ck_S1 p34x_970_s ck_S0) (ck_E1 (ck_S1 p34x_148_s ck_S0) (ck_E1 (ck_S1 p34x_972_s ck_S0) (ck_E1 (ck_S1 p34x_997_s (ck_S1 p34x_996_s ck_S0)) ck_E0)))) ck_X0 ck_l0 p34x_1005_e
set_option maxRecDepth 100000 in
def p34x_1006 : ck_Sum := ((4, 0, 0), 245, [.inr (.inr (.inl 1)), .inl (ck_one 28), .inl (ck_one 0), .inr (.inr (.inl 245))], ([], [], [(222, 1, 1, ck_one 6), (222, 0, 0, ck_one 30), (222, 3, 3, ck_one 0), (1, 15, 15, ck_one 0), (220, 0, 0, ck_one 24), (220, 3, 3, ck_one 0), (10, 3, 3, ck_one 0), (3, 0, 0, ck_one 3), (223, 0, 179, ck_one 0)]), ([(1, 15, 15), (220, 3, 3), (221, 0, 47), (222, 3, 3), (223, 0, 179), (245, 0, 0)], []), [(.inr (some (.inl (ck_one 0))), 245, ([], [], [(245, 0, 0, ck_one 0), (222, 3, 3, ck_one 28), (1, 15, 15, ck_one 1), (220, 3, 3, ck_one 0), (223, 0, 179, ck_one 0)]))])
set_option maxRecDepth 100000 in
theorem p34x_1006_e : ck_ok p1_O none [] [(218, [p34x_1005])] 217 [] 92 p34x_1006 = true := by decide +kernel
theorem p34x_1006_s {X : Int → Int} {LX : Nat} : ck_Ok p1_O X LX 217 p34x_1006 := ck_ok_s (ck_E1 (ck_S1 p34x_1005_s ck_S0) ck_E0) ck_X0 ck_l0 p34x_1006_e
set_option maxRecDepth 100000 in
def p34x_1008 : ck_Sum := ((0, 0, 0), 245, [.inr (.inr (.inl 1)), .inl (ck_one 29)], ([], [], []), ([], []), [(.inr none, 245, ([], [], []))])
set_option maxRecDepth 100000 in
theorem p34x_1008_e : ck_ok p1_O none [] [] 214 [] 84 p34x_1008 = true := by decide +kernel
theorem p34x_1008_s {X : Int → Int} {LX : Nat} : ck_Ok p1_O X LX 214 p34x_1008 := ck_ok_s (ck_E0) ck_X0 ck_l0 p34x_1008_e
set_option maxRecDepth 100000 in
def p34x_1009 : ck_Sum := ((1, 0, 0), 245, [.inr (.inr (.inl 222)), .inl (ck_one 29)], ([], [], [(222, 0, 0, ck_one 30), (223, 0, 179, ck_one 0)]), ([(222, 3, 3), (223, 0, 179)], []), [(.inr none, 245, ([], [], [(222, 3, 3, ck_one 29), (223, 0, 179, ck_one 0)]))])
set_option maxRecDepth 100000 in
theorem p34x_1009_e : ck_ok p1_O none [] [(8, [p34x_149])] 25 [] 96 p34x_1009 = true := by decide +kernel
theorem p34x_1009_s {X : Int → Int} {LX : Nat} : ck_Ok p1_O X LX 25 p34x_1009 := ck_ok_s (ck_E1 (ck_S1 p34x_149_s ck_S0) ck_E0) ck_X0 ck_l0 p34x_1009_e
set_option maxRecDepth 100000 in
def p34x_1010 : ck_Sum := ((2, 0, 0), 245, [.inr (.inr (.inl 1)), .inl (ck_one 29)], ([], [], [(220, 3, 3, ck_one 0), (222, 0, 0, ck_one 30), (222, 3, 3, ck_one 0), (223, 0, 179, ck_one 0)]), ([(222, 3, 3), (223, 0, 179)], []), [(.inr none, 245, ([], [], [(222, 3, 3, ck_one 29), (223, 0, 179, ck_one 0)]))])
set_option maxRecDepth 100000 in
theorem p34x_1010_e : ck_ok p1_O none [] [(25, [p34x_1009]), (9, [p34x_147])] 215 [(10, [some (.inr (.inr (.inl 1))), some (.inl (ck_one 29)), some (.inl (ck_one 0)), none, none], ([], [], [(222, 3, 3, ck_one 29), (223, 0, 179, ck_one 0), (220, 3, 3, ck_one 0), (222, 0, 0, ck_one 30)]), 100, .inl 2, true)] 118 p34x_1010 = true := by decide +kernel
theorem p34x_1010_s {X : Int → Int} {LX : Nat} : ck_Ok p1_O X LX 215 p34x_1010 := ck_ok_s (ck_E1 (ck_S1 p34x_1009_s ck_S0) (ck_E1 (ck_S1 p34x_147_s ck_S0) ck_E0)) ck_X0 ck_l0 p34x_1010_e
set_option maxRecDepth 100000 in
def p34x_1032 : ck_Sum := ((0, 0, 0), 245, [.inr (.inr (.inl 222)), .inl (0, 28, none), .inl (0, 2, none)], ([], [], [(222, 3, 3, ck_one 29), (223, 0, 179, ck_one 0), (222, 1, 1, ck_one 6)]), ([], []), [(.inr (some (.inl (ck_one 0))), 245, ([], [], []))])
set_option maxRecDepth 100000 in
theorem p34x_1032_e : ck_ok p1_O none [] [] 10 [] 114 p34x_1032 = true := by decide +kernel
theorem p34x_1032_s {X : Int → Int} {LX : Nat} : ck_Ok p1_O X LX 10 p34x_1032 := ck_ok_s (ck_E0) ck_X0 ck_l0 p34x_1032_e
set_option maxRecDepth 100000 in
def p34x_1034 : ck_Sum := ((1, 0, 0), 245, [.inr (.inr (.inl 1)), .inl (ck_one 0), .inl (ck_one 29)], ([], [], [(222, 3, 3, ck_one 29), (223, 0, 179, ck_one 0), (222, 1, 1, ck_one 6), (3, 0, 0, ck_one 3)]), ([], []), [(.inr (some (.inl (ck_one 0))), 245, ([], [], []))])
set_option maxRecDepth 100000 in
theorem p34x_1034_e : ck_ok p1_O none [] [(10, [p34x_1032])] 219 [(5, [some (.inr (.inr (.inl 1))), some (.inl (ck_one 0)), some (.inl (ck_one 29)), some (.inl (ck_one 0)), some (.inl (0, 3, none)), none, none], ([], [], [(222, 3, 3, ck_one 29), (223, 0, 179, ck_one 0), (222, 1, 1, ck_one 6), (3, 0, 0, ck_one 3)]), 100, .inl 4, true), (23, [some (.inr (.inr (.inl 1))), some (.inl (ck_one 0)), some (.inl (ck_one 29)), some (.inl (ck_one 0)), some (.inl (0, 2, some (100, 0))), some (.inl (ck_one 0)), some (.inl (0, 29, none))], ([], [], [(222, 3, 3, ck_one 29), (223, 0, 179, ck_one 0), (222, 1, 1, ck_one 6), (3, 0, 0, ck_one 3)]), 300, .inl 6, true)] 194 p34x_1034 = true := by decide +kernel
theorem p34x_1034_s {X : Int → Int} {LX : Nat} : ck_Ok p1_O X LX 219 p34x_1034 := ck_ok_s (ck_E1 (ck_S1 p34x_1032_s ck_S0) ck_E0) ck_X0 ck_l0 p34x_1034_e
set_option maxRecDepth 100000 in
def p34x_1035 : ck_Sum := ((1, 0, 0), 245, [.inr (.inr (.inl 1)), .inl (1, 2, none), .inl (ck_one 29)], ([], [], [(222, 3, 3, ck_one 29), (223, 0, 179, ck_one 0), (222, 1, 1, ck_one 6), (3, 0, 0, ck_one 3)]), ([], []), [(.inr (some (.inl (ck_one 0))), 245, ([], [], []))])
set_option maxRecDepth 100000 in
theorem p34x_1035_e : ck_ok p1_O none [] [(10, [p34x_1032])] 219 [(5, [some (.inr (.inr (.inl 1))), some (.inl (1, 2, none)), some (.inl (ck_one 29)), some (.inl (ck_one 0)), some (.inl (0, 3, none)), none, none], ([], [], [(222, 3, 3, ck_one 29), (223, 0, 179, ck_one 0), (222, 1, 1, ck_one 6), (3, 0, 0, ck_one 3)]), 100, .inl 4, true), (23, [some (.inr (.inr (.inl 1))), some (.inl (1, 2, none)), some (.inl (ck_one 29)), some (.inl (ck_one 0)), some (.inl (0, 2, some (100, 0))), some (.inl (ck_one 0)), some (.inl (0, 29, none))], ([], [], [(222, 3, 3, ck_one 29), (223, 0, 179, ck_one 0), (222, 1, 1, ck_one 6), (3, 0, 0, ck_one 3)]), 300, .inl 6, true)] 194 p34x_1035 = true := by decide +kernel
theorem p34x_1035_s {X : Int → Int} {LX : Nat} : ck_Ok p1_O X LX 219 p34x_1035 := ck_ok_s (ck_E1 (ck_S1 p34x_1032_s ck_S0) ck_E0) ck_X0 ck_l0 p34x_1035_e
set_option maxRecDepth 100000 in
def p34x_1036 : ck_Sum := ((3, 0, 0), 245, [.inr (.inr (.inl 1)), .inl (ck_one 29), .inl (ck_one 1)], ([], [], [(222, 1, 1, ck_one 6), (222, 0, 0, ck_one 30), (222, 3, 3, ck_one 0), (1, 15, 15, ck_one 0), (220, 0, 0, ck_one 24), (220, 3, 3, ck_one 0), (10, 3, 3, ck_one 0), (3, 0, 0, ck_one 3), (223, 0, 179, ck_one 0)]), ([(1, 15, 15), (220, 3, 3), (221, 0, 47), (222, 3, 3), (223, 0, 179)], []), [(.inr (some (.inl (ck_one 0))), 245, ([], [], [(222, 3, 3, ck_one 29), (1, 15, 15, ck_one 1), (220, 3, 3, ck_one 0), (223, 0, 179, ck_one 0)]))])
set_option maxRecDepth 100000 in
theorem p34x_1036_e : ck_ok p1_O none [] [(214, [p34x_1008]), (24, [p34x_148]), (215, [p34x_1010]), (219, [p34x_1034, p34x_1035])] 218 [(19, [some (.inr (.inr (.inl 1))), some (.inl (ck_one 29)), some (.inl (ck_one 1)), some (.inl (ck_one 0)), some (.inl (1, 3, none))], ([], [], [(222, 3, 3, ck_one 29), (223, 0, 179, ck_one 0), (1, 15, 15, ck_one 1), (220, 3, 3, ck_one 0), (222, 1, 1, ck_one 6), (222, 0, 0, ck_one 30), (220, 0, 0, ck_one 24), (10, 3, 3, ck_one 0), (3, 0, 0, ck_one 3)]), 100, .inl 4, true)] 158 p34x_1036 = true := by decide +kernel
theorem p34x_1036_s {X : Int → Int} {LX : Nat} : ck_Ok p1_O X LX 218 p34x_1036 := ck_ok_s (ck_E1 (ck_S1 p34x_1008_s ck_S0) (ck_E1 (ck_S1 p34x_148_s ck_S0) (ck_E1 (ck_S1 p34x_1010_s ck_S0) (ck_E1 (ck_S1 p34x_1034_s (ck_S1 p34x_1035_s ck_S0)) ck_E0)))) ck_X0 ck_l0 p34x_1036_e
set_option maxRecDepth 100000 in
def p34x_1037 : ck_Sum := ((4, 0, 0), 245, [.inr (.inr (.inl 1)), .inl (ck_one 29), .inl (ck_one 1), .inr (.inr (.inl 245))], ([], [], [(222, 1, 1, ck_one 6), (222, 0, 0, ck_one 30), (222, 3, 3, ck_one 0), (1, 15, 15, ck_one 0), (220, 0, 0, ck_one 24), (220, 3, 3, ck_one 0), (10, 3, 3, ck_one 0), (3, 0, 0, ck_one 3), (223, 0, 179, ck_one 0)]), ([(1, 15, 15), (220, 3, 3), (221, 0, 47), (222, 3, 3), (223, 0, 179), (245, 0, 0)], []), [(.inr (some (.inl (ck_one 0))), 245, ([], [], [(245, 0, 0, ck_one 0), (222, 3, 3, ck_one 29), (1, 15, 15, ck_one 1), (220, 3, 3, ck_one 0), (223, 0, 179, ck_one 0)]))])
set_option maxRecDepth 100000 in
theorem p34x_1037_e : ck_ok p1_O none [] [(218, [p34x_1036])] 217 [] 92 p34x_1037 = true := by decide +kernel
theorem p34x_1037_s {X : Int → Int} {LX : Nat} : ck_Ok p1_O X LX 217 p34x_1037 := ck_ok_s (ck_E1 (ck_S1 p34x_1036_s ck_S0) ck_E0) ck_X0 ck_l0 p34x_1037_e
set_option maxRecDepth 100000 in
def p34x_1043 : ck_Sum := ((3, 0, 0), 245, [.inr (.inr (.inl 1)), .inl (ck_one 29), .inl (ck_one 0)], ([], [], [(222, 1, 1, ck_one 6), (222, 0, 0, ck_one 30), (222, 3, 3, ck_one 0), (1, 15, 15, ck_one 0), (220, 0, 0, ck_one 24), (220, 3, 3, ck_one 0), (10, 3, 3, ck_one 0), (3, 0, 0, ck_one 3), (223, 0, 179, ck_one 0)]), ([(1, 15, 15), (220, 3, 3), (221, 0, 47), (222, 3, 3), (223, 0, 179)], []), [(.inr (some (.inl (ck_one 0))), 245, ([], [], [(222, 3, 3, ck_one 29), (1, 15, 15, ck_one 1), (220, 3, 3, ck_one 0), (223, 0, 179, ck_one 0)]))])
set_option maxRecDepth 100000 in
theorem p34x_1043_e : ck_ok p1_O none [] [(214, [p34x_1008]), (24, [p34x_148]), (215, [p34x_1010]), (219, [p34x_1035, p34x_1034])] 218 [(19, [some (.inr (.inr (.inl 1))), some (.inl (ck_one 29)), some (.inl (ck_one 0)), some (.inl (ck_one 0)), some (.inl (1, 3, none))], ([], [], [(222, 3, 3, ck_one 29), (223, 0, 179, ck_one 0), (1, 15, 15, ck_one 1), (220, 3, 3, ck_one 0), (222, 1, 1, ck_one 6), (222, 0, 0, ck_one 30), (220, 0, 0, ck_one 24), (10, 3, 3, ck_one 0), (3, 0, 0, ck_one 3)]), 100, .inl 4, true)] 158 p34x_1043 = true := by decide +kernel
theorem p34x_1043_s {X : Int → Int} {LX : Nat} : ck_Ok p1_O X LX 218 p34x_1043 := ck_ok_s (ck_E1 (ck_S1 p34x_1008_s ck_S0) (ck_E1 (ck_S1 p34x_148_s ck_S0) (ck_E1 (ck_S1 p34x_1010_s ck_S0) (ck_E1 (ck_S1 p34x_1035_s (ck_S1 p34x_1034_s ck_S0)) ck_E0)))) ck_X0 ck_l0 p34x_1043_e
set_option maxRecDepth 100000 in
def p34x_1044 : ck_Sum := ((4, 0, 0), 245, [.inr (.inr (.inl 1)), .inl (ck_one 29), .inl (ck_one 0), .inr (.inr (.inl 245))], ([], [], [(222, 1, 1, ck_one 6), (222, 0, 0, ck_one 30), (222, 3, 3, ck_one 0), (1, 15, 15, ck_one 0), (220, 0, 0, ck_one 24), (220, 3, 3, ck_one 0), (10, 3, 3, ck_one 0), (3, 0, 0, ck_one 3), (223, 0, 179, ck_one 0)]), ([(1, 15, 15), (220, 3, 3), (221, 0, 47), (222, 3, 3), (223, 0, 179), (245, 0, 0)], []), [(.inr (some (.inl (ck_one 0))), 245, ([], [], [(245, 0, 0, ck_one 0), (222, 3, 3, ck_one 29), (1, 15, 15, ck_one 1), (220, 3, 3, ck_one 0), (223, 0, 179, ck_one 0)]))])
set_option maxRecDepth 100000 in
theorem p34x_1044_e : ck_ok p1_O none [] [(218, [p34x_1043])] 217 [] 92 p34x_1044 = true := by decide +kernel
theorem p34x_1044_s {X : Int → Int} {LX : Nat} : ck_Ok p1_O X LX 217 p34x_1044 := ck_ok_s (ck_E1 (ck_S1 p34x_1043_s ck_S0) ck_E0) ck_X0 ck_l0 p34x_1044_e
set_option maxRecDepth 100000 in
def p34x_1046 : ck_Sum := ((0, 0, 0), 245, [.inr (.inr (.inl 1)), .inl (ck_one 30)], ([], [], []), ([], []), [(.inr none, 245, ([], [], []))])
set_option maxRecDepth 100000 in
theorem p34x_1046_e : ck_ok p1_O none [] [] 214 [] 84 p34x_1046 = true := by decide +kernel
theorem p34x_1046_s {X : Int → Int} {LX : Nat} : ck_Ok p1_O X LX 214 p34x_1046 := ck_ok_s (ck_E0) ck_X0 ck_l0 p34x_1046_e
set_option maxRecDepth 100000 in
def p34x_1047 : ck_Sum := ((1, 0, 0), 245, [.inr (.inr (.inl 222)), .inl (ck_one 30)], ([], [], [(222, 0, 0, ck_one 30), (223, 0, 179, ck_one 0)]), ([(222, 3, 3), (223, 0, 179)], []), [(.inr none, 245, ([], [], [(222, 3, 3, ck_one 30), (223, 0, 179, ck_one 0)]))])
set_option maxRecDepth 100000 in
theorem p34x_1047_e : ck_ok p1_O none [] [(8, [p34x_149])] 25 [] 96 p34x_1047 = true := by decide +kernel
theorem p34x_1047_s {X : Int → Int} {LX : Nat} : ck_Ok p1_O X LX 25 p34x_1047 := ck_ok_s (ck_E1 (ck_S1 p34x_149_s ck_S0) ck_E0) ck_X0 ck_l0 p34x_1047_e
set_option maxRecDepth 100000 in
def p34x_1048 : ck_Sum := ((2, 0, 0), 245, [.inr (.inr (.inl 1)), .inl (ck_one 30)], ([], [], [(220, 3, 3, ck_one 0), (222, 0, 0, ck_one 30), (222, 3, 3, ck_one 0), (223, 0, 179, ck_one 0)]), ([(222, 3, 3), (223, 0, 179)], []), [(.inr none, 245, ([], [], [(222, 3, 3, ck_one 30), (223, 0, 179, ck_one 0)]))])
set_option maxRecDepth 100000 in
theorem p34x_1048_e : ck_ok p1_O none [] [(25, [p34x_1047]), (9, [p34x_147])] 215 [(10, [some (.inr (.inr (.inl 1))), some (.inl (ck_one 30)), some (.inl (ck_one 0)), none, none], ([], [], [(222, 3, 3, ck_one 30), (223, 0, 179, ck_one 0), (220, 3, 3, ck_one 0), (222, 0, 0, ck_one 30)]), 100, .inl 2, true)] 118 p34x_1048 = true := by decide +kernel
theorem p34x_1048_s {X : Int → Int} {LX : Nat} : ck_Ok p1_O X LX 215 p34x_1048 := ck_ok_s (ck_E1 (ck_S1 p34x_1047_s ck_S0) (ck_E1 (ck_S1 p34x_147_s ck_S0) ck_E0)) ck_X0 ck_l0 p34x_1048_e
set_option maxRecDepth 100000 in
def p34x_1070 : ck_Sum := ((0, 0, 0), 245, [.inr (.inr (.inl 222)), .inl (0, 29, none), .inl (0, 2, none)], ([], [], [(222, 3, 3, ck_one 30), (223, 0, 179, ck_one 0), (222, 1, 1, ck_one 6)]), ([], []), [(.inr (some (.inl (ck_one 0))), 245, ([], [], []))])
set_option maxRecDepth 100000 in
theorem p34x_1070_e : ck_ok p1_O none [] [] 10 [] 114 p34x_1070 = true := by decide +kernel
theorem p34x_1070_s {X : Int → Int} {LX : Nat} : ck_Ok p1_O X LX 10 p34x_1070 := ck_ok_s (ck_E0) ck_X0 ck_l0 p34x_1070_e
set_option maxRecDepth 100000 in
def p34x_1072 : ck_Sum := ((1, 0, 0), 245, [.inr (.inr (.inl 1)), .inl (ck_one 0), .inl (ck_one 30)], ([], [], [(222, 3, 3, ck_one 30), (223, 0, 179, ck_one 0), (222, 1, 1, ck_one 6), (3, 0, 0, ck_one 3)]), ([], []), [(.inr (some (.inl (ck_one 0))), 245, ([], [], []))])
set_option maxRecDepth 100000 in
theorem p34x_1072_e : ck_ok p1_O none [] [(10, [p34x_1070])] 219 [(5, [some (.inr (.inr (.inl 1))), some (.inl (ck_one 0)), some (.inl (ck_one 30)), some (.inl (ck_one 0)), some (.inl (0, 3, none)), none, none], ([], [], [(222, 3, 3, ck_one 30), (223, 0, 179, ck_one 0), (222, 1, 1, ck_one 6), (3, 0, 0, ck_one 3)]), 100, .inl 4, true), (23, [some (.inr (.inr (.inl 1))), some (.inl (ck_one 0)), some (.inl (ck_one 30)), some (.inl (ck_one 0)), some (.inl (0, 2, some (100, 0))), some (.inl (ck_one 0)), some (.inl (0, 30, none))], ([], [], [(222, 3, 3, ck_one 30), (223, 0, 179, ck_one 0), (222, 1, 1, ck_one 6), (3, 0, 0, ck_one 3)]), 300, .inl 6, true)] 194 p34x_1072 = true := by decide +kernel
theorem p34x_1072_s {X : Int → Int} {LX : Nat} : ck_Ok p1_O X LX 219 p34x_1072 := ck_ok_s (ck_E1 (ck_S1 p34x_1070_s ck_S0) ck_E0) ck_X0 ck_l0 p34x_1072_e
set_option maxRecDepth 100000 in
def p34x_1073 : ck_Sum := ((1, 0, 0), 245, [.inr (.inr (.inl 1)), .inl (1, 2, none), .inl (ck_one 30)], ([], [], [(222, 3, 3, ck_one 30), (223, 0, 179, ck_one 0), (222, 1, 1, ck_one 6), (3, 0, 0, ck_one 3)]), ([], []), [(.inr (some (.inl (ck_one 0))), 245, ([], [], []))])
set_option maxRecDepth 100000 in
theorem p34x_1073_e : ck_ok p1_O none [] [(10, [p34x_1070])] 219 [(5, [some (.inr (.inr (.inl 1))), some (.inl (1, 2, none)), some (.inl (ck_one 30)), some (.inl (ck_one 0)), some (.inl (0, 3, none)), none, none], ([], [], [(222, 3, 3, ck_one 30), (223, 0, 179, ck_one 0), (222, 1, 1, ck_one 6), (3, 0, 0, ck_one 3)]), 100, .inl 4, true), (23, [some (.inr (.inr (.inl 1))), some (.inl (1, 2, none)), some (.inl (ck_one 30)), some (.inl (ck_one 0)), some (.inl (0, 2, some (100, 0))), some (.inl (ck_one 0)), some (.inl (0, 30, none))], ([], [], [(222, 3, 3, ck_one 30), (223, 0, 179, ck_one 0), (222, 1, 1, ck_one 6), (3, 0, 0, ck_one 3)]), 300, .inl 6, true)] 194 p34x_1073 = true := by decide +kernel
theorem p34x_1073_s {X : Int → Int} {LX : Nat} : ck_Ok p1_O X LX 219 p34x_1073 := ck_ok_s (ck_E1 (ck_S1 p34x_1070_s ck_S0) ck_E0) ck_X0 ck_l0 p34x_1073_e
set_option maxRecDepth 100000 in
def p34x_1074 : ck_Sum := ((3, 0, 0), 245, [.inr (.inr (.inl 1)), .inl (ck_one 30), .inl (ck_one 1)], ([], [], [(222, 1, 1, ck_one 6), (222, 0, 0, ck_one 30), (222, 3, 3, ck_one 0), (1, 15, 15, ck_one 0), (220, 0, 0, ck_one 24), (220, 3, 3, ck_one 0), (10, 3, 3, ck_one 0), (3, 0, 0, ck_one 3), (223, 0, 179, ck_one 0)]), ([(1, 15, 15), (220, 3, 3), (221, 0, 47), (222, 3, 3), (223, 0, 179)], []), [(.inr (some (.inl (ck_one 0))), 245, ([], [], [(222, 3, 3, ck_one 30), (1, 15, 15, ck_one 1), (220, 3, 3, ck_one 0), (223, 0, 179, ck_one 0)]))])
set_option maxRecDepth 100000 in
theorem p34x_1074_e : ck_ok p1_O none [] [(214, [p34x_1046]), (24, [p34x_148]), (215, [p34x_1048]), (219, [p34x_1072, p34x_1073])] 218 [(19, [some (.inr (.inr (.inl 1))), some (.inl (ck_one 30)), some (.inl (ck_one 1)), some (.inl (ck_one 0)), some (.inl (1, 3, none))], ([], [], [(222, 3, 3, ck_one 30), (223, 0, 179, ck_one 0), (1, 15, 15, ck_one 1), (220, 3, 3, ck_one 0), (222, 1, 1, ck_one 6), (222, 0, 0, ck_one 30), (220, 0, 0, ck_one 24), (10, 3, 3, ck_one 0), (3, 0, 0, ck_one 3)]), 100, .inl 4, true)] 158 p34x_1074 = true := by decide +kernel
theorem p34x_1074_s {X : Int → Int} {LX : Nat} : ck_Ok p1_O X LX 218 p34x_1074 := ck_ok_s (ck_E1 (ck_S1 p34x_1046_s ck_S0) (ck_E1 (ck_S1 p34x_148_s ck_S0) (ck_E1 (ck_S1 p34x_1048_s ck_S0) (ck_E1 (ck_S1 p34x_1072_s (ck_S1 p34x_1073_s ck_S0)) ck_E0)))) ck_X0 ck_l0 p34x_1074_e
set_option maxRecDepth 100000 in
def p34x_1075 : ck_Sum := ((4, 0, 0), 245, [.inr (.inr (.inl 1)), .inl (ck_one 30), .inl (ck_one 1), .inr (.inr (.inl 245))], ([], [], [(222, 1, 1, ck_one 6), (222, 0, 0, ck_one 30), (222, 3, 3, ck_one 0), (1, 15, 15, ck_one 0), (220, 0, 0, ck_one 24), (220, 3, 3, ck_one 0), (10, 3, 3, ck_one 0), (3, 0, 0, ck_one 3), (223, 0, 179, ck_one 0)]), ([(1, 15, 15), (220, 3, 3), (221, 0, 47), (222, 3, 3), (223, 0, 179), (245, 0, 0)], []), [(.inr (some (.inl (ck_one 0))), 245, ([], [], [(245, 0, 0, ck_one 0), (222, 3, 3, ck_one 30), (1, 15, 15, ck_one 1), (220, 3, 3, ck_one 0), (223, 0, 179, ck_one 0)]))])
set_option maxRecDepth 100000 in
theorem p34x_1075_e : ck_ok p1_O none [] [(218, [p34x_1074])] 217 [] 92 p34x_1075 = true := by decide +kernel
theorem p34x_1075_s {X : Int → Int} {LX : Nat} : ck_Ok p1_O X LX 217 p34x_1075 := ck_ok_s (ck_E1 (ck_S1 p34x_1074_s ck_S0) ck_E0) ck_X0 ck_l0 p34x_1075_e
set_option maxRecDepth 100000 in
def p34x_1081 : ck_Sum := ((3, 0, 0), 245, [.inr (.inr (.inl 1)), .inl (ck_one 30), .inl (ck_one 0)], ([], [], [(222, 1, 1, ck_one 6), (222, 0, 0, ck_one 30), (222, 3, 3, ck_one 0), (1, 15, 15, ck_one 0), (220, 0, 0, ck_one 24), (220, 3, 3, ck_one 0), (10, 3, 3, ck_one 0), (3, 0, 0, ck_one 3), (223, 0, 179, ck_one 0)]), ([(1, 15, 15), (220, 3, 3), (221, 0, 47), (222, 3, 3), (223, 0, 179)], []), [(.inr (some (.inl (ck_one 0))), 245, ([], [], [(222, 3, 3, ck_one 30), (1, 15, 15, ck_one 1), (220, 3, 3, ck_one 0), (223, 0, 179, ck_one 0)]))])
set_option maxRecDepth 100000 in
theorem p34x_1081_e : ck_ok p1_O none [] [(214, [p34x_1046]), (24, [p34x_148]), (215, [p34x_1048]), (219, [p34x_1073, p34x_1072])] 218 [(19, [some (.inr (.inr (.inl 1))), some (.inl (ck_one 30)), some (.inl (ck_one 0)), some (.inl (ck_one 0)), some (.inl (1, 3, none))], ([], [], [(222, 3, 3, ck_one 30), (223, 0, 179, ck_one 0), (1, 15, 15, ck_one 1), (220, 3, 3, ck_one 0), (222, 1, 1, ck_one 6), (222, 0, 0, ck_one 30), (220, 0, 0, ck_one 24), (10, 3, 3, ck_one 0), (3, 0, 0, ck_one 3)]), 100, .inl 4, true)] 158 p34x_1081 = true := by decide +kernel
theorem p34x_1081_s {X : Int → Int} {LX : Nat} : ck_Ok p1_O X LX 218 p34x_1081 := ck_ok_s (ck_E1 (ck_S1 p34x_1046_s ck_S0) (ck_E1 (ck_S1 p34x_148_s ck_S0) (ck_E1 (ck_S1 p34x_1048_s ck_S0) (ck_E1 (ck_S1 p34x_1073_s (ck_S1 p34x_1072_s ck_S0)) ck_E0)))) ck_X0 ck_l0 p34x_1081_e
set_option maxRecDepth 100000 in
def p34x_1082 : ck_Sum := ((4, 0, 0), 245, [.inr (.inr (.inl 1)), .inl (ck_one 30), .inl (ck_one 0), .inr (.inr (.inl 245))], ([], [], [(222, 1, 1, ck_one 6), (222, 0, 0, ck_one 30), (222, 3, 3, ck_one 0), (1, 15, 15, ck_one 0), (220, 0, 0, ck_one 24), (220, 3, 3, ck_one 0), (10, 3, 3, ck_one 0), (3, 0, 0, ck_one 3), (223, 0, 179, ck_one 0)]), ([(1, 15, 15), (220, 3, 3), (221, 0, 47), (222, 3, 3), (223, 0, 179), (245, 0, 0)], []), [(.inr (some (.inl (ck_one 0))), 245, ([], [], [(245, 0, 0, ck_one 0), (222, 3, 3, ck_one 30), (1, 15, 15, ck_one 1), (220, 3, 3, ck_one 0), (223, 0, 179, ck_one 0)]))])
set_option maxRecDepth 100000 in
theorem p34x_1082_e : ck_ok p1_O none [] [(218, [p34x_1081])] 217 [] 92 p34x_1082 = true := by decide +kernel
theorem p34x_1082_s {X : Int → Int} {LX : Nat} : ck_Ok p1_O X LX 217 p34x_1082 := ck_ok_s (ck_E1 (ck_S1 p34x_1081_s ck_S0) ck_E0) ck_X0 ck_l0 p34x_1082_e
set_option maxRecDepth 100000 in
def p34x_1084 : ck_Sum := ((6, 1, 6), 245, [.inr (.inr (.inl 1)), .inl (31, 2147483647, none)], ([], [], []), ([], []), [(.inl 0, 245, ([], [], []))])
set_option maxRecDepth 100000 in
theorem p34x_1084_e : ck_ok p1_O none [] [] 214 [] 84 p34x_1084 = true := by decide +kernel
theorem p34x_1084_s {X : Int → Int} {LX : Nat} : ck_Ok p1_O X LX 214 p34x_1084 := ck_ok_s (ck_E0) ck_X0 ck_l0 p34x_1084_e
set_option maxRecDepth 100000 in
def p34x_1085 : ck_Sum := ((7, 1, 6), 245, [.inr (.inr (.inl 1)), .inl (31, 2147483647, none), .inl (ck_one 1)], ([], [], []), ([], []), [(.inl 0, 245, ([], [], []))])
set_option maxRecDepth 100000 in
theorem p34x_1085_e : ck_ok p1_O none [] [(214, [p34x_1084])] 218 [] 76 p34x_1085 = true := by decide +kernel
theorem p34x_1085_s {X : Int → Int} {LX : Nat} : ck_Ok p1_O X LX 218 p34x_1085 := ck_ok_s (ck_E1 (ck_S1 p34x_1084_s ck_S0) ck_E0) ck_X0 ck_l0 p34x_1085_e
set_option maxRecDepth 100000 in
def p34x_1086 : ck_Sum := ((8, 1, 6), 245, [.inr (.inr (.inl 1)), .inl (31, 2147483647, none), .inl (ck_one 1), .inr (.inr (.inl 245))], ([], [], []), ([], []), [(.inr (some (.inl (ck_one 1))), 245, ([], [], []))])
set_option maxRecDepth 100000 in
theorem p34x_1086_e : ck_ok p1_O none [] [(218, [p34x_1085])] 217 [] 88 p34x_1086 = true := by decide +kernel
theorem p34x_1086_s {X : Int → Int} {LX : Nat} : ck_Ok p1_O X LX 217 p34x_1086 := ck_ok_s (ck_E1 (ck_S1 p34x_1085_s ck_S0) ck_E0) ck_X0 ck_l0 p34x_1086_e
set_option maxRecDepth 100000 in
def p34x_1089 : ck_Sum := ((7, 1, 6), 245, [.inr (.inr (.inl 1)), .inl (31, 2147483647, none), .inl (ck_one 0)], ([], [], []), ([], []), [(.inl 0, 245, ([], [], []))])
set_option maxRecDepth 100000 in
theorem p34x_1089_e : ck_ok p1_O none [] [(214, [p34x_1084])] 218 [] 76 p34x_1089 = true := by decide +kernel
theorem p34x_1089_s {X : Int → Int} {LX : Nat} : ck_Ok p1_O X LX 218 p34x_1089 := ck_ok_s (ck_E1 (ck_S1 p34x_1084_s ck_S0) ck_E0) ck_X0 ck_l0 p34x_1089_e
set_option maxRecDepth 100000 in
def p34x_1090 : ck_Sum := ((8, 1, 6), 245, [.inr (.inr (.inl 1)), .inl (31, 2147483647, none), .inl (ck_one 0), .inr (.inr (.inl 245))], ([], [], []), ([], []), [(.inr (some (.inl (ck_one 1))), 245, ([], [], []))])
set_option maxRecDepth 100000 in
theorem p34x_1090_e : ck_ok p1_O none [] [(218, [p34x_1089])] 217 [] 88 p34x_1090 = true := by decide +kernel
theorem p34x_1090_s {X : Int → Int} {LX : Nat} : ck_Ok p1_O X LX 217 p34x_1090 := ck_ok_s (ck_E1 (ck_S1 p34x_1089_s ck_S0) ck_E0) ck_X0 ck_l0 p34x_1090_e
set_option maxRecDepth 100000 in
def p34x_136 : ck_Sum := ((0, 0, 0), 245, [.inl ((-2147483648), 0, none), .inl (ck_one 1), .inl (ck_one 30)], ([], [], []), ([], []), [(.inr (some (.inl (ck_one 0))), 245, ([], [], []))])
set_option maxRecDepth 100000 in
theorem p34x_136_e : ck_ok p1_O none [] [] 287 [] 80 p34x_136 = true := by decide +kernel
theorem p34x_136_s {X : Int → Int} {LX : Nat} : ck_Ok p1_O X LX 287 p34x_136 := ck_ok_s (ck_E0) ck_X0 ck_l0 p34x_136_e
set_option maxRecDepth 100000 in
def p34x_137 : ck_Sum := ((0, 0, 0), 245, [.inr (.inr (.inl 226)), .inl (ck_one 1), .inl (ck_one 1)], ([], [], []), ([(226, 0, 0)], []), [(.inr (some (.inl (ck_one 1))), 245, ([], [], [(226, 0, 0, ck_one 1)]))])
set_option maxRecDepth 100000 in
theorem p34x_137_e : ck_ok p1_O none [] [] 283 [] 84 p34x_137 = true := by decide +kernel
theorem p34x_137_s {X : Int → Int} {LX : Nat} : ck_Ok p1_O X LX 283 p34x_137 := ck_ok_s (ck_E0) ck_X0 ck_l0 p34x_137_e
set_option maxRecDepth 100000 in
def p34x_138 : ck_Sum := ((1, 0, 0), 245, [.inr (.inr (.inl 226)), .inl ((-2147483648), 0, none), .inl (ck_one 1)], ([], [], []), ([(226, 0, 0)], []), [(.inr (some (.inl (ck_one 0))), 245, ([], [], [(226, 0, 0, ck_one 1)]))])
set_option maxRecDepth 100000 in
theorem p34x_138_e : ck_ok p1_O none [] [(287, [p34x_136]), (283, [p34x_137])] 360 [] 102 p34x_138 = true := by decide +kernel
theorem p34x_138_s {X : Int → Int} {LX : Nat} : ck_Ok p1_O X LX 360 p34x_138 := ck_ok_s (ck_E1 (ck_S1 p34x_136_s ck_S0) (ck_E1 (ck_S1 p34x_137_s ck_S0) ck_E0)) ck_X0 ck_l0 p34x_138_e
set_option maxRecDepth 100000 in
def p34x_142 : ck_Sum := ((1, 0, 0), 245, [.inr (.inr (.inl 226)), .inl ((-2147483648), 0, none), .inl (ck_one 0)], ([], [], []), ([(226, 0, 0)], []), [(.inr (some (.inl (ck_one 0))), 245, ([], [], [(226, 0, 0, ck_one 1)]))])
set_option maxRecDepth 100000 in
theorem p34x_142_e : ck_ok p1_O none [] [(287, [p34x_136]), (283, [p34x_137])] 360 [] 102 p34x_142 = true := by decide +kernel
theorem p34x_142_s {X : Int → Int} {LX : Nat} : ck_Ok p1_O X LX 360 p34x_142 := ck_ok_s (ck_E1 (ck_S1 p34x_136_s ck_S0) (ck_E1 (ck_S1 p34x_137_s ck_S0) ck_E0)) ck_X0 ck_l0 p34x_142_e
set_option maxRecDepth 100000 in
def p34x_160 : ck_Sum := ((0, 0, 0), 245, [.inl (ck_one 1), .inl (ck_one 1), .inl (ck_one 30)], ([], [], []), ([], []), [(.inr (some (.inl (ck_one 1))), 245, ([], [], []))])
set_option maxRecDepth 100000 in
theorem p34x_160_e : ck_ok p1_O none [] [] 287 [] 88 p34x_160 = true := by decide +kernel
theorem p34x_160_s {X : Int → Int} {LX : Nat} : ck_Ok p1_O X LX 287 p34x_160 := ck_ok_s (ck_E0) ck_X0 ck_l0 p34x_160_e
set_option maxRecDepth 100000 in
def p34x_161 : ck_Sum := ((0, 0, 0), 245, [.inr (.inr (.inl 226)), .inl (ck_one 0), .inl (ck_one 1)], ([], [], []), ([], []), [(.inr (some (.inl (ck_one 0))), 245, ([], [], []))])
set_option maxRecDepth 100000 in
theorem p34x_161_e : ck_ok p1_O none [] [] 283 [] 78 p34x_161 = true := by decide +kernel
theorem p34x_161_s {X : Int → Int} {LX : Nat} : ck_Ok p1_O X LX 283 p34x_161 := ck_ok_s (ck_E0) ck_X0 ck_l0 p34x_161_e
set_option maxRecDepth 100000 in
def p34x_162 : ck_Sum := ((0, 0, 0), 245, [.inr (.inr (.inl 226))], ([], [], [(227, 2, 9, ck_one 0)]), ([], []), [(.inr (some (.inl (ck_one 0))), 245, ([], [], []))])
set_option maxRecDepth 100000 in
theorem p34x_162_e : ck_ok p1_O none [] [] 255 [] 80 p34x_162 = true := by decide +kernel
theorem p34x_162_s {X : Int → Int} {LX : Nat} : ck_Ok p1_O X LX 255 p34x_162 := ck_ok_s (ck_E0) ck_X0 ck_l0 p34x_162_e
set_option maxRecDepth 100000 in
def p34x_163 : ck_Sum := ((1, 0, 0), 245, [.inr (.inr (.inl 226))], ([], [], [(227, 2, 9, ck_one 0)]), ([], []), [(.inr none, 245, ([], [], []))])
set_option maxRecDepth 100000 in
theorem p34x_163_e : ck_ok p1_O none [] [(255, [p34x_162])] 333 [(2, [some (.inr (.inr (.inl 226))), some (.inl (ck_one 0))], ([], [], [(227, 2, 9, ck_one 0)]), 100, .inl 1, true)] 110 p34x_163 = true := by decide +kernel
theorem p34x_163_s {X : Int → Int} {LX : Nat} : ck_Ok p1_O X LX 333 p34x_163 := ck_ok_s (ck_E1 (ck_S1 p34x_162_s ck_S0) ck_E0) ck_X0 ck_l0 p34x_163_e
set_option maxRecDepth 100000 in
def p34x_164 : ck_Sum := ((0, 0, 0), 245, [.inr (.inr (.inl 226))], ([], [], [(227, 0, 0, ck_one 3)]), ([], []), [(.inr (some (.inl (ck_one 3))), 245, ([], [], []))])
set_option maxRecDepth 100000 in
theorem p34x_164_e : ck_ok p1_O none [] [] 262 [] 80 p34x_164 = true := by decide +kernel
theorem p34x_164_s {X : Int → Int} {LX : Nat} : ck_Ok p1_O X LX 262 p34x_164 := ck_ok_s (ck_E0) ck_X0 ck_l0 p34x_164_e
set_option maxRecDepth 100000 in
def p34x_165 : ck_Sum := ((0, 0, 0), 245, [.inr (.inr (.inl 226))], ([], [], [(227, 2, 9, ck_one 0)]), ([], []), [(.inr (some (.inl (ck_one 0))), 245, ([], [], []))])
set_option maxRecDepth 100000 in
theorem p34x_165_e : ck_ok p1_O none [] [] 267 [] 80 p34x_165 = true := by decide +kernel
theorem p34x_165_s {X : Int → Int} {LX : Nat} : ck_Ok p1_O X LX 267 p34x_165 := ck_ok_s (ck_E0) ck_X0 ck_l0 p34x_165_e
set_option maxRecDepth 100000 in
def p34x_168 : ck_Sum := ((1, 0, 0), 245, [.inr (.inr (.inl 226)), .inl (ck_one 0), .inl (0, 2, none), .inl (ck_one 0)], ([], [], [(227, 2, 9, ck_one 0)]), ([], []), [(.inr (some (.inl (ck_one 0))), 245, ([], [], []))])
set_option maxRecDepth 100000 in
theorem p34x_168_e : ck_ok p1_O none [] [(255, [p34x_162])] 334 [(6, [some (.inr (.inr (.inl 226))), some (.inl (ck_one 0)), some (.inl (0, 2, none)), some (.inl (ck_one 0)), some (.inl (ck_one 0)), some (.inl (ck_one 0))], ([], [], [(227, 2, 9, ck_one 0)]), 100, .inl 4, true)] 114 p34x_168 = true := by decide +kernel
theorem p34x_168_s {X : Int → Int} {LX : Nat} : ck_Ok p1_O X LX 334 p34x_168 := ck_ok_s (ck_E1 (ck_S1 p34x_162_s ck_S0) ck_E0) ck_X0 ck_l0 p34x_168_e
set_option maxRecDepth 100000 in
def p34x_169 : ck_Sum := ((2, 0, 0), 245, [.inr (.inr (.inl 226)), .inl (ck_one 1), .inl (ck_one 1)], ([], [], [(227, 0, 0, ck_one 3), (243, 0, 5, ck_one 0), (227, 2, 9, ck_one 0), (226, 0, 0, ck_one 0)]), ([(226, 0, 0), (243, 0, 2)], []), [(.inr (some (.inl (ck_one 0))), 245, ([], [], [(226, 0, 0, ck_one 0), (243, 0, 5, ck_one 0)]))])
set_option maxRecDepth 100000 in
theorem p34x_169_e : ck_ok p1_O none [] [(287, [p34x_160]), (283, [p34x_161]), (333, [p34x_163]), (262, [p34x_164]), (267, [p34x_165]), (334, [p34x_168])] 360 [(36, [some (.inr (.inr (.inl 226))), some (.inl (ck_one 1)), some (.inl (ck_one 1)), some (.inl (0, 3, none)), none, none, none, none], ([], [], [(226, 0, 0, ck_one 0), (227, 0, 0, ck_one 3), (243, 0, 5, ck_one 0), (227, 2, 9, ck_one 0)]), 100, .inl 3, true), (57, [some (.inr (.inr (.inl 226))), some (.inl (ck_one 1)), some (.inl (ck_one 1)), some (.inl (0, 2, some (100, 0))), some (.inl (0, 1, none)), none, none, none], ([], [], [(226, 0, 0, ck_one 0), (227, 0, 0, ck_one 3), (227, 2, 9, ck_one 0), (243, 0, 5, ck_one 0)]), 300, .inl 4, true)] 1376 p34x_169 = true := by decide +kernel
theorem p34x_169_s {X : Int → Int} {LX : Nat} : ck_Ok p1_O X LX 360 p34x_169 := ck_ok_s (ck_E1 (ck_S1 p34x_160_s ck_S0) (ck_E1 (ck_S1 p34x_161_s ck_S0) (ck_E1 (ck_S1 p34x_163_s ck_S0) (ck_E1 (ck_S1 p34x_164_s ck_S0) (ck_E1 (ck_S1 p34x_165_s ck_S0) (ck_E1 (ck_S1 p34x_168_s ck_S0) ck_E0)))))) ck_X0 ck_l0 p34x_169_e
set_option maxRecDepth 100000 in
def p34x_173 : ck_Sum := ((2, 0, 0), 245, [.inr (.inr (.inl 226)), .inl (ck_one 1), .inl (ck_one 0)], ([], [], [(227, 0, 0, ck_one 3), (243, 0, 5, ck_one 0), (227, 2, 9, ck_one 0), (226, 0, 0, ck_one 0)]), ([(226, 0, 0), (243, 0, 2)], []), [(.inr (some (.inl (ck_one 0))), 245, ([], [], [(226, 0, 0, ck_one 0), (243, 0, 5, ck_one 0)]))])
set_option maxRecDepth 100000 in
theorem p34x_173_e : ck_ok p1_O none [] [(287, [p34x_160]), (283, [p34x_161]), (333, [p34x_163]), (262, [p34x_164]), (267, [p34x_165]), (334, [p34x_168])] 360 [(36, [some (.inr (.inr (.inl 226))), some (.inl (ck_one 1)), some (.inl (ck_one 0)), some (.inl (0, 3, none)), none, none, none, none], ([], [], [(226, 0, 0, ck_one 0), (227, 0, 0, ck_one 3), (243, 0, 5, ck_one 0), (227, 2, 9, ck_one 0)]), 100, .inl 3, true), (57, [some (.inr (.inr (.inl 226))), some (.inl (ck_one 1)), some (.inl (ck_one 0)), some (.inl (0, 2, some (100, 0))), some (.inl (0, 1, none)), none, none, none], ([], [], [(226, 0, 0, ck_one 0), (227, 0, 0, ck_one 3), (227, 2, 9, ck_one 0), (243, 0, 5, ck_one 0)]), 300, .inl 4, true)] 1370 p34x_173 = true := by decide +kernel
theorem p34x_173_s {X : Int → Int} {LX : Nat} : ck_Ok p1_O X LX 360 p34x_173 := ck_ok_s (ck_E1 (ck_S1 p34x_160_s ck_S0) (ck_E1 (ck_S1 p34x_161_s ck_S0) (ck_E1 (ck_S1 p34x_163_s ck_S0) (ck_E1 (ck_S1 p34x_164_s ck_S0) (ck_E1 (ck_S1 p34x_165_s ck_S0) (ck_E1 (ck_S1 p34x_168_s ck_S0) ck_E0)))))) ck_X0 ck_l0 p34x_173_e
set_option maxRecDepth 100000 in
def p34x_186 : ck_Sum := ((0, 0, 0), 245, [.inl (ck_one 2), .inl (ck_one 1), .inl (ck_one 30)], ([], [], []), ([], []), [(.inr (some (.inl (ck_one 1))), 245, ([], [], []))])
set_option maxRecDepth 100000 in
theorem p34x_186_e : ck_ok p1_O none [] [] 287 [] 88 p34x_186 = true := by decide +kernel
theorem p34x_186_s {X : Int → Int} {LX : Nat} : ck_Ok p1_O X LX 287 p34x_186 := ck_ok_s (ck_E0) ck_X0 ck_l0 p34x_186_e
set_option maxRecDepth 100000 in
def p34x_189 : ck_Sum := ((1, 0, 0), 245, [.inr (.inr (.inl 226)), .inl (0, 1, none), .inl (0, 2, none), .inl (ck_one 0)], ([], [], [(227, 2, 9, ck_one 0)]), ([], []), [(.inr (some (.inl (ck_one 0))), 245, ([], [], []))])
set_option maxRecDepth 100000 in
theorem p34x_189_e : ck_ok p1_O none [] [(255, [p34x_162])] 334 [(6, [some (.inr (.inr (.inl 226))), some (.inl (0, 1, none)), some (.inl (0, 2, none)), some (.inl (ck_one 0)), some (.inl (ck_one 0)), some (.inl (ck_one 0))], ([], [], [(227, 2, 9, ck_one 0)]), 100, .inl 4, true)] 114 p34x_189 = true := by decide +kernel
theorem p34x_189_s {X : Int → Int} {LX : Nat} : ck_Ok p1_O X LX 334 p34x_189 := ck_ok_s (ck_E1 (ck_S1 p34x_162_s ck_S0) ck_E0) ck_X0 ck_l0 p34x_189_e
set_option maxRecDepth 100000 in
def p34x_190 : ck_Sum := ((2, 0, 0), 245, [.inr (.inr (.inl 226)), .inl (ck_one 2), .inl (ck_one 1)], ([], [], [(227, 0, 0, ck_one 3), (243, 0, 5, ck_one 0), (227, 2, 9, ck_one 0), (226, 0, 0, ck_one 0)]), ([(226, 0, 0), (243, 0, 2)], []), [(.inr (some (.inl (ck_one 0))), 245, ([], [], [(226, 0, 0, ck_one 0), (243, 0, 5, ck_one 0)]))])
set_option maxRecDepth 100000 in
theorem p34x_190_e : ck_ok p1_O none [] [(287, [p34x_186]), (283, [p34x_161]), (333, [p34x_163]), (262, [p34x_164]), (267, [p34x_165]), (334, [p34x_189])] 360 [(36, [some (.inr (.inr (.inl 226))), some (.inl (ck_one 2)), some (.inl (ck_one 1)), some (.inl (0, 3, none)), none, none, none, none], ([], [], [(226, 0, 0, ck_one 0), (227, 0, 0, ck_one 3), (243, 0, 5, ck_one 0), (227, 2, 9, ck_one 0)]), 100, .inl 3, true), (57, [some (.inr (.inr (.inl 226))), some (.inl (ck_one 2)), some (.inl (ck_one 1)), some (.inl (0, 2, some (100, 0))), some (.inl (0, 2, none)), none, none, none], ([], [], [(226, 0, 0, ck_one 0), (227, 0, 0, ck_one 3), (227, 2, 9, ck_one 0), (243, 0, 5, ck_one 0)]), 300, .inl 4, true)] 1376 p34x_190 = true := by decide +kernel
theorem p34x_190_s {X : Int → Int} {LX : Nat} : ck_Ok p1_O X LX 360 p34x_190 := ck_ok_s (ck_E1 (ck_S1 p34x_186_s ck_S0) (ck_E1 (ck_S1 p34x_161_s ck_S0) (ck_E1 (ck_S1 p34x_163_s ck_S0) (ck_E1 (ck_S1 p34x_164_s ck_S0) (ck_E1 (ck_S1 p34x_165_s ck_S0) (ck_E1 (ck_S1 p34x_189_s ck_S0) ck_E0)))))) ck_X0 ck_l0 p34x_190_e
set_option maxRecDepth 100000 in
def p34x_193 : ck_Sum := ((2, 0, 0), 245, [.inr (.inr (.inl 226)), .inl (ck_one 2), .inl (ck_one 0)], ([], [], [(227, 0, 0, ck_one 3), (243, 0, 5, ck_one 0), (227, 2, 9, ck_one 0), (226, 0, 0, ck_one 0)]), ([(226, 0, 0), (243, 0, 2)], []), [(.inr (some (.inl (ck_one 0))), 245, ([], [], [(226, 0, 0, ck_one 0), (243, 0, 5, ck_one 0)]))])
set_option maxRecDepth 100000 in
theorem p34x_193_e : ck_ok p1_O none [] [(287, [p34x_186]), (283, [p34x_161]), (333, [p34x_163]), (262, [p34x_164]), (267, [p34x_165]), (334, [p34x_189])] 360 [(36, [some (.inr (.inr (.inl 226))), some (.inl (ck_one 2)), some (.inl (ck_one 0)), some (.inl (0, 3, none)), none, none, none, none], ([], [], [(226, 0, 0, ck_one 0), (227, 0, 0, ck_one 3), (243, 0, 5, ck_one 0), (227, 2, 9, ck_one 0)]), 100, .inl 3, true), (57, [some (.inr (.inr (.inl 226))), some (.inl (ck_one 2)), some (.inl (ck_one 0)), some (.inl (0, 2, some (100, 0))), some (.inl (0, 2, none)), none, none, none], ([], [], [(226, 0, 0, ck_one 0), (227, 0, 0, ck_one 3), (227, 2, 9, ck_one 0), (243, 0, 5, ck_one 0)]), 300, .inl 4, true)] 1370 p34x_193 = true := by decide +kernel
theorem p34x_193_s {X : Int → Int} {LX : Nat} : ck_Ok p1_O X LX 360 p34x_193 := ck_ok_s (ck_E1 (ck_S1 p34x_186_s ck_S0) (ck_E1 (ck_S1 p34x_161_s ck_S0) (ck_E1 (ck_S1 p34x_163_s ck_S0) (ck_E1 (ck_S1 p34x_164_s ck_S0) (ck_E1 (ck_S1 p34x_165_s ck_S0) (ck_E1 (ck_S1 p34x_189_s ck_S0) ck_E0)))))) ck_X0 ck_l0 p34x_193_e
set_option maxRecDepth 100000 in
def p34x_207 : ck_Sum := ((0, 0, 0), 245, [.inl (ck_one 3), .inl (ck_one 1), .inl (ck_one 30)], ([], [], []), ([], []), [(.inr (some (.inl (ck_one 1))), 245, ([], [], []))])
set_option maxRecDepth 100000 in
theorem p34x_207_e : ck_ok p1_O none [] [] 287 [] 88 p34x_207 = true := by decide +kernel
theorem p34x_207_s {X : Int → Int} {LX : Nat} : ck_Ok p1_O X LX 287 p34x_207 := ck_ok_s (ck_E0) ck_X0 ck_l0 p34x_207_e
set_option maxRecDepth 100000 in
def p34x_210 : ck_Sum := ((1, 0, 0), 245, [.inr (.inr (.inl 226)), .inl (0, 2, none), .inl (0, 2, none), .inl (ck_one 0)], ([], [], [(227, 2, 9, ck_one 0)]), ([], []), [(.inr (some (.inl (ck_one 0))), 245, ([], [], []))])
set_option maxRecDepth 100000 in
theorem p34x_210_e : ck_ok p1_O none [] [(255, [p34x_162])] 334 [(6, [some (.inr (.inr (.inl 226))), some (.inl (0, 2, none)), some (.inl (0, 2, none)), some (.inl (ck_one 0)), some (.inl (ck_one 0)), some (.inl (ck_one 0))], ([], [], [(227, 2, 9, ck_one 0)]), 100, .inl 4, true)] 114 p34x_210 = true := by decide +kernel
theorem p34x_210_s {X : Int → Int} {LX : Nat} : ck_Ok p1_O X LX 334 p34x_210 := ck_ok_s (ck_E1 (ck_S1 p34x_162_s ck_S0) ck_E0) ck_X0 ck_l0 p34x_210_e
set_option maxRecDepth 100000 in
def p34x_211 : ck_Sum := ((2, 0, 0), 245, [.inr (.inr (.inl 226)), .inl (ck_one 3), .inl (ck_one 1)], ([], [], [(227, 0, 0, ck_one 3), (243, 0, 5, ck_one 0), (227, 2, 9, ck_one 0), (226, 0, 0, ck_one 0)]), ([(226, 0, 0), (243, 0, 2)], []), [(.inr (some (.inl (ck_one 0))), 245, ([], [], [(226, 0, 0, ck_one 0), (243, 0, 5, ck_one 0)]))])
set_option maxRecDepth 100000 in
theorem p34x_211_e : ck_ok p1_O none [] [(287, [p34x_207]), (283, [p34x_161]), (333, [p34x_163]), (262, [p34x_164]), (267, [p34x_165]), (334, [p34x_210])] 360 [(36, [some (.inr (.inr (.inl 226))), some (.inl (ck_one 3)), some (.inl (ck_one 1)), some (.inl (0, 3, none)), none, none, none, none], ([], [], [(226, 0, 0, ck_one 0), (227, 0, 0, ck_one 3), (243, 0, 5, ck_one 0), (227, 2, 9, ck_one 0)]), 100, .inl 3, true), (57, [some (.inr (.inr (.inl 226))), some (.inl (ck_one 3)), some (.inl (ck_one 1)), some (.inl (0, 2, some (100, 0))), some (.inl (0, 3, none)), none, none, none], ([], [], [(226, 0, 0, ck_one 0), (227, 0, 0, ck_one 3), (227, 2, 9, ck_one 0), (243, 0, 5, ck_one 0)]), 300, .inl 4, true)] 1376 p34x_211 = true := by decide +kernel
theorem p34x_211_s {X : Int → Int} {LX : Nat} : ck_Ok p1_O X LX 360 p34x_211 := ck_ok_s (ck_E1 (ck_S1 p34x_207_s ck_S0) (ck_E1 (ck_S1 p34x_161_s ck_S0) (ck_E1 (ck_S1 p34x_163_s ck_S0) (ck_E1 (ck_S1 p34x_164_s ck_S0) (ck_E1 (ck_S1 p34x_165_s ck_S0) (ck_E1 (ck_S1 p34x_210_s ck_S0) ck_E0)))))) ck_X0 ck_l0 p34x_211_e
set_option maxRecDepth 100000 in
def p34x_214 : ck_Sum := ((2, 0, 0), 245, [.inr (.inr (.inl 226)), .inl (ck_one 3), .inl (ck_one 0)], ([], [], [(227, 0, 0, ck_one 3), (243, 0, 5, ck_one 0), (227, 2, 9, ck_one 0), (226, 0, 0, ck_one 0)]), ([(226, 0, 0), (243, 0, 2)], []), [(.inr (some (.inl (ck_one 0))), 245, ([], [], [(226, 0, 0, ck_one 0), (243, 0, 5, ck_one 0)]))])
set_option maxRecDepth 100000 in
theorem p34x_214_e : ck_ok p1_O none [] [(287, [p34x_207]), (283, [p34x_161]), (333, [p34x_163]), (262, [p34x_164]), (267, [p34x_165]), (334, [p34x_210])] 360 [(36, [some (.inr (.inr (.inl 226))), some (.inl (ck_one 3)), some (.inl (ck_one 0)), some (.inl (0, 3, none)), none, none, none, none], ([], [], [(226, 0, 0, ck_one 0), (227, 0, 0, ck_one 3), (243, 0, 5, ck_one 0), (227, 2, 9, ck_one 0)]), 100, .inl 3, true), (57, [some (.inr (.inr (.inl 226))), some (.inl (ck_one 3)), some (.inl (ck_one 0)), some (.inl (0, 2, some (100, 0))), some (.inl (0, 3, none)), none, none, none], ([], [], [(226, 0, 0, ck_one 0), (227, 0, 0, ck_one 3), (227, 2, 9, ck_one 0), (243, 0, 5, ck_one 0)]), 300, .inl 4, true)] 1370 p34x_214 = true := by decide +kernel
theorem p34x_214_s {X : Int → Int} {LX : Nat} : ck_Ok p1_O X LX 360 p34x_214 := ck_ok_s (ck_E1 (ck_S1 p34x_207_s ck_S0) (ck_E1 (ck_S1 p34x_161_s ck_S0) (ck_E1 (ck_S1 p34x_163_s ck_S0) (ck_E1 (ck_S1 p34x_164_s ck_S0) (ck_E1 (ck_S1 p34x_165_s ck_S0) (ck_E1 (ck_S1 p34x_210_s ck_S0) ck_E0)))))) ck_X0 ck_l0 p34x_214_e
set_option maxRecDepth 100000 in
def p34x_229 : ck_Sum := ((0, 0, 0), 245, [.inl (ck_one 4), .inl (ck_one 1), .inl (ck_one 30)], ([], [], []), ([], []), [(.inr (some (.inl (ck_one 1))), 245, ([], [], []))])
set_option maxRecDepth 100000 in
theorem p34x_229_e : ck_ok p1_O none [] [] 287 [] 88 p34x_229 = true := by decide +kernel
theorem p34x_229_s {X : Int → Int} {LX : Nat} : ck_Ok p1_O X LX 287 p34x_229 := ck_ok_s (ck_E0) ck_X0 ck_l0 p34x_229_e
set_option maxRecDepth 100000 in
def p34x_232 : ck_Sum := ((1, 0, 0), 245, [.inr (.inr (.inl 226)), .inl (0, 3, none), .inl (0, 2, none), .inl (ck_one 0)], ([], [], [(227, 2, 9, ck_one 0)]), ([], []), [(.inr (some (.inl (ck_one 0))), 245, ([], [], []))])
set_option maxRecDepth 100000 in
theorem p34x_232_e : ck_ok p1_O none [] [(255, [p34x_162])] 334 [(6, [some (.inr (.inr (.inl 226))), some (.inl (0, 3, none)), some (.inl (0, 2, none)), some (.inl (ck_one 0)), some (.inl (ck_one 0)), some (.inl (ck_one 0))], ([], [], [(227, 2, 9, ck_one 0)]), 100, .inl 4, true)] 114 p34x_232 = true := by decide +kernel
theorem p34x_232_s {X : Int → Int} {LX : Nat} : ck_Ok p1_O X LX 334 p34x_232 := ck_ok_s (ck_E1 (ck_S1 p34x_162_s ck_S0) ck_E0) ck_X0 ck_l0 p34x_232_e
set_option maxRecDepth 100000 in
def p34x_233 : ck_Sum := ((2, 0, 0), 245, [.inr (.inr (.inl 226)), .inl (ck_one 4), .inl (ck_one 1)], ([], [], [(227, 0, 0, ck_one 3), (243, 0, 5, ck_one 0), (227, 2, 9, ck_one 0), (226, 0, 0, ck_one 0)]), ([(226, 0, 0), (243, 0, 2)], []), [(.inr (some (.inl (ck_one 0))), 245, ([], [], [(226, 0, 0, ck_one 0), (243, 0, 5, ck_one 0)]))])
set_option maxRecDepth 100000 in
theorem p34x_233_e : ck_ok p1_O none [] [(287, [p34x_229]), (283, [p34x_161]), (333, [p34x_163]), (262, [p34x_164]), (267, [p34x_165]), (334, [p34x_232])] 360 [(36, [some (.inr (.inr (.inl 226))), some (.inl (ck_one 4)), some (.inl (ck_one 1)), some (.inl (0, 3, none)), none, none, none, none], ([], [], [(226, 0, 0, ck_one 0), (227, 0, 0, ck_one 3), (243, 0, 5, ck_one 0), (227, 2, 9, ck_one 0)]), 100, .inl 3, true), (57, [some (.inr (.inr (.inl 226))), some (.inl (ck_one 4)), some (.inl (ck_one 1)), some (.inl (0, 2, some (100, 0))), some (.inl (0, 4, none)), none, none, none], ([], [], [(226, 0, 0, ck_one 0), (227, 0, 0, ck_one 3), (227, 2, 9, ck_one 0), (243, 0, 5, ck_one 0)]), 300, .inl 4, true)] 1376 p34x_233 = true := by decide +kernel
theorem p34x_233_s {X : Int → Int} {LX : Nat} : ck_Ok p1_O X LX 360 p34x_233 := ck_ok_s (ck_E1 (ck_S1 p34x_229_s ck_S0) (ck_E1 (ck_S1 p34x_161_s ck_S0) (ck_E1 (ck_S1 p34x_163_s ck_S0) (ck_E1 (ck_S1 p34x_164_s ck_S0) (ck_E1 (ck_S1 p34x_165_s ck_S0) (ck_E1 (ck_S1 p34x_232_s ck_S0) ck_E0)))))) ck_X0 ck_l0 p34x_233_e
set_option maxRecDepth 100000 in
def p34x_236 : ck_Sum := ((2, 0, 0), 245, [.inr (.inr (.inl 226)), .inl (ck_one 4), .inl (ck_one 0)], ([], [], [(227, 0, 0, ck_one 3), (243, 0, 5, ck_one 0), (227, 2, 9, ck_one 0), (226, 0, 0, ck_one 0)]), ([(226, 0, 0), (243, 0, 2)], []), [(.inr (some (.inl (ck_one 0))), 245, ([], [], [(226, 0, 0, ck_one 0), (243, 0, 5, ck_one 0)]))])
set_option maxRecDepth 100000 in
theorem p34x_236_e : ck_ok p1_O none [] [(287, [p34x_229]), (283, [p34x_161]), (333, [p34x_163]), (262, [p34x_164]), (267, [p34x_165]), (334, [p34x_232])] 360 [(36, [some (.inr (.inr (.inl 226))), some (.inl (ck_one 4)), some (.inl (ck_one 0)), some (.inl (0, 3, none)), none, none, none, none], ([], [], [(226, 0, 0, ck_one 0), (227, 0, 0, ck_one 3), (243, 0, 5, ck_one 0), (227, 2, 9, ck_one 0)]), 100, .inl 3, true), (57, [some (.inr (.inr (.inl 226))), some (.inl (ck_one 4)), some (.inl (ck_one 0)), some (.inl (0, 2, some (100, 0))), some (.inl (0, 4, none)), none, none, none], ([], [], [(226, 0, 0, ck_one 0), (227, 0, 0, ck_one 3), (227, 2, 9, ck_one 0), (243, 0, 5, ck_one 0)]), 300, .inl 4, true)] 1370 p34x_236 = true := by decide +kernel
theorem p34x_236_s {X : Int → Int} {LX : Nat} : ck_Ok p1_O X LX 360 p34x_236 := ck_ok_s (ck_E1 (ck_S1 p34x_229_s ck_S0) (ck_E1 (ck_S1 p34x_161_s ck_S0) (ck_E1 (ck_S1 p34x_163_s ck_S0) (ck_E1 (ck_S1 p34x_164_s ck_S0) (ck_E1 (ck_S1 p34x_165_s ck_S0) (ck_E1 (ck_S1 p34x_232_s ck_S0) ck_E0)))))) ck_X0 ck_l0 p34x_236_e
set_option maxRecDepth 100000 in
def p34x_252 : ck_Sum := ((0, 0, 0), 245, [.inl (ck_one 5), .inl (ck_one 1), .inl (ck_one 30)], ([], [], []), ([], []), [(.inr (some (.inl (ck_one 1))), 245, ([], [], []))])
set_option maxRecDepth 100000 in
theorem p34x_252_e : ck_ok p1_O none [] [] 287 [] 88 p34x_252 = true := by decide +kernel
theorem p34x_252_s {X : Int → Int} {LX : Nat} : ck_Ok p1_O X LX 287 p34x_252 := ck_ok_s (ck_E0) ck_X0 ck_l0 p34x_252_e
set_option maxRecDepth 100000 in
def p34x_255 : ck_Sum := ((1, 0, 0), 245, [.inr (.inr (.inl 226)), .inl (0, 4, none), .inl (0, 2, none), .inl (ck_one 0)], ([], [], [(227, 2, 9, ck_one 0)]), ([], []), [(.inr (some (.inl (ck_one 0))), 245, ([], [], []))])
set_option maxRecDepth 100000 in
theorem p34x_255_e : ck_ok p1_O none [] [(255, [p34x_162])] 334 [(6, [some (.inr (.inr (.inl 226))), some (.inl (0, 4, none)), some (.inl (0, 2, none)), some (.inl (ck_one 0)), some (.inl (ck_one 0)), some (.inl (ck_one 0))], ([], [], [(227, 2, 9, ck_one 0)]), 100, .inl 4, true)] 114 p34x_255 = true := by decide +kernel
theorem p34x_255_s {X : Int → Int} {LX : Nat} : ck_Ok p1_O X LX 334 p34x_255 := ck_ok_s (ck_E1 (ck_S1 p34x_162_s ck_S0) ck_E0) ck_X0 ck_l0 p34x_255_e
set_option maxRecDepth 100000 in
def p34x_256 : ck_Sum := ((2, 0, 0), 245, [.inr (.inr (.inl 226)), .inl (ck_one 5), .inl (ck_one 1)], ([], [], [(227, 0, 0, ck_one 3), (243, 0, 5, ck_one 0), (227, 2, 9, ck_one 0), (226, 0, 0, ck_one 0)]), ([(226, 0, 0), (243, 0, 2)], []), [(.inr (some (.inl (ck_one 0))), 245, ([], [], [(226, 0, 0, ck_one 0), (243, 0, 5, ck_one 0)]))])
set_option maxRecDepth 100000 in
theorem p34x_256_e : ck_ok p1_O none [] [(287, [p34x_252]), (283, [p34x_161]), (333, [p34x_163]), (262, [p34x_164]), (267, [p34x_165]), (334, [p34x_255])] 360 [(36, [some (.inr (.inr (.inl 226))), some (.inl (ck_one 5)), some (.inl (ck_one 1)), some (.inl (0, 3, none)), none, none, none, none], ([], [], [(226, 0, 0, ck_one 0), (227, 0, 0, ck_one 3), (243, 0, 5, ck_one 0), (227, 2, 9, ck_one 0)]), 100, .inl 3, true), (57, [some (.inr (.inr (.inl 226))), some (.inl (ck_one 5)), some (.inl (ck_one 1)), some (.inl (0, 2, some (100, 0))), some (.inl (0, 5, none)), none, none, none], ([], [], [(226, 0, 0, ck_one 0), (227, 0, 0, ck_one 3), (227, 2, 9, ck_one 0), (243, 0, 5, ck_one 0)]), 300, .inl 4, true)] 1376 p34x_256 = true := by decide +kernel
theorem p34x_256_s {X : Int → Int} {LX : Nat} : ck_Ok p1_O X LX 360 p34x_256 := ck_ok_s (ck_E1 (ck_S1 p34x_252_s ck_S0) (ck_E1 (ck_S1 p34x_161_s ck_S0) (ck_E1 (ck_S1 p34x_163_s ck_S0) (ck_E1 (ck_S1 p34x_164_s ck_S0) (ck_E1 (ck_S1 p34x_165_s ck_S0) (ck_E1 (ck_S1 p34x_255_s ck_S0) ck_E0)))))) ck_X0 ck_l0 p34x_256_e
set_option maxRecDepth 100000 in
def p34x_259 : ck_Sum := ((2, 0, 0), 245, [.inr (.inr (.inl 226)), .inl (ck_one 5), .inl (ck_one 0)], ([], [], [(227, 0, 0, ck_one 3), (243, 0, 5, ck_one 0), (227, 2, 9, ck_one 0), (226, 0, 0, ck_one 0)]), ([(226, 0, 0), (243, 0, 2)], []), [(.inr (some (.inl (ck_one 0))), 245, ([], [], [(226, 0, 0, ck_one 0), (243, 0, 5, ck_one 0)]))])
set_option maxRecDepth 100000 in
theorem p34x_259_e : ck_ok p1_O none [] [(287, [p34x_252]), (283, [p34x_161]), (333, [p34x_163]), (262, [p34x_164]), (267, [p34x_165]), (334, [p34x_255])] 360 [(36, [some (.inr (.inr (.inl 226))), some (.inl (ck_one 5)), some (.inl (ck_one 0)), some (.inl (0, 3, none)), none, none, none, none], ([], [], [(226, 0, 0, ck_one 0), (227, 0, 0, ck_one 3), (243, 0, 5, ck_one 0), (227, 2, 9, ck_one 0)]), 100, .inl 3, true), (57, [some (.inr (.inr (.inl 226))), some (.inl (ck_one 5)), some (.inl (ck_one 0)), some (.inl (0, 2, some (100, 0))), some (.inl (0, 5, none)), none, none, none], ([], [], [(226, 0, 0, ck_one 0), (227, 0, 0, ck_one 3), (227, 2, 9, ck_one 0), (243, 0, 5, ck_one 0)]), 300, .inl 4, true)] 1370 p34x_259 = true := by decide +kernel
theorem p34x_259_s {X : Int → Int} {LX : Nat} : ck_Ok p1_O X LX 360 p34x_259 := ck_ok_s (ck_E1 (ck_S1 p34x_252_s ck_S0) (ck_E1 (ck_S1 p34x_161_s ck_S0) (ck_E1 (ck_S1 p34x_163_s ck_S0) (ck_E1 (ck_S1 p34x_164_s ck_S0) (ck_E1 (ck_S1 p34x_165_s ck_S0) (ck_E1 (ck_S1 p34x_255_s ck_S0) ck_E0)))))) ck_X0 ck_l0 p34x_259_e
set_option maxRecDepth 100000 in
def p34x_276 : ck_Sum := ((0, 0, 0), 245, [.inl (ck_one 6), .inl (ck_one 1), .inl (ck_one 30)], ([], [], []), ([], []), [(.inr (some (.inl (ck_one 1))), 245, ([], [], []))])
set_option maxRecDepth 100000 in
theorem p34x_276_e : ck_ok p1_O none [] [] 287 [] 88 p34x_276 = true := by decide +kernel
theorem p34x_276_s {X : Int → Int} {LX : Nat} : ck_Ok p1_O X LX 287 p34x_276 := ck_ok_s (ck_E0) ck_X0 ck_l0 p34x_276_e
set_option maxRecDepth 100000 in
def p34x_279 : ck_Sum := ((1, 0, 0), 245, [.inr (.inr (.inl 226)), .inl (0, 5, none), .inl (0, 2, none), .inl (ck_one 0)], ([], [], [(227, 2, 9, ck_one 0)]), ([], []), [(.inr (some (.inl (ck_one 0))), 245, ([], [], []))])
set_option maxRecDepth 100000 in
theorem p34x_279_e : ck_ok p1_O none [] [(255, [p34x_162])] 334 [(6, [some (.inr (.inr (.inl 226))), some (.inl (0, 5, none)), some (.inl (0, 2, none)), some (.inl (ck_one 0)), some (.inl (ck_one 0)), some (.inl (ck_one 0))], ([], [], [(227, 2, 9, ck_one 0)]), 100, .inl 4, true)] 114 p34x_279 = true := by decide +kernel
theorem p34x_279_s {X : Int → Int} {LX : Nat} : ck_Ok p1_O X LX 334 p34x_279 := ck_ok_s (ck_E1 (ck_S1 p34x_162_s ck_S0) ck_E0) ck_X0 ck_l0 p34x_279_e
set_option maxRecDepth 100000 in
def p34x_280 : ck_Sum := ((2, 0, 0), 245, [.inr (.inr (.inl 226)), .inl (ck_one 6), .inl (ck_one 1)], ([], [], [(227, 0, 0, ck_one 3), (243, 0, 5, ck_one 0), (227, 2, 9, ck_one 0), (226, 0, 0, ck_one 0)]), ([(226, 0, 0), (243, 0, 2)], []), [(.inr (some (.inl (ck_one 0))), 245, ([], [], [(226, 0, 0, ck_one 0), (243, 0, 5, ck_one 0)]))])
set_option maxRecDepth 100000 in
theorem p34x_280_e : ck_ok p1_O none [] [(287, [p34x_276]), (283, [p34x_161]), (333, [p34x_163]), (262, [p34x_164]), (267, [p34x_165]), (334, [p34x_279])] 360 [(36, [some (.inr (.inr (.inl 226))), some (.inl (ck_one 6)), some (.inl (ck_one 1)), some (.inl (0, 3, none)), none, none, none, none], ([], [], [(226, 0, 0, ck_one 0), (227, 0, 0, ck_one 3), (243, 0, 5, ck_one 0), (227, 2, 9, ck_one 0)]), 100, .inl 3, true), (57, [some (.inr (.inr (.inl 226))), some (.inl (ck_one 6)), some (.inl (ck_one 1)), some (.inl (0, 2, some (100, 0))), some (.inl (0, 6, none)), none, none, none], ([], [], [(226, 0, 0, ck_one 0), (227, 0, 0, ck_one 3), (227, 2, 9, ck_one 0), (243, 0, 5, ck_one 0)]), 300, .inl 4, true)] 1376 p34x_280 = true := by decide +kernel
theorem p34x_280_s {X : Int → Int} {LX : Nat} : ck_Ok p1_O X LX 360 p34x_280 := ck_ok_s (ck_E1 (ck_S1 p34x_276_s ck_S0) (ck_E1 (ck_S1 p34x_161_s ck_S0) (ck_E1 (ck_S1 p34x_163_s ck_S0) (ck_E1 (ck_S1 p34x_164_s ck_S0) (ck_E1 (ck_S1 p34x_165_s ck_S0) (ck_E1 (ck_S1 p34x_279_s ck_S0) ck_E0)))))) ck_X0 ck_l0 p34x_280_e
set_option maxRecDepth 100000 in
def p34x_283 : ck_Sum := ((2, 0, 0), 245, [.inr (.inr (.inl 226)), .inl (ck_one 6), .inl (ck_one 0)], ([], [], [(227, 0, 0, ck_one 3), (243, 0, 5, ck_one 0), (227, 2, 9, ck_one 0), (226, 0, 0, ck_one 0)]), ([(226, 0, 0), (243, 0, 2)], []), [(.inr (some (.inl (ck_one 0))), 245, ([], [], [(226, 0, 0, ck_one 0), (243, 0, 5, ck_one 0)]))])
set_option maxRecDepth 100000 in
theorem p34x_283_e : ck_ok p1_O none [] [(287, [p34x_276]), (283, [p34x_161]), (333, [p34x_163]), (262, [p34x_164]), (267, [p34x_165]), (334, [p34x_279])] 360 [(36, [some (.inr (.inr (.inl 226))), some (.inl (ck_one 6)), some (.inl (ck_one 0)), some (.inl (0, 3, none)), none, none, none, none], ([], [], [(226, 0, 0, ck_one 0), (227, 0, 0, ck_one 3), (243, 0, 5, ck_one 0), (227, 2, 9, ck_one 0)]), 100, .inl 3, true), (57, [some (.inr (.inr (.inl 226))), some (.inl (ck_one 6)), some (.inl (ck_one 0)), some (.inl (0, 2, some (100, 0))), some (.inl (0, 6, none)), none, none, none], ([], [], [(226, 0, 0, ck_one 0), (227, 0, 0, ck_one 3), (227, 2, 9, ck_one 0), (243, 0, 5, ck_one 0)]), 300, .inl 4, true)] 1370 p34x_283 = true := by decide +kernel
theorem p34x_283_s {X : Int → Int} {LX : Nat} : ck_Ok p1_O X LX 360 p34x_283 := ck_ok_s (ck_E1 (ck_S1 p34x_276_s ck_S0) (ck_E1 (ck_S1 p34x_161_s ck_S0) (ck_E1 (ck_S1 p34x_163_s ck_S0) (ck_E1 (ck_S1 p34x_164_s ck_S0) (ck_E1 (ck_S1 p34x_165_s ck_S0) (ck_E1 (ck_S1 p34x_279_s ck_S0) ck_E0)))))) ck_X0 ck_l0 p34x_283_e
set_option maxRecDepth 100000 in
def p34x_301 : ck_Sum := ((0, 0, 0), 245, [.inl (ck_one 7), .inl (ck_one 1), .inl (ck_one 30)], ([], [], []), ([], []), [(.inr (some (.inl (ck_one 1))), 245, ([], [], []))])
set_option maxRecDepth 100000 in
theorem p34x_301_e : ck_ok p1_O none [] [] 287 [] 88 p34x_301 = true := by decide +kernel
theorem p34x_301_s {X : Int → Int} {LX : Nat} : ck_Ok p1_O X LX 287 p34x_301 := ck_ok_s (ck_E0) ck_X0 ck_l0 p34x_301_e
set_option maxRecDepth 100000 in
def p34x_304 : ck_Sum := ((1, 0, 0), 245, [.inr (.inr (.inl 226)), .inl (0, 6, none), .inl (0, 2, none), .inl (ck_one 0)], ([], [], [(227, 2, 9, ck_one 0)]), ([], []), [(.inr (some (.inl (ck_one 0))), 245, ([], [], []))])
set_option maxRecDepth 100000 in
theorem p34x_304_e : ck_ok p1_O none [] [(255, [p34x_162])] 334 [(6, [some (.inr (.inr (.inl 226))), some (.inl (0, 6, none)), some (.inl (0, 2, none)), some (.inl (ck_one 0)), some (.inl (ck_one 0)), some (.inl (ck_one 0))], ([], [], [(227, 2, 9, ck_one 0)]), 100, .inl 4, true)] 114 p34x_304 = true := by decide +kernel
theorem p34x_304_s {X : Int → Int} {LX : Nat} : ck_Ok p1_O X LX 334 p34x_304 := ck_ok_s (ck_E1 (ck_S1 p34x_162_s ck_S0) ck_E0) ck_X0 ck_l0 p34x_304_e
set_option maxRecDepth 100000 in
def p34x_305 : ck_Sum := ((2, 0, 0), 245, [.inr (.inr (.inl 226)), .inl (ck_one 7), .inl (ck_one 1)], ([], [], [(227, 0, 0, ck_one 3), (243, 0, 5, ck_one 0), (227, 2, 9, ck_one 0), (226, 0, 0, ck_one 0)]), ([(226, 0, 0), (243, 0, 2)], []), [(.inr (some (.inl (ck_one 0))), 245, ([], [], [(226, 0, 0, ck_one 0), (243, 0, 5, ck_one 0)]))])
set_option maxRecDepth 100000 in
theorem p34x_305_e : ck_ok p1_O none [] [(287, [p34x_301]), (283, [p34x_161]), (333, [p34x_163]), (262, [p34x_164]), (267, [p34x_165]), (334, [p34x_304])] 360 [(36, [some (.inr (.inr (.inl 226))), some (.inl (ck_one 7)), some (.inl (ck_one 1)), some (.inl (0, 3, none)), none, none, none, none], ([], [], [(226, 0, 0, ck_one 0), (227, 0, 0, ck_one 3), (243, 0, 5, ck_one 0), (227, 2, 9, ck_one 0)]), 100, .inl 3, true), (57, [some (.inr (.inr (.inl 226))), some (.inl (ck_one 7)), some (.inl (ck_one 1)), some (.inl (0, 2, some (100, 0))), some (.inl (0, 7, none)), none, none, none], ([], [], [(226, 0, 0, ck_one 0), (227, 0, 0, ck_one 3), (227, 2, 9, ck_one 0), (243, 0, 5, ck_one 0)]), 300, .inl 4, true)] 1376 p34x_305 = true := by decide +kernel
theorem p34x_305_s {X : Int → Int} {LX : Nat} : ck_Ok p1_O X LX 360 p34x_305 := ck_ok_s (ck_E1 (ck_S1 p34x_301_s ck_S0) (ck_E1 (ck_S1 p34x_161_s ck_S0) (ck_E1 (ck_S1 p34x_163_s ck_S0) (ck_E1 (ck_S1 p34x_164_s ck_S0) (ck_E1 (ck_S1 p34x_165_s ck_S0) (ck_E1 (ck_S1 p34x_304_s ck_S0) ck_E0)))))) ck_X0 ck_l0 p34x_305_e
set_option maxRecDepth 100000 in
def p34x_308 : ck_Sum := ((2, 0, 0), 245, [.inr (.inr (.inl 226)), .inl (ck_one 7), .inl (ck_one 0)], ([], [], [(227, 0, 0, ck_one 3), (243, 0, 5, ck_one 0), (227, 2, 9, ck_one 0), (226, 0, 0, ck_one 0)]), ([(226, 0, 0), (243, 0, 2)], []), [(.inr (some (.inl (ck_one 0))), 245, ([], [], [(226, 0, 0, ck_one 0), (243, 0, 5, ck_one 0)]))])
set_option maxRecDepth 100000 in
theorem p34x_308_e : ck_ok p1_O none [] [(287, [p34x_301]), (283, [p34x_161]), (333, [p34x_163]), (262, [p34x_164]), (267, [p34x_165]), (334, [p34x_304])] 360 [(36, [some (.inr (.inr (.inl 226))), some (.inl (ck_one 7)), some (.inl (ck_one 0)), some (.inl (0, 3, none)), none, none, none, none], ([], [], [(226, 0, 0, ck_one 0), (227, 0, 0, ck_one 3), (243, 0, 5, ck_one 0), (227, 2, 9, ck_one 0)]), 100, .inl 3, true), (57, [some (.inr (.inr (.inl 226))), some (.inl (ck_one 7)), some (.inl (ck_one 0)), some (.inl (0, 2, some (100, 0))), some (.inl (0, 7, none)), none, none, none], ([], [], [(226, 0, 0, ck_one 0), (227, 0, 0, ck_one 3), (227, 2, 9, ck_one 0), (243, 0, 5, ck_one 0)]), 300, .inl 4, true)] 1370 p34x_308 = true := by decide +kernel
theorem p34x_308_s {X : Int → Int} {LX : Nat} : ck_Ok p1_O X LX 360 p34x_308 := ck_ok_s (ck_E1 (ck_S1 p34x_301_s ck_S0) (ck_E1 (ck_S1 p34x_161_s ck_S0) (ck_E1 (ck_S1 p34x_163_s ck_S0) (ck_E1 (ck_S1 p34x_164_s ck_S0) (ck_E1 (ck_S1 p34x_165_s ck_S0) (ck_E1 (ck_S1 p34x_304_s ck_S0) ck_E0)))))) ck_X0 ck_l0 p34x_308_e
set_option maxRecDepth 100000 in
def p34x_327 : ck_Sum := ((0, 0, 0), 245, [.inl (ck_one 8), .inl (ck_one 1), .inl (ck_one 30)], ([], [], []), ([], []), [(.inr (some (.inl (ck_one 1))), 245, ([], [], []))])
set_option maxRecDepth 100000 in
theorem p34x_327_e : ck_ok p1_O none [] [] 287 [] 88 p34x_327 = true := by decide +kernel
theorem p34x_327_s {X : Int → Int} {LX : Nat} : ck_Ok p1_O X LX 287 p34x_327 := ck_ok_s (ck_E0) ck_X0 ck_l0 p34x_327_e
set_option maxRecDepth 100000 in
def p34x_330 : ck_Sum := ((1, 0, 0), 245, [.inr (.inr (.inl 226)), .inl (0, 7, none), .inl (0, 2, none), .inl (ck_one 0)], ([], [], [(227, 2, 9, ck_one 0)]), ([], []), [(.inr (some (.inl (ck_one 0))), 245, ([], [], []))])
set_option maxRecDepth 100000 in
theorem p34x_330_e : ck_ok p1_O none [] [(255, [p34x_162])] 334 [(6, [some (.inr (.inr (.inl 226))), some (.inl (0, 7, none)), some (.inl (0, 2, none)), some (.inl (ck_one 0)), some (.inl (ck_one 0)), some (.inl (ck_one 0))], ([], [], [(227, 2, 9, ck_one 0)]), 100, .inl 4, true)] 114 p34x_330 = true := by decide +kernel
theorem p34x_330_s {X : Int → Int} {LX : Nat} : ck_Ok p1_O X LX 334 p34x_330 := ck_ok_s (ck_E1 (ck_S1 p34x_162_s ck_S0) ck_E0) ck_X0 ck_l0 p34x_330_e
set_option maxRecDepth 100000 in
def p34x_331 : ck_Sum := ((2, 0, 0), 245, [.inr (.inr (.inl 226)), .inl (ck_one 8), .inl (ck_one 1)], ([], [], [(227, 0, 0, ck_one 3), (243, 0, 5, ck_one 0), (227, 2, 9, ck_one 0), (226, 0, 0, ck_one 0)]), ([(226, 0, 0), (243, 0, 2)], []), [(.inr (some (.inl (ck_one 0))), 245, ([], [], [(226, 0, 0, ck_one 0), (243, 0, 5, ck_one 0)]))])
set_option maxRecDepth 100000 in
theorem p34x_331_e : ck_ok p1_O none [] [(287, [p34x_327]), (283, [p34x_161]), (333, [p34x_163]), (262, [p34x_164]), (267, [p34x_165]), (334, [p34x_330])] 360 [(36, [some (.inr (.inr (.inl 226))), some (.inl (ck_one 8)), some (.inl (ck_one 1)), some (.inl (0, 3, none)), none, none, none, none], ([], [], [(226, 0, 0, ck_one 0), (227, 0, 0, ck_one 3), (243, 0, 5, ck_one 0), (227, 2, 9, ck_one 0)]), 100, .inl 3, true), (57, [some (.inr (.inr (.inl 226))), some (.inl (ck_one 8)), some (.inl (ck_one 1)), some (.inl (0, 2, some (100, 0))), some (.inl (0, 8, none)), none, none, none], ([], [], [(226, 0, 0, ck_one 0), (227, 0, 0, ck_one 3), (227, 2, 9, ck_one 0), (243, 0, 5, ck_one 0)]), 300, .inl 4, true)] 1376 p34x_331 = true := by decide +kernel
theorem p34x_331_s {X : Int → Int} {LX : Nat} : ck_Ok p1_O X LX 360 p34x_331 := ck_ok_s (ck_E1 (ck_S1 p34x_327_s ck_S0) (ck_E1 (ck_S1 p34x_161_s ck_S0) (ck_E1 (ck_S1 p34x_163_s ck_S0) (ck_E1 (ck_S1 p34x_164_s ck_S0) (ck_E1 (ck_S1 p34x_165_s ck_S0) (ck_E1 (ck_S1 p34x_330_s ck_S0) ck_E0)))))) ck_X0 ck_l0 p34x_331_e
set_option maxRecDepth 100000 in
def p34x_334 : ck_Sum := ((2, 0, 0), 245, [.inr (.inr (.inl 226)), .inl (ck_one 8), .inl (ck_one 0)], ([], [], [(227, 0, 0, ck_one 3), (243, 0, 5, ck_one 0), (227, 2, 9, ck_one 0), (226, 0, 0, ck_one 0)]), ([(226, 0, 0), (243, 0, 2)], []), [(.inr (some (.inl (ck_one 0))), 245, ([], [], [(226, 0, 0, ck_one 0), (243, 0, 5, ck_one 0)]))])
set_option maxRecDepth 100000 in
theorem p34x_334_e : ck_ok p1_O none [] [(287, [p34x_327]), (283, [p34x_161]), (333, [p34x_163]), (262, [p34x_164]), (267, [p34x_165]), (334, [p34x_330])] 360 [(36, [some (.inr (.inr (.inl 226))), some (.inl (ck_one 8)), some (.inl (ck_one 0)), some (.inl (0, 3, none)), none, none, none, none], ([], [], [(226, 0, 0, ck_one 0), (227, 0, 0, ck_one 3), (243, 0, 5, ck_one 0), (227, 2, 9, ck_one 0)]), 100, .inl 3, true), (57, [some (.inr (.inr (.inl 226))), some (.inl (ck_one 8)), some (.inl (ck_one 0)), some (.inl (0, 2, some (100, 0))), some (.inl (0, 8, none)), none, none, none], ([], [], [(226, 0, 0, ck_one 0), (227, 0, 0, ck_one 3), (227, 2, 9, ck_one 0), (243, 0, 5, ck_one 0)]), 300, .inl 4, true)] 1370 p34x_334 = true := by decide +kernel
theorem p34x_334_s {X : Int → Int} {LX : Nat} : ck_Ok p1_O X LX 360 p34x_334 := ck_ok_s (ck_E1 (ck_S1 p34x_327_s ck_S0) (ck_E1 (ck_S1 p34x_161_s ck_S0) (ck_E1 (ck_S1 p34x_163_s ck_S0) (ck_E1 (ck_S1 p34x_164_s ck_S0) (ck_E1 (ck_S1 p34x_165_s ck_S0) (ck_E1 (ck_S1 p34x_330_s ck_S0) ck_E0)))))) ck_X0 ck_l0 p34x_334_e
set_option maxRecDepth 100000 in
def p34x_354 : ck_Sum := ((0, 0, 0), 245, [.inl (ck_one 9), .inl (ck_one 1), .inl (ck_one 30)], ([], [], []), ([], []), [(.inr (some (.inl (ck_one 1))), 245, ([], [], []))])
set_option maxRecDepth 100000 in
theorem p34x_354_e : ck_ok p1_O none [] [] 287 [] 88 p34x_354 = true := by decide +kernel
theorem p34x_354_s {X : Int → Int} {LX : Nat} : ck_Ok p1_O X LX 287 p34x_354 := ck_ok_s (ck_E0) ck_X0 ck_l0 p34x_354_e
set_option maxRecDepth 100000 in
def p34x_357 : ck_Sum := ((1, 0, 0), 245, [.inr (.inr (.inl 226)), .inl (0, 8, none), .inl (0, 2, none), .inl (ck_one 0)], ([], [], [(227, 2, 9, ck_one 0)]), ([], []), [(.inr (some (.inl (ck_one 0))), 245, ([], [], []))])
set_option maxRecDepth 100000 in
theorem p34x_357_e : ck_ok p1_O none [] [(255, [p34x_162])] 334 [(6, [some (.inr (.inr (.inl 226))), some (.inl (0, 8, none)), some (.inl (0, 2, none)), some (.inl (ck_one 0)), some (.inl (ck_one 0)), some (.inl (ck_one 0))], ([], [], [(227, 2, 9, ck_one 0)]), 100, .inl 4, true)] 114 p34x_357 = true := by decide +kernel
theorem p34x_357_s {X : Int → Int} {LX : Nat} : ck_Ok p1_O X LX 334 p34x_357 := ck_ok_s (ck_E1 (ck_S1 p34x_162_s ck_S0) ck_E0) ck_X0 ck_l0 p34x_357_e
set_option maxRecDepth 100000 in
def p34x_358 : ck_Sum := ((2, 0, 0), 245, [.inr (.inr (.inl 226)), .inl (ck_one 9), .inl (ck_one 1)], ([], [], [(227, 0, 0, ck_one 3), (243, 0, 5, ck_one 0), (227, 2, 9, ck_one 0), (226, 0, 0, ck_one 0)]), ([(226, 0, 0), (243, 0, 2)], []), [(.inr (some (.inl (ck_one 0))), 245, ([], [], [(226, 0, 0, ck_one 0), (243, 0, 5, ck_one 0)]))])
set_option maxRecDepth 100000 in
theorem p34x_358_e : ck_ok p1_O none [] [(287, [p34x_354]), (283, [p34x_161]), (333, [p34x_163]), (262, [p34x_164]), (267, [p34x_165]), (334, [p34x_357])] 360 [(36, [some (.inr (.inr (.inl 226))), some (.inl (ck_one 9)), some (.inl (ck_one 1)), some (.inl (0, 3, none)), none, none, none, none], ([], [], [(226, 0, 0, ck_one 0), (227, 0, 0, ck_one 3), (243, 0, 5, ck_one 0), (227, 2, 9, ck_one 0)]), 100, .inl 3, true), (57, [some (.inr (.inr (.inl 226))), some (.inl (ck_one 9)), some (.inl (ck_one 1)), some (.inl (0, 2, some (100, 0))), some (.inl (0, 9, none)), none, none, none], ([], [], [(226, 0, 0, ck_one 0), (227, 0, 0, ck_one 3), (227, 2, 9, ck_one 0), (243, 0, 5, ck_one 0)]), 300, .inl 4, true)] 1376 p34x_358 = true := by decide +kernel
theorem p34x_358_s {X : Int → Int} {LX : Nat} : ck_Ok p1_O X LX 360 p34x_358 := ck_ok_s (ck_E1 (ck_S1 p34x_354_s ck_S0) (ck_E1 (ck_S1 p34x_161_s ck_S0) (ck_E1 (ck_S1 p34x_163_s ck_S0) (ck_E1 (ck_S1 p34x_164_s ck_S0) (ck_E1 (ck_S1 p34x_165_s ck_S0) (ck_E1 (ck_S1 p34x_357_s ck_S0) ck_E0)))))) ck_X0 ck_l0 p34x_358_e
set_option maxRecDepth 100000 in
def p34x_361 : ck_Sum := ((2, 0, 0), 245, [.inr (.inr (.inl 226)), .inl (ck_one 9), .inl (ck_one 0)], ([], [], [(227, 0, 0, ck_one 3), (243, 0, 5, ck_one 0), (227, 2, 9, ck_one 0), (226, 0, 0, ck_one 0)]), ([(226, 0, 0), (243, 0, 2)], []), [(.inr (some (.inl (ck_one 0))), 245, ([], [], [(226, 0, 0, ck_one 0), (243, 0, 5, ck_one 0)]))])
set_option maxRecDepth 100000 in
theorem p34x_361_e : ck_ok p1_O none [] [(287, [p34x_354]), (283, [p34x_161]), (333, [p34x_163]), (262, [p34x_164]), (267, [p34x_165]), (334, [p34x_357])] 360 [(36, [some (.inr (.inr (.inl 226))), some (.inl (ck_one 9)), some (.inl (ck_one 0)), some (.inl (0, 3, none)), none, none, none, none], ([], [], [(226, 0, 0, ck_one 0), (227, 0, 0, ck_one 3), (243, 0, 5, ck_one 0), (227, 2, 9, ck_one 0)]), 100, .inl 3, true), (57, [some (.inr (.inr (.inl 226))), some (.inl (ck_one 9)), some (.inl (ck_one 0)), some (.inl (0, 2, some (100, 0))), some (.inl (0, 9, none)), none, none, none], ([], [], [(226, 0, 0, ck_one 0), (227, 0, 0, ck_one 3), (227, 2, 9, ck_one 0), (243, 0, 5, ck_one 0)]), 300, .inl 4, true)] 1370 p34x_361 = true := by decide +kernel
theorem p34x_361_s {X : Int → Int} {LX : Nat} : ck_Ok p1_O X LX 360 p34x_361 := ck_ok_s (ck_E1 (ck_S1 p34x_354_s ck_S0) (ck_E1 (ck_S1 p34x_161_s ck_S0) (ck_E1 (ck_S1 p34x_163_s ck_S0) (ck_E1 (ck_S1 p34x_164_s ck_S0) (ck_E1 (ck_S1 p34x_165_s ck_S0) (ck_E1 (ck_S1 p34x_357_s ck_S0) ck_E0)))))) ck_X0 ck_l0 p34x_361_e
set_option maxRecDepth 100000 in
def p34x_382 : ck_Sum := ((0, 0, 0), 245, [.inl (ck_one 10), .inl (ck_one 1), .inl (ck_one 30)], ([], [], []), ([], []), [(.inr (some (.inl (ck_one 1))), 245, ([], [], []))])
set_option maxRecDepth 100000 in
theorem p34x_382_e : ck_ok p1_O none [] [] 287 [] 88 p34x_382 = true := by decide +kernel
theorem p34x_382_s {X : Int → Int} {LX : Nat} : ck_Ok p1_O X LX 287 p34x_382 := ck_ok_s (ck_E0) ck_X0 ck_l0 p34x_382_e
set_option maxRecDepth 100000 in
def p34x_385 : ck_Sum := ((1, 0, 0), 245, [.inr (.inr (.inl 226)), .inl (0, 9, none), .inl (0, 2, none), .inl (ck_one 0)], ([], [], [(227, 2, 9, ck_one 0)]), ([], []), [(.inr (some (.inl (ck_one 0))), 245, ([], [], []))])
set_option maxRecDepth 100000 in
theorem p34x_385_e : ck_ok p1_O none [] [(255, [p34x_162])] 334 [(6, [some (.inr (.inr (.inl 226))), some (.inl (0, 9, none)), some (.inl (0, 2, none)), some (.inl (ck_one 0)), some (.inl (ck_one 0)), some (.inl (ck_one 0))], ([], [], [(227, 2, 9, ck_one 0)]), 100, .inl 4, true)] 114 p34x_385 = true := by decide +kernel
theorem p34x_385_s {X : Int → Int} {LX : Nat} : ck_Ok p1_O X LX 334 p34x_385 := ck_ok_s (ck_E1 (ck_S1 p34x_162_s ck_S0) ck_E0) ck_X0 ck_l0 p34x_385_e
set_option maxRecDepth 100000 in
def p34x_386 : ck_Sum := ((2, 0, 0), 245, [.inr (.inr (.inl 226)), .inl (ck_one 10), .inl (ck_one 1)], ([], [], [(227, 0, 0, ck_one 3), (243, 0, 5, ck_one 0), (227, 2, 9, ck_one 0), (226, 0, 0, ck_one 0)]), ([(226, 0, 0), (243, 0, 2)], []), [(.inr (some (.inl (ck_one 0))), 245, ([], [], [(226, 0, 0, ck_one 0), (243, 0, 5, ck_one 0)]))])
set_option maxRecDepth 100000 in
theorem p34x_386_e : ck_ok p1_O none [] [(287, [p34x_382]), (283, [p34x_161]), (333, [p34x_163]), (262, [p34x_164]), (267, [p34x_165]), (334, [p34x_385])] 360 [(36, [some (.inr (.inr (.inl 226))), some (.inl (ck_one 10)), some (.inl (ck_one 1)), some (.inl (0, 3, none)), none, none, none, none], ([], [], [(226, 0, 0, ck_one 0), (227, 0, 0, ck_one 3), (243, 0, 5, ck_one 0), (227, 2, 9, ck_one 0)]), 100, .inl 3, true), (57, [some (.inr (.inr (.inl 226))), some (.inl (ck_one 10)), some (.inl (ck_one 1)), some (.inl (0, 2, some (100, 0))), some (.inl (0, 10, none)), none, none, none], ([], [], [(226, 0, 0, ck_one 0), (227, 0, 0, ck_one 3), (227, 2, 9, ck_one 0), (243, 0, 5, ck_one 0)]), 300, .inl 4, true)] 1376 p34x_386 = true := by decide +kernel
theorem p34x_386_s {X : Int → Int} {LX : Nat} : ck_Ok p1_O X LX 360 p34x_386 := ck_ok_s (ck_E1 (ck_S1 p34x_382_s ck_S0) (ck_E1 (ck_S1 p34x_161_s ck_S0) (ck_E1 (ck_S1 p34x_163_s ck_S0) (ck_E1 (ck_S1 p34x_164_s ck_S0) (ck_E1 (ck_S1 p34x_165_s ck_S0) (ck_E1 (ck_S1 p34x_385_s ck_S0) ck_E0)))))) ck_X0 ck_l0 p34x_386_e
set_option maxRecDepth 100000 in
def p34x_389 : ck_Sum := ((2, 0, 0), 245, [.inr (.inr (.inl 226)), .inl (ck_one 10), .inl (ck_one 0)], ([], [], [(227, 0, 0, ck_one 3), (243, 0, 5, ck_one 0), (227, 2, 9, ck_one 0), (226, 0, 0, ck_one 0)]), ([(226, 0, 0), (243, 0, 2)], []), [(.inr (some (.inl (ck_one 0))), 245, ([], [], [(226, 0, 0, ck_one 0), (243, 0, 5, ck_one 0)]))])
set_option maxRecDepth 100000 in
theorem p34x_389_e : ck_ok p1_O none [] [(287, [p34x_382]), (283, [p34x_161]), (333, [p34x_163]), (262, [p34x_164]), (267, [p34x_165]), (334, [p34x_385])] 360 [(36, [some (.inr (.inr (.inl 226))), some (.inl (ck_one 10)), some (.inl (ck_one 0)), some (.inl (0, 3, none)), none, none, none, none], ([], [], [(226, 0, 0, ck_one 0), (227, 0, 0, ck_one 3), (243, 0, 5, ck_one 0), (227, 2, 9, ck_one 0)]), 100, .inl 3, true), (57, [some (.inr (.inr (.inl 226))), some (.inl (ck_one 10)), some (.inl (ck_one 0)), some (.inl (0, 2, some (100, 0))), some (.inl (0, 10, none)), none, none, none], ([], [], [(226, 0, 0, ck_one 0), (227, 0, 0, ck_one 3), (227, 2, 9, ck_one 0), (243, 0, 5, ck_one 0)]), 300, .inl 4, true)] 1370 p34x_389 = true := by decide +kernel
theorem p34x_389_s {X : Int → Int} {LX : Nat} : ck_Ok p1_O X LX 360 p34x_389 := ck_ok_s (ck_E1 (ck_S1 p34x_382_s ck_S0) (ck_E1 (ck_S1 p34x_161_s ck_S0) (ck_E1 (ck_S1 p34x_163_s ck_S0) (ck_E1 (ck_S1 p34x_164_s ck_S0) (ck_E1 (ck_S1 p34x_165_s ck_S0) (ck_E1 (ck_S1 p34x_385_s ck_S0) ck_E0)))))) ck_X0 ck_l0 p34x_389_e
set_option maxRecDepth 100000 in
def p34x_411 : ck_Sum := ((0, 0, 0), 245, [.inl (ck_one 11), .inl (ck_one 1), .inl (ck_one 30)], ([], [], []), ([], []), [(.inr (some (.inl (ck_one 1))), 245, ([], [], []))])
set_option maxRecDepth 100000 in
theorem p34x_411_e : ck_ok p1_O none [] [] 287 [] 88 p34x_411 = true := by decide +kernel
theorem p34x_411_s {X : Int → Int} {LX : Nat} : ck_Ok p1_O X LX 287 p34x_411 := ck_ok_s (ck_E0) ck_X0 ck_l0 p34x_411_e
set_option maxRecDepth 100000 in
def p34x_414 : ck_Sum := ((1, 0, 0), 245, [.inr (.inr (.inl 226)), .inl (0, 10, none), .inl (0, 2, none), .inl (ck_one 0)], ([], [], [(227, 2, 9, ck_one 0)]), ([], []), [(.inr (some (.inl (ck_one 0))), 245, ([], [], []))])
set_option maxRecDepth 100000 in
theorem p34x_414_e : ck_ok p1_O none [] [(255, [p34x_162])] 334 [(6, [some (.inr (.inr (.inl 226))), some (.inl (0, 10, none)), some (.inl (0, 2, none)), some (.inl (ck_one 0)), some (.inl (ck_one 0)), some (.inl (ck_one 0))], ([], [], [(227, 2, 9, ck_one 0)]), 100, .inl 4, true)] 114 p34x_414 = true := by decide +kernel
theorem p34x_414_s {X : Int → Int} {LX : Nat} : ck_Ok p1_O X LX 334 p34x_414 := ck_ok_s (ck_E1 (ck_S1 p34x_162_s ck_S0) ck_E0) ck_X0 ck_l0 p34x_414_e
set_option maxRecDepth 100000 in
def p34x_415 : ck_Sum := ((2, 0, 0), 245, [.inr (.inr (.inl 226)), .inl (ck_one 11), .inl (ck_one 1)], ([], [], [(227, 0, 0, ck_one 3), (243, 0, 5, ck_one 0), (227, 2, 9, ck_one 0), (226, 0, 0, ck_one 0)]), ([(226, 0, 0), (243, 0, 2)], []), [(.inr (some (.inl (ck_one 0))), 245, ([], [], [(226, 0, 0, ck_one 0), (243, 0, 5, ck_one 0)]))])
set_option maxRecDepth 100000 in
theorem p34x_415_e : ck_ok p1_O none [] [(287, [p34x_411]), (283, [p34x_161]), (333, [p34x_163]), (262, [p34x_164]), (267, [p34x_165]), (334, [p34x_414])] 360 [(36, [some (.inr (.inr (.inl 226))), some (.inl (ck_one 11)), some (.inl (ck_one 1)), some (.inl (0, 3, none)), none, none, none, none], ([], [], [(226, 0, 0, ck_one 0), (227, 0, 0, ck_one 3), (243, 0, 5, ck_one 0), (227, 2, 9, ck_one 0)]), 100, .inl 3, true), (57, [some (.inr (.inr (.inl 226))), some (.inl (ck_one 11)), some (.inl (ck_one 1)), some (.inl (0, 2, some (100, 0))), some (.inl (0, 11, none)), none, none, none], ([], [], [(226, 0, 0, ck_one 0), (227, 0, 0, ck_one 3), (227, 2, 9, ck_one 0), (243, 0, 5, ck_one 0)]), 300, .inl 4, true)] 1376 p34x_415 = true := by decide +kernel
theorem p34x_415_s {X : Int → Int} {LX : Nat} : ck_Ok p1_O X LX 360 p34x_415 := ck_ok_s (ck_E1 (ck_S1 p34x_411_s ck_S0) (ck_E1 (ck_S1 p34x_161_s ck_S0) (ck_E1 (ck_S1 p34x_163_s ck_S0) (ck_E1 (ck_S1 p34x_164_s ck_S0) (ck_E1 (ck_S1 p34x_165_s ck_S0) (ck_E1 (ck_S1 p34x_414_s ck_S0) ck_E0)))))) ck_X0 ck_l0 p34x_415_e
set_option maxRecDepth 100000 in
def p34x_418 : ck_Sum := ((2, 0, 0), 245, [.inr (.inr (.inl 226)), .inl (ck_one 11), .inl (ck_one 0)], ([], [], [(227, 0, 0, ck_one 3), (243, 0, 5, ck_one 0), (227, 2, 9, ck_one 0), (226, 0, 0, ck_one 0)]), ([(226, 0, 0), (243, 0, 2)], []), [(.inr (some (.inl (ck_one 0))), 245, ([], [], [(226, 0, 0, ck_one 0), (243, 0, 5, ck_one 0)]))])
set_option maxRecDepth 100000 in
theorem p34x_418_e : ck_ok p1_O none [] [(287, [p34x_411]), (283, [p34x_161]), (333, [p34x_163]), (262, [p34x_164]), (267, [p34x_165]), (334, [p34x_414])] 360 [(36, [some (.inr (.inr (.inl 226))), some (.inl (ck_one 11)), some (.inl (ck_one 0)), some (.inl (0, 3, none)), none, none, none, none], ([], [], [(226, 0, 0, ck_one 0), (227, 0, 0, ck_one 3), (243, 0, 5, ck_one 0), (227, 2, 9, ck_one 0)]), 100, .inl 3, true), (57, [some (.inr (.inr (.inl 226))), some (.inl (ck_one 11)), some (.inl (ck_one 0)), some (.inl (0, 2, some (100, 0))), some (.inl (0, 11, none)), none, none, none], ([], [], [(226, 0, 0, ck_one 0), (227, 0, 0, ck_one 3), (227, 2, 9, ck_one 0), (243, 0, 5, ck_one 0)]), 300, .inl 4, true)] 1370 p34x_418 = true := by decide +kernel
theorem p34x_418_s {X : Int → Int} {LX : Nat} : ck_Ok p1_O X LX 360 p34x_418 := ck_ok_s (ck_E1 (ck_S1 p34x_411_s ck_S0) (ck_E1 (ck_S1 p34x_161_s ck_S0) (ck_E1 (ck_S1 p34x_163_s ck_S0) (ck_E1 (ck_S1 p34x_164_s ck_S0) (ck_E1 (ck_S1 p34x_165_s ck_S0) (ck_E1 (ck_S1 p34x_414_s ck_S0) ck_E0)))))) ck_X0 ck_l0 p34x_418_e
set_option maxRecDepth 100000 in
def p34x_441 : ck_Sum := ((0, 0, 0), 245, [.inl (ck_one 12), .inl (ck_one 1), .inl (ck_one 30)], ([], [], []), ([], []), [(.inr (some (.inl (ck_one 1))), 245, ([], [], []))])
set_option maxRecDepth 100000 in
theorem p34x_441_e : ck_ok p1_O none [] [] 287 [] 88 p34x_441 = true := by decide +kernel
theorem p34x_441_s {X : Int → Int} {LX : Nat} : ck_Ok p1_O X LX 287 p34x_441 := ck_ok_s (ck_E0) ck_X0 ck_l0 p34x_441_e
set_option maxRecDepth 100000 in
def p34x_444 : ck_Sum := ((1, 0, 0), 245, [.inr (.inr (.inl 226)), .inl (0, 11, none), .inl (0, 2, none), .inl (ck_one 0)], ([], [], [(227, 2, 9, ck_one 0)]), ([], []), [(.inr (some (.inl (ck_one 0))), 245, ([], [], []))])
set_option maxRecDepth 100000 in
theorem p34x_444_e : ck_ok p1_O none [] [(255, [p34x_162])] 334 [(6, [some (.inr (.inr (.inl 226))), some (.inl (0, 11, none)), some (.inl (0, 2, none)), some (.inl (ck_one 0)), some (.inl (ck_one 0)), some (.inl (ck_one 0))], ([], [], [(227, 2, 9, ck_one 0)]), 100, .inl 4, true)] 114 p34x_444 = true := by decide +kernel
theorem p34x_444_s {X : Int → Int} {LX : Nat} : ck_Ok p1_O X LX 334 p34x_444 := ck_ok_s (ck_E1 (ck_S1 p34x_162_s ck_S0) ck_E0) ck_X0 ck_l0 p34x_444_e
set_option maxRecDepth 100000 in
def p34x_445 : ck_Sum := ((2, 0, 0), 245, [.inr (.inr (.inl 226)), .inl (ck_one 12), .inl (ck_one 1)], ([], [], [(227, 0, 0, ck_one 3), (243, 0, 5, ck_one 0), (227, 2, 9, ck_one 0), (226, 0, 0, ck_one 0)]), ([(226, 0, 0), (243, 0, 2)], []), [(.inr (some (.inl (ck_one 0))), 245, ([], [], [(226, 0, 0, ck_one 0), (243, 0, 5, ck_one 0)]))])
set_option maxRecDepth 100000 in
theorem p34x_445_e : ck_ok p1_O none [] [(287, [p34x_441]), (283, [p34x_161]), (333, [p34x_163]), (262, [p34x_164]), (267, [p34x_165]), (334, [p34x_444])] 360 [(36, [some (.inr (.inr (.inl 226))), some (.inl (ck_one 12)), some (.inl (ck_one 1)), some (.inl (0, 3, none)), none, none, none, none], ([], [], [(226, 0, 0, ck_one 0), (227, 0, 0, ck_one 3), (243, 0, 5, ck_one 0), (227, 2, 9, ck_one 0)]), 100, .inl 3, true), (57, [some (.inr (.inr (.inl 226))), some (.inl (ck_one 12)), some (.inl (ck_one 1)), some (.inl (0, 2, some (100, 0))), some (.inl (0, 12, none)), none, none, none], ([], [], [(226, 0, 0, ck_one 0), (227, 0, 0, ck_one 3), (227, 2, 9, ck_one 0), (243, 0, 5, ck_one 0)]), 300, .inl 4, true)] 1376 p34x_445 = true := by decide +kernel
theorem p34x_445_s {X : Int → Int} {LX : Nat} : ck_Ok p1_O X LX 360 p34x_445 := ck_ok_s (ck_E1 (ck_S1 p34x_441_s ck_S0) (ck_E1 (ck_S1 p34x_161_s ck_S0) (ck_E1 (ck_S1 p34x_163_s ck_S0) (ck_E1 (ck_S1 p34x_164_s ck_S0) (ck_E1 (ck_S1 p34x_165_s ck_S0) (ck_E1 (ck_S1 p34x_444_s ck_S0) ck_E0)))))) ck_X0 ck_l0 p34x_445_e
set_option maxRecDepth 100000 in
def p34x_448 : ck_Sum := ((2, 0, 0), 245, [.inr (.inr (.inl 226)), .inl (ck_one 12), .inl (ck_one 0)], ([], [], [(227, 0, 0, ck_one 3), (243, 0, 5, ck_one 0), (227, 2, 9, ck_one 0), (226, 0, 0, ck_one 0)]), ([(226, 0, 0), (243, 0, 2)], []), [(.inr (some (.inl (ck_one 0))), 245, ([], [], [(226, 0, 0, ck_one 0), (243, 0, 5, ck_one 0)]))])
set_option maxRecDepth 100000 in
theorem p34x_448_e : ck_ok p1_O none [] [(287, [p34x_441]), (283, [p34x_161]), (333, [p34x_163]), (262, [p34x_164]), (267, [p34x_165]), (334, [p34x_444])] 360 [(36, [some (.inr (.inr (.inl 226))), some (.inl (ck_one 12)), some (.inl (ck_one 0)), some (.inl (0, 3, none)), none, none, none, none], ([], [], [(226, 0, 0, ck_one 0), (227, 0, 0, ck_one 3), (243, 0, 5, ck_one 0), (227, 2, 9, ck_one 0)]), 100, .inl 3, true), (57, [some (.inr (.inr (.inl 226))), some (.inl (ck_one 12)), some (.inl (ck_one 0)), some (.inl (0, 2, some (100, 0))), some (.inl (0, 12, none)), none, none, none], ([], [], [(226, 0, 0, ck_one 0), (227, 0, 0, ck_one 3), (227, 2, 9, ck_one 0), (243, 0, 5, ck_one 0)]), 300, .inl 4, true)] 1370 p34x_448 = true := by decide +kernel
theorem p34x_448_s {X : Int → Int} {LX : Nat} : ck_Ok p1_O X LX 360 p34x_448 := ck_ok_s (ck_E1 (ck_S1 p34x_441_s ck_S0) (ck_E1 (ck_S1 p34x_161_s ck_S0) (ck_E1 (ck_S1 p34x_163_s ck_S0) (ck_E1 (ck_S1 p34x_164_s ck_S0) (ck_E1 (ck_S1 p34x_165_s ck_S0) (ck_E1 (ck_S1 p34x_444_s ck_S0) ck_E0)))))) ck_X0 ck_l0 p34x_448_e
set_option maxRecDepth 100000 in
def p34x_472 : ck_Sum := ((0, 0, 0), 245, [.inl (ck_one 13), .inl (ck_one 1), .inl (ck_one 30)], ([], [], []), ([], []), [(.inr (some (.inl (ck_one 1))), 245, ([], [], []))])
set_option maxRecDepth 100000 in
theorem p34x_472_e : ck_ok p1_O none [] [] 287 [] 88 p34x_472 = true := by decide +kernel
theorem p34x_472_s {X : Int → Int} {LX : Nat} : ck_Ok p1_O X LX 287 p34x_472 := ck_ok_s (ck_E0) ck_X0 ck_l0 p34x_472_e
set_option maxRecDepth 100000 in
def p34x_475 : ck_Sum := ((1, 0, 0), 245, [.inr (.inr (.inl 226)), .inl (0, 12, none), .inl (0, 2, none), .inl (ck_one 0)], ([], [], [(227, 2, 9, ck_one 0)]), ([], []), [(.inr (some (.inl (ck_one 0))), 245, ([], [], []))])
set_option maxRecDepth 100000 in
theorem p34x_475_e : ck_ok p1_O none [] [(255, [p34x_162])] 334 [(6, [some (.inr (.inr (.inl 226))), some (.inl (0, 12, none)), some (.inl (0, 2, none)), some (.inl (ck_one 0)), some (.inl (ck_one 0)), some (.inl (ck_one 0))], ([], [], [(227, 2, 9, ck_one 0)]), 100, .inl 4, true)] 114 p34x_475 = true := by decide +kernel
theorem p34x_475_s {X : Int → Int} {LX : Nat} : ck_Ok p1_O X LX 334 p34x_475 := ck_ok_s (ck_E1 (ck_S1 p34x_162_s ck_S0) ck_E0) ck_X0 ck_l0 p34x_475_e
set_option maxRecDepth 100000 in
def p34x_476 : ck_Sum := ((2, 0, 0), 245, [.inr (.inr (.inl 226)), .inl (ck_one 13), .inl (ck_one 1)], ([], [], [(227, 0, 0, ck_one 3), (243, 0, 5, ck_one 0), (227, 2, 9, ck_one 0), (226, 0, 0, ck_one 0)]), ([(226, 0, 0), (243, 0, 2)], []), [(.inr (some (.inl (ck_one 0))), 245, ([], [], [(226, 0, 0, ck_one 0), (243, 0, 5, ck_one 0)]))])
set_option maxRecDepth 100000 in
theorem p34x_476_e : ck_ok p1_O none [] [(287, [p34x_472]), (283, [p34x_161]), (333, [p34x_163]), (262, [p34x_164]), (267, [p34x_165]), (334, [p34x_475])] 360 [(36, [some (.inr (.inr (.inl 226))), some (.inl (ck_one 13)), some (.inl (ck_one 1)), some (.inl (0, 3, none)), none, none, none, none], ([], [], [(226, 0, 0, ck_one 0), (227, 0, 0, ck_one 3), (243, 0, 5, ck_one 0), (227, 2, 9, ck_one 0)]), 100, .inl 3, true), (57, [some (.inr (.inr (.inl 226))), some (.inl (ck_one 13)), some (.inl (ck_one 1)), some (.inl (0, 2, some (100, 0))), some (.inl (0, 13, none)), none, none, none], ([], [], [(226, 0, 0, ck_one 0), (227, 0, 0, ck_one 3), (227, 2, 9, ck_one 0), (243, 0, 5, ck_one 0)]), 300, .inl 4, true)] 1376 p34x_476 = true := by decide +kernel
theorem p34x_476_s {X : Int → Int} {LX : Nat} : ck_Ok p1_O X LX 360 p34x_476 := ck_ok_s (ck_E1 (ck_S1 p34x_472_s ck_S0) (ck_E1 (ck_S1 p34x_161_s ck_S0) (ck_E1 (ck_S1 p34x_163_s ck_S0) (ck_E1 (ck_S1 p34x_164_s ck_S0) (ck_E1 (ck_S1 p34x_165_s ck_S0) (ck_E1 (ck_S1 p34x_475_s ck_S0) ck_E0)))))) ck_X0 ck_l0 p34x_476_e
set_option maxRecDepth 100000 in
def p34x_479 : ck_Sum := ((2, 0, 0), 245, [.inr (.inr (.inl 226)), .inl (ck_one 13), .inl (ck_one 0)], ([], [], [(227, 0, 0, ck_one 3), (243, 0, 5, ck_one 0), (227, 2, 9, ck_one 0), (226, 0, 0, ck_one 0)]), ([(226, 0, 0), (243, 0, 2)], []), [(.inr (some (.inl (ck_one 0))), 245, ([], [], [(226, 0, 0, ck_one 0), (243, 0, 5, ck_one 0)]))])
set_option maxRecDepth 100000 in
theorem p34x_479_e : ck_ok p1_O none [] [(287, [p34x_472]), (283, [p34x_161]), (333, [p34x_163]), (262, [p34x_164]), (267, [p34x_165]), (334, [p34x_475])] 360 [(36, [some (.inr (.inr (.inl 226))), some (.inl (ck_one 13)), some (.inl (ck_one 0)), some (.inl (0, 3, none)), none, none, none, none], ([], [], [(226, 0, 0, ck_one 0), (227, 0, 0, ck_one 3), (243, 0, 5, ck_one 0), (227, 2, 9, ck_one 0)]), 100, .inl 3, true), (57, [some (.inr (.inr (.inl 226))), some (.inl (ck_one 13)), some (.inl (ck_one 0)), some (.inl (0, 2, some (100, 0))), some (.inl (0, 13, none)), none, none, none], ([], [], [(226, 0, 0, ck_one 0), (227, 0, 0, ck_one 3), (227, 2, 9, ck_one 0), (243, 0, 5, ck_one 0)]), 300, .inl 4, true)] 1370 p34x_479 = true := by decide +kernel
theorem p34x_479_s {X : Int → Int} {LX : Nat} : ck_Ok p1_O X LX 360 p34x_479 := ck_ok_s (ck_E1 (ck_S1 p34x_472_s ck_S0) (ck_E1 (ck_S1 p34x_161_s ck_S0) (ck_E1 (ck_S1 p34x_163_s ck_S0) (ck_E1 (ck_S1 p34x_164_s ck_S0) (ck_E1 (ck_S1 p34x_165_s ck_S0) (ck_E1 (ck_S1 p34x_475_s ck_S0) ck_E0)))))) ck_X0 ck_l0 p34x_479_e
set_option maxRecDepth 100000 in
def p34x_504 : ck_Sum := ((0, 0, 0), 245, [.inl (ck_one 14), .inl (ck_one 1), .inl (ck_one 30)], ([], [], []), ([], []), [(.inr (some (.inl (ck_one 1))), 245, ([], [], []))])
set_option maxRecDepth 100000 in
theorem p34x_504_e : ck_ok p1_O none [] [] 287 [] 88 p34x_504 = true := by decide +kernel
theorem p34x_504_s {X : Int → Int} {LX : Nat} : ck_Ok p1_O X LX 287 p34x_504 := ck_ok_s (ck_E0) ck_X0 ck_l0 p34x_504_e
set_option maxRecDepth 100000 in
def p34x_507 : ck_Sum := ((1, 0, 0), 245, [.inr (.inr (.inl 226)), .inl (0, 13, none), .inl (0, 2, none), .inl (ck_one 0)], ([], [], [(227, 2, 9, ck_one 0)]), ([], []), [(.inr (some (.inl (ck_one 0))), 245, ([], [], []))])
set_option maxRecDepth 100000 in
theorem p34x_507_e : ck_ok p1_O none [] [(255, [p34x_162])] 334 [(6, [some (.inr (.inr (.inl 226))), some (.inl (0, 13, none)), some (.inl (0, 2, none)), some (.inl (ck_one 0)), some (.inl (ck_one 0)), some (.inl (ck_one 0))], ([], [], [(227, 2, 9, ck_one 0)]), 100, .inl 4, true)] 114 p34x_507 = true := by decide +kernel
theorem p34x_507_s {X : Int → Int} {LX : Nat} : ck_Ok p1_O X LX 334 p34x_507 := ck_ok_s (ck_E1 (ck_S1 p34x_162_s ck_S0) ck_E0) ck_X0 ck_l0 p34x_507_e
set_option maxRecDepth 100000 in
def p34x_508 : ck_Sum := ((2, 0, 0), 245, [.inr (.inr (.inl 226)), .inl (ck_one 14), .inl (ck_one 1)], ([], [], [(227, 0, 0, ck_one 3), (243, 0, 5, ck_one 0), (227, 2, 9, ck_one 0), (226, 0, 0, ck_one 0)]), ([(226, 0, 0), (243, 0, 2)], []), [(.inr (some (.inl (ck_one 0))), 245, ([], [], [(226, 0, 0, ck_one 0), (243, 0, 5, ck_one 0)]))])
set_option maxRecDepth 100000 in
theorem p34x_508_e : ck_ok p1_O none [] [(287, [p34x_504]), (283, [p34x_161]), (333, [p34x_163]), (262, [p34x_164]), (267, [p34x_165]), (334, [p34x_507])] 360 [(36, [some (.inr (.inr (.inl 226))), some (.inl (ck_one 14)), some (.inl (ck_one 1)), some (.inl (0, 3, none)), none, none, none, none], ([], [], [(226, 0, 0, ck_one 0), (227, 0, 0, ck_one 3), (243, 0, 5, ck_one 0), (227, 2, 9, ck_one 0)]), 100, .inl 3, true), (57, [some (.inr (.inr (.inl 226))), some (.inl (ck_one 14)), some (.inl (ck_one 1)), some (.inl (0, 2, some (100, 0))), some (.inl (0, 14, none)), none, none, none], ([], [], [(226, 0, 0, ck_one 0), (227, 0, 0, ck_one 3), (227, 2, 9, ck_one 0), (243, 0, 5, ck_one 0)]), 300, .inl 4, true)] 1376 p34x_508 = true := by decide +kernel
theorem p34x_508_s {X : Int → Int} {LX : Nat} : ck_Ok p1_O X LX 360 p34x_508 := ck_ok_s (ck_E1 (ck_S1 p34x_504_s ck_S0) (ck_E1 (ck_S1 p34x_161_s ck_S0) (ck_E1 (ck_S1 p34x_163_s ck_S0) (ck_E1 (ck_S1 p34x_164_s ck_S0) (ck_E1 (ck_S1 p34x_165_s ck_S0) (ck_E1 (ck_S1 p34x_507_s ck_S0) ck_E0)))))) ck_X0 ck_l0 p34x_508_e
set_option maxRecDepth 100000 in
def p34x_511 : ck_Sum := ((2, 0, 0), 245, [.inr (.inr (.inl 226)), .inl (ck_one 14), .inl (ck_one 0)], ([], [], [(227, 0, 0, ck_one 3), (243, 0, 5, ck_one 0), (227, 2, 9, ck_one 0), (226, 0, 0, ck_one 0)]), ([(226, 0, 0), (243, 0, 2)], []), [(.inr (some (.inl (ck_one 0))), 245, ([], [], [(226, 0, 0, ck_one 0), (243, 0, 5, ck_one 0)]))])
set_option maxRecDepth 100000 in
theorem p34x_511_e : ck_ok p1_O none [] [(287, [p34x_504]), (283, [p34x_161]), (333, [p34x_163]), (262, [p34x_164]), (267, [p34x_165]), (334, [p34x_507])] 360 [(36, [some (.inr (.inr (.inl 226))), some (.inl (ck_one 14)), some (.inl (ck_one 0)), some (.inl (0, 3, none)), none, none, none, none], ([], [], [(226, 0, 0, ck_one 0), (227, 0, 0, ck_one 3), (243, 0, 5, ck_one 0), (227, 2, 9, ck_one 0)]), 100, .inl 3, true), (57, [some (.inr (.inr (.inl 226))), some (.inl (ck_one 14)), some (.inl (ck_one 0)), some (.inl (0, 2, some (100, 0))), some (.inl (0, 14, none)), none, none, none], ([], [], [(226, 0, 0, ck_one 0), (227, 0, 0, ck_one 3), (227, 2, 9, ck_one 0), (243, 0, 5, ck_one 0)]), 300, .inl 4, true)] 1370 p34x_511 = true := by decide +kernel
theorem p34x_511_s {X : Int → Int} {LX : Nat} : ck_Ok p1_O X LX 360 p34x_511 := ck_ok_s (ck_E1 (ck_S1 p34x_504_s ck_S0) (ck_E1 (ck_S1 p34x_161_s ck_S0) (ck_E1 (ck_S1 p34x_163_s ck_S0) (ck_E1 (ck_S1 p34x_164_s ck_S0) (ck_E1 (ck_S1 p34x_165_s ck_S0) (ck_E1 (ck_S1 p34x_507_s ck_S0) ck_E0)))))) ck_X0 ck_l0 p34x_511_e
set_option maxRecDepth 100000 in
def p34x_537 : ck_Sum := ((0, 0, 0), 245, [.inl (ck_one 15), .inl (ck_one 1), .inl (ck_one 30)], ([], [], []), ([], []), [(.inr (some (.inl (ck_one 1))), 245, ([], [], []))])
set_option maxRecDepth 100000 in
theorem p34x_537_e : ck_ok p1_O none [] [] 287 [] 88 p34x_537 = true := by decide +kernel
theorem p34x_537_s {X : Int → Int} {LX : Nat} : ck_Ok p1_O X LX 287 p34x_537 := ck_ok_s (ck_E0) ck_X0 ck_l0 p34x_537_e
set_option maxRecDepth 100000 in
def p34x_540 : ck_Sum := ((1, 0, 0), 245, [.inr (.inr (.inl 226)), .inl (0, 14, none), .inl (0, 2, none), .inl (ck_one 0)], ([], [], [(227, 2, 9, ck_one 0)]), ([], []), [(.inr (some (.inl (ck_one 0))), 245, ([], [], []))])
set_option maxRecDepth 100000 in
theorem p34x_540_e : ck_ok p1_O none [] [(255, [p34x_162])] 334 [(6, [some (.inr (.inr (.inl 226))), some (.inl (0, 14, none)), some (.inl (0, 2, none)), some (.inl (ck_one 0)), some (.inl (ck_one 0)), some (.inl (ck_one 0))], ([], [], [(227, 2, 9, ck_one 0)]), 100, .inl 4, true)] 114 p34x_540 = true := by decide +kernel
theorem p34x_540_s {X : Int → Int} {LX : Nat} : ck_Ok p1_O X LX 334 p34x_540 := ck_ok_s (ck_E1 (ck_S1 p34x_162_s ck_S0) ck_E0) ck_X0 ck_l0 p34x_540_e
set_option maxRecDepth 100000 in
def p34x_541 : ck_Sum := ((2, 0, 0), 245, [.inr (.inr (.inl 226)), .inl (ck_one 15), .inl (ck_one 1)], ([], [], [(227, 0, 0, ck_one 3), (243, 0, 5, ck_one 0), (227, 2, 9, ck_one 0), (226, 0, 0, ck_one 0)]), ([(226, 0, 0), (243, 0, 2)], []), [(.inr (some (.inl (ck_one 0))), 245, ([], [], [(226, 0, 0, ck_one 0), (243, 0, 5, ck_one 0)]))])
set_option maxRecDepth 100000 in
theorem p34x_541_e : ck_ok p1_O none [] [(287, [p34x_537]), (283, [p34x_161]), (333, [p34x_163]), (262, [p34x_164]), (267, [p34x_165]), (334, [p34x_540])] 360 [(36, [some (.inr (.inr (.inl 226))), some (.inl (ck_one 15)), some (.inl (ck_one 1)), some (.inl (0, 3, none)), none, none, none, none], ([], [], [(226, 0, 0, ck_one 0), (227, 0, 0, ck_one 3), (243, 0, 5, ck_one 0), (227, 2, 9, ck_one 0)]), 100, .inl 3, true), (57, [some (.inr (.inr (.inl 226))), some (.inl (ck_one 15)), some (.inl (ck_one 1)), some (.inl (0, 2, some (100, 0))), some (.inl (0, 15, none)), none, none, none], ([], [], [(226, 0, 0, ck_one 0), (227, 0, 0, ck_one 3), (227, 2, 9, ck_one 0), (243, 0, 5, ck_one 0)]), 300, .inl 4, true)] 1376 p34x_541 = true := by decide +kernel
theorem p34x_541_s {X : Int → Int} {LX : Nat} : ck_Ok p1_O X LX 360 p34x_541 := ck_ok_s (ck_E1 (ck_S1 p34x_537_s ck_S0) (ck_E1 (ck_S1 p34x_161_s ck_S0) (ck_E1 (ck_S1 p34x_163_s ck_S0) (ck_E1 (ck_S1 p34x_164_s ck_S0) (ck_E1 (ck_S1 p34x_165_s ck_S0) (ck_E1 (ck_S1 p34x_540_s ck_S0) ck_E0)))))) ck_X0 ck_l0 p34x_541_e
set_option maxRecDepth 100000 in
def p34x_544 : ck_Sum := ((2, 0, 0), 245, [.inr (.inr (.inl 226)), .inl (ck_one 15), .inl (ck_one 0)], ([], [], [(227, 0, 0, ck_one 3), (243, 0, 5, ck_one 0), (227, 2, 9, ck_one 0), (226, 0, 0, ck_one 0)]), ([(226, 0, 0), (243, 0, 2)], []), [(.inr (some (.inl (ck_one 0))), 245, ([], [], [(226, 0, 0, ck_one 0), (243, 0, 5, ck_one 0)]))])
set_option maxRecDepth 100000 in
theorem p34x_544_e : ck_ok p1_O none [] [(287, [p34x_537]), (283, [p34x_161]), (333, [p34x_163]), (262, [p34x_164]), (267, [p34x_165]), (334, [p34x_540])] 360 [(36, [some (.inr (.inr (.inl 226))), some (.inl (ck_one 15)), some (.inl (ck_one 0)), some (.inl (0, 3, none)), none, none, none, none], ([], [], [(226, 0, 0, ck_one 0), (227, 0, 0, ck_one 3), (243, 0, 5, ck_one 0), (227, 2, 9, ck_one 0)]), 100, .inl 3, true), (57, [some (.inr (.inr (.inl 226))), some (.inl (ck_one 15)), some (.inl (ck_one 0)), some (.inl (0, 2, some (100, 0))), some (.inl (0, 15, none)), none, none, none], ([], [], [(226, 0, 0, ck_one 0), (227, 0, 0, ck_one 3), (227, 2, 9, ck_one 0), (243, 0, 5, ck_one 0)]), 300, .inl 4, true)] 1370 p34x_544 = true := by decide +kernel
theorem p34x_544_s {X : Int → Int} {LX : Nat} : ck_Ok p1_O X LX 360 p34x_544 := ck_ok_s (ck_E1 (ck_S1 p34x_537_s ck_S0) (ck_E1 (ck_S1 p34x_161_s ck_S0) (ck_E1 (ck_S1 p34x_163_s ck_S0) (ck_E1 (ck_S1 p34x_164_s ck_S0) (ck_E1 (ck_S1 p34x_165_s ck_S0) (ck_E1 (ck_S1 p34x_540_s ck_S0) ck_E0)))))) ck_X0 ck_l0 p34x_544_e
set_option maxRecDepth 100000 in
def p34x_571 : ck_Sum := ((0, 0, 0), 245, [.inl (ck_one 16), .inl (ck_one 1), .inl (ck_one 30)], ([], [], []), ([], []), [(.inr (some (.inl (ck_one 1))), 245, ([], [], []))])
set_option maxRecDepth 100000 in
theorem p34x_571_e : ck_ok p1_O none [] [] 287 [] 88 p34x_571 = true := by decide +kernel
theorem p34x_571_s {X : Int → Int} {LX : Nat} : ck_Ok p1_O X LX 287 p34x_571 := ck_ok_s (ck_E0) ck_X0 ck_l0 p34x_571_e
set_option maxRecDepth 100000 in
def p34x_574 : ck_Sum := ((1, 0, 0), 245, [.inr (.inr (.inl 226)), .inl (0, 15, none), .inl (0, 2, none), .inl (ck_one 0)], ([], [], [(227, 2, 9, ck_one 0)]), ([], []), [(.inr (some (.inl (ck_one 0))), 245, ([], [], []))])
set_option maxRecDepth 100000 in
theorem p34x_574_e : ck_ok p1_O none [] [(255, [p34x_162])] 334 [(6, [some (.inr (.inr (.inl 226))), some (.inl (0, 15, none)), some (.inl (0, 2, none)), some (.inl (ck_one 0)), some (.inl (ck_one 0)), some (.inl (ck_one 0))], ([], [], [(227, 2, 9, ck_one 0)]), 100, .inl 4, true)] 114 p34x_574 = true := by decide +kernel
theorem p34x_574_s {X : Int → Int} {LX : Nat} : ck_Ok p1_O X LX 334 p34x_574 := ck_ok_s (ck_E1 (ck_S1 p34x_162_s ck_S0) ck_E0) ck_X0 ck_l0 p34x_574_e
set_option maxRecDepth 100000 in
def p34x_575 : ck_Sum := ((2, 0, 0), 245, [.inr (.inr (.inl 226)), .inl (ck_one 16), .inl (ck_one 1)], ([], [], [(227, 0, 0, ck_one 3), (243, 0, 5, ck_one 0), (227, 2, 9, ck_one 0), (226, 0, 0, ck_one 0)]), ([(226, 0, 0), (243, 0, 2)], []), [(.inr (some (.inl (ck_one 0))), 245, ([], [], [(226, 0, 0, ck_one 0), (243, 0, 5, ck_one 0)]))])
set_option maxRecDepth 100000 in
theorem p34x_575_e : ck_ok p1_O none [] [(287, [p34x_571]), (283, [p34x_161]), (333, [p34x_163]), (262, [p34x_164]), (267, [p34x_165]), (334, [p34x_574])] 360 [(36, [some (.inr (.inr (.inl 226))), some (.inl (ck_one 16)), some (.inl (ck_one 1)), some (.inl (0, 3, none)), none, none, none, none], ([], [], [(226, 0, 0, ck_one 0), (227, 0, 0, ck_one 3), (243, 0, 5, ck_one 0), (227, 2, 9, ck_one 0)]), 100, .inl 3, true), (57, [some (.inr (.inr (.inl 226))), some (.inl (ck_one 16)), some (.inl (ck_one 1)), some (.inl (0, 2, some (100, 0))), some (.inl (0, 16, none)), none, none, none], ([], [], [(226, 0, 0, ck_one 0), (227, 0, 0, ck_one 3), (227, 2, 9, ck_one 0), (243, 0, 5, ck_one 0)]), 300, .inl 4, true)] 1376 p34x_575 = true := by decide +kernel
theorem p34x_575_s {X : Int → Int} {LX : Nat} : ck_Ok p1_O X LX 360 p34x_575 := ck_ok_s (ck_E1 (ck_S1 p34x_571_s ck_S0) (ck_E1 (ck_S1 p34x_161_s ck_S0) (ck_E1 (ck_S1 p34x_163_s ck_S0) (ck_E1 (ck_S1 p34x_164_s ck_S0) (ck_E1 (ck_S1 p34x_165_s ck_S0) (ck_E1 (ck_S1 p34x_574_s ck_S0) ck_E0)))))) ck_X0 ck_l0 p34x_575_e
set_option maxRecDepth 100000 in
def p34x_578 : ck_Sum := ((2, 0, 0), 245, [.inr (.inr (.inl 226)), .inl (ck_one 16), .inl (ck_one 0)], ([], [], [(227, 0, 0, ck_one 3), (243, 0, 5, ck_one 0), (227, 2, 9, ck_one 0), (226, 0, 0, ck_one 0)]), ([(226, 0, 0), (243, 0, 2)], []), [(.inr (some (.inl (ck_one 0))), 245, ([], [], [(226, 0, 0, ck_one 0), (243, 0, 5, ck_one 0)]))])
set_option maxRecDepth 100000 in
theorem p34x_578_e : ck_ok p1_O none [] [(287, [p34x_571]), (283, [p34x_161]), (333, [p34x_163]), (262, [p34x_164]), (267, [p34x_165]), (334, [p34x_574])] 360 [(36, [some (.inr (.inr (.inl 226))), some (.inl (ck_one 16)), some (.inl (ck_one 0)), some (.inl (0, 3, none)), none, none, none, none], ([], [], [(226, 0, 0, ck_one 0), (227, 0, 0, ck_one 3), (243, 0, 5, ck_one 0), (227, 2, 9, ck_one 0)]), 100, .inl 3, true), (57, [some (.inr (.inr (.inl 226))), some (.inl (ck_one 16)), some (.inl (ck_one 0)), some (.inl (0, 2, some (100, 0))), some (.inl (0, 16, none)), none, none, none], ([], [], [(226, 0, 0, ck_one 0), (227, 0, 0, ck_one 3), (227, 2, 9, ck_one 0), (243, 0, 5, ck_one 0)]), 300, .inl 4, true)] 1370 p34x_578 = true := by decide +kernel
theorem p34x_578_s {X : Int → Int} {LX : Nat} : ck_Ok p1_O X LX 360 p34x_578 := ck_ok_s (ck_E1 (ck_S1 p34x_571_s ck_S0) (ck_E1 (ck_S1 p34x_161_s ck_S0) (ck_E1 (ck_S1 p34x_163_s ck_S0) (ck_E1 (ck_S1 p34x_164_s ck_S0) (ck_E1 (ck_S1 p34x_165_s ck_S0) (ck_E1 (ck_S1 p34x_574_s ck_S0) ck_E0)))))) ck_X0 ck_l0 p34x_578_e
set_option maxRecDepth 100000 in
def p34x_606 : ck_Sum := ((0, 0, 0), 245, [.inl (ck_one 17), .inl (ck_one 1), .inl (ck_one 30)], ([], [], []), ([], []), [(.inr (some (.inl (ck_one 1))), 245, ([], [], []))])
set_option maxRecDepth 100000 in
theorem p34x_606_e : ck_ok p1_O none [] [] 287 [] 88 p34x_606 = true := by decide +kernel
theorem p34x_606_s {X : Int → Int} {LX : Nat} : ck_Ok p1_O X LX 287 p34x_606 := ck_ok_s (ck_E0) ck_X0 ck_l0 p34x_606_e
set_option maxRecDepth 100000 in
def p34x_609 : ck_Sum := ((1, 0, 0), 245, [.inr (.inr (.inl 226)), .inl (0, 16, none), .inl (0, 2, none), .inl (ck_one 0)], ([], [], [(227, 2, 9, ck_one 0)]), ([], []), [(.inr (some (.inl (ck_one 0))), 245, ([], [], []))])
set_option maxRecDepth 100000 in
theorem p34x_609_e : ck_ok p1_O none [] [(255, [p34x_162])] 334 [(6, [some (.inr (.inr (.inl 226))), some (.inl (0, 16, none)), some (.inl (0, 2, none)), some (.inl (ck_one 0)), some (.inl (ck_one 0)), some (.inl (ck_one 0))], ([], [], [(227, 2, 9, ck_one 0)]), 100, .inl 4, true)] 114 p34x_609 = true := by decide +kernel
theorem p34x_609_s {X : Int → Int} {LX : Nat} : ck_Ok p1_O X LX 334 p34x_609 := ck_ok_s (ck_E1 (ck_S1 p34x_162_s ck_S0) ck_E0) ck_X0 ck_l0 p34x_609_e
set_option maxRecDepth 100000 in
def p34x_610 : ck_Sum := ((2, 0, 0), 245, [.inr (.inr (.inl 226)), .inl (ck_one 17), .inl (ck_one 1)], ([], [], [(227, 0, 0, ck_one 3), (243, 0, 5, ck_one 0), (227, 2, 9, ck_one 0), (226, 0, 0, ck_one 0)]), ([(226, 0, 0), (243, 0, 2)], []), [(.inr (some (.inl (ck_one 0))), 245, ([], [], [(226, 0, 0, ck_one 0), (243, 0, 5, ck_one 0)]))])
set_option maxRecDepth 100000 in
theorem p34x_610_e : ck_ok p1_O none [] [(287, [p34x_606]), (283, [p34x_161]), (333, [p34x_163]), (262, [p34x_164]), (267, [p34x_165]), (334, [p34x_609])] 360 [(36, [some (.inr (.inr (.inl 226))), some (.inl (ck_one 17)), some (.inl (ck_one 1)), some (.inl (0, 3, none)), none, none, none, none], ([], [], [(226, 0, 0, ck_one 0), (227, 0, 0, ck_one 3), (243, 0, 5, ck_one 0), (227, 2, 9, ck_one 0)]), 100, .inl 3, true), (57, [some (.inr (.inr (.inl 226))), some (.inl (ck_one 17)), some (.inl (ck_one 1)), some (.inl (0, 2, some (100, 0))), some (.inl (0, 17, none)), none, none, none], ([], [], [(226, 0, 0, ck_one 0), (227, 0, 0, ck_one 3), (227, 2, 9, ck_one 0), (243, 0, 5, ck_one 0)]), 300, .inl 4, true)] 1376 p34x_610 = true := by decide +kernel
theorem p34x_610_s {X : Int → Int} {LX : Nat} : ck_Ok p1_O X LX 360 p34x_610 := ck_ok_s (ck_E1 (ck_S1 p34x_606_s ck_S0) (ck_E1 (ck_S1 p34x_161_s ck_S0) (ck_E1 (ck_S1 p34x_163_s ck_S0) (ck_E1 (ck_S1 p34x_164_s ck_S0) (ck_E1 (ck_S1 p34x_165_s ck_S0) (ck_E1 (ck_S1 p34x_609_s ck_S0) ck_E0)))))) ck_X0 ck_l0 p34x_610_e
set_option maxRecDepth 100000 in
def p34x_613 : ck_Sum := ((2, 0, 0), 245, [.inr (.inr (.inl 226)), .inl (ck_one 17), .inl (ck_one 0)], ([], [], [(227, 0, 0, ck_one 3), (243, 0, 5, ck_one 0), (227, 2, 9, ck_one 0), (226, 0, 0, ck_one 0)]), ([(226, 0, 0), (243, 0, 2)], []), [(.inr (some (.inl (ck_one 0))), 245, ([], [], [(226, 0, 0, ck_one 0), (243, 0, 5, ck_one 0)]))])
set_option maxRecDepth 100000 in
theorem p34x_613_e : ck_ok p1_O none [] [(287, [p34x_606]), (283, [p34x_161]), (333, [p34x_163]), (262, [p34x_164]), (267, [p34x_165]), (334, [p34x_609])] 360 [(36, [some (.inr (.inr (.inl 226))), some (.inl (ck_one 17)), some (.inl (ck_one 0)), some (.inl (0, 3, none)), none, none, none, none], ([], [], [(226, 0, 0, ck_one 0), (227, 0, 0, ck_one 3), (243, 0, 5, ck_one 0), (227, 2, 9, ck_one 0)]), 100, .inl 3, true), (57, [some (.inr (.inr (.inl 226))), some (.inl (ck_one 17)), some (.inl (ck_one 0)), some (.inl (0, 2, some (100, 0))), some (.inl (0, 17, none)), none, none, none], ([], [], [(226, 0, 0, ck_one 0), (227, 0, 0, ck_one 3), (227, 2, 9, ck_one 0), (243, 0, 5, ck_one 0)]), 300, .inl 4, true)] 1370 p34x_613 = true := by decide +kernel
theorem p34x_613_s {X : Int → Int} {LX : Nat} : ck_Ok p1_O X LX 360 p34x_613 := ck_ok_s (ck_E1 (ck_S1 p34x_606_s ck_S0) (ck_E1 (ck_S1 p34x_161_s ck_S0) (ck_E1 (ck_S1 p34x_163_s ck_S0) (ck_E1 (ck_S1 p34x_164_s ck_S0) (ck_E1 (ck_S1 p34x_165_s ck_S0) (ck_E1 (ck_S1 p34x_609_s ck_S0) ck_E0)))))) ck_X0 ck_l0 p34x_613_e
set_option maxRecDepth 100000 in
def p34x_641 : ck_Sum := ((0, 0, 0), 245, [.inl (ck_one 18), .inl (ck_one 1), .inl (ck_one 30)], ([], [], []), ([], []), [(.inr (some (.inl (ck_one 1))), 245, ([], [], []))])
set_option maxRecDepth 100000 in
theorem p34x_641_e : ck_ok p1_O none [] [] 287 [] 88 p34x_641 = true := by decide +kernel
theorem p34x_641_s {X : Int → Int} {LX : Nat} : ck_Ok p1_O X LX 287 p34x_641 := ck_ok_s (ck_E0) ck_X0 ck_l0 p34x_641_e
set_option maxRecDepth 100000 in
def p34x_644 : ck_Sum := ((1, 0, 0), 245, [.inr (.inr (.inl 226)), .inl (0, 17, none), .inl (0, 2, none), .inl (ck_one 0)], ([], [], [(227, 2, 9, ck_one 0)]), ([], []), [(.inr (some (.inl (ck_one 0))), 245, ([], [], []))])
set_option maxRecDepth 100000 in
theorem p34x_644_e : ck_ok p1_O none [] [(255, [p34x_162])] 334 [(6, [some (.inr (.inr (.inl 226))), some (.inl (0, 17, none)), some (.inl (0, 2, none)), some (.inl (ck_one 0)), some (.inl (ck_one 0)), some (.inl (ck_one 0))], ([], [], [(227, 2, 9, ck_one 0)]), 100, .inl 4, true)] 114 p34x_644 = true := by decide +kernel
theorem p34x_644_s {X : Int → Int} {LX : Nat} : ck_Ok p1_O X LX 334 p34x_644 := ck_ok_s (ck_E1 (ck_S1 p34x_162_s ck_S0) ck_E0) ck_X0 ck_l0 p34x_644_e
set_option maxRecDepth 100000 in
def p34x_645 : ck_Sum := ((2, 0, 0), 245, [.inr (.inr (.inl 226)), .inl (ck_one 18), .inl (ck_one 1)], ([], [], [(227, 0, 0, ck_one 3), (243, 0, 5, ck_one 0), (227, 2, 9, ck_one 0), (226, 0, 0, ck_one 0)]), ([(226, 0, 0), (243, 0, 2)], []), [(.inr (some (.inl (ck_one 0))), 245, ([], [], [(226, 0, 0, ck_one 0), (243, 0, 5, ck_one 0)]))])
set_option maxRecDepth 100000 in
theorem p34x_645_e : ck_ok p1_O none [] [(287, [p34x_641]), (283, [p34x_161]), (333, [p34x_163]), (262, [p34x_164]), (267, [p34x_165]), (334, [p34x_644])] 360 [(36, [some (.inr (.inr (.inl 226))), some (.inl (ck_one 18)), some (.inl (ck_one 1)), some (.inl (0, 3, none)), none, none, none, none], ([], [], [(226, 0, 0, ck_one 0), (227, 0, 0, ck_one 3), (243, 0, 5, ck_one 0), (227, 2, 9, ck_one 0)]), 100, .inl 3, true), (57, [some (.inr (.inr (.inl 226))), some (.inl (ck_one 18)), some (.inl (ck_one 1)), some (.inl (0, 2, some (100, 0))), some (.inl (0, 18, none)), none, none, none], ([], [], [(226, 0, 0, ck_one 0), (227, 0, 0, ck_one 3), (227, 2, 9, ck_one 0), (243, 0, 5, ck_one 0)]), 300, .inl 4, true)] 1376 p34x_645 = true := by decide +kernel
theorem p34x_645_s {X : Int → Int} {LX : Nat} : ck_Ok p1_O X LX 360 p34x_645 := ck_ok_s (ck_E1 (ck_S1 p34x_641_s ck_S0) (ck_E1 (ck_S1 p34x_161_s ck_S0) (ck_E1 (ck_S1 p34x_163_s ck_S0) (ck_E1 (ck_S1 p34x_164_s ck_S0) (ck_E1 (ck_S1 p34x_165_s ck_S0) (ck_E1 (ck_S1 p34x_644_s ck_S0) ck_E0)))))) ck_X0 ck_l0 p34x_645_e
set_option maxRecDepth 100000 in
def p34x_648 : ck_Sum := ((2, 0, 0), 245, [.inr (.inr (.inl 226)), .inl (ck_one 18), .inl (ck_one 0)], ([], [], [(227, 0, 0, ck_one 3), (243, 0, 5, ck_one 0), (227, 2, 9, ck_one 0), (226, 0, 0, ck_one 0)]), ([(226, 0, 0), (243, 0, 2)], []), [(.inr (some (.inl (ck_one 0))), 245, ([], [], [(226, 0, 0, ck_one 0), (243, 0, 5, ck_one 0)]))])
set_option maxRecDepth 100000 in
theorem p34x_648_e : ck_ok p1_O none [] [(287, [p34x_641]), (283, [p34x_161]), (333, [p34x_163]), (262, [p34x_164]), (267, [p34x_165]), (334, [p34x_644])] 360 [(36, [some (.inr (.inr (.inl 226))), some (.inl (ck_one 18)), some (.inl (ck_one 0)), some (.inl (0, 3, none)), none, none, none, none], ([], [], [(226, 0, 0, ck_one 0), (227, 0, 0, ck_one 3), (243, 0, 5, ck_one 0), (227, 2, 9, ck_one 0)]), 100, .inl 3, true), (57, [some (.inr (.inr (.inl 226))), some (.inl (ck_one 18)), some (.inl (ck_one 0)), some (.inl (0, 2, some (100, 0))), some (.inl (0, 18, none)), none, none, none], ([], [], [(226, 0, 0, ck_one 0), (227, 0, 0, ck_one 3), (227, 2, 9, ck_one 0), (243, 0, 5, ck_one 0)]), 300, .inl 4, true)] 1370 p34x_648 = true := by decide +kernel
theorem p34x_648_s {X : Int → Int} {LX : Nat} : ck_Ok p1_O X LX 360 p34x_648 := ck_ok_s (ck_E1 (ck_S1 p34x_641_s ck_S0) (ck_E1 (ck_S1 p34x_161_s ck_S0) (ck_E1 (ck_S1 p34x_163_s ck_S0) (ck_E1 (ck_S1 p34x_164_s ck_S0) (ck_E1 (ck_S1 p34x_165_s ck_S0) (ck_E1 (ck_S1 p34x_644_s ck_S0) ck_E0)))))) ck_X0 ck_l0 p34x_648_e
set_option maxRecDepth 100000 in
def p34x_676 : ck_Sum := ((0, 0, 0), 245, [.inl (ck_one 19), .inl (ck_one 1), .inl (ck_one 30)], ([], [], []), ([], []), [(.inr (some (.inl (ck_one 1))), 245, ([], [], []))])
set_option maxRecDepth 100000 in
theorem p34x_676_e : ck_ok p1_O none [] [] 287 [] 88 p34x_676 = true := by decide +kernel
theorem p34x_676_s {X : Int → Int} {LX : Nat} : ck_Ok p1_O X LX 287 p34x_676 := ck_ok_s (ck_E0) ck_X0 ck_l0 p34x_676_e
set_option maxRecDepth 100000 in
def p34x_679 : ck_Sum := ((1, 0, 0), 245, [.inr (.inr (.inl 226)), .inl (0, 18, none), .inl (0, 2, none), .inl (ck_one 0)], ([], [], [(227, 2, 9, ck_one 0)]), ([], []), [(.inr (some (.inl (ck_one 0))), 245, ([], [], []))])
set_option maxRecDepth 100000 in
theorem p34x_679_e : ck_ok p1_O none [] [(255, [p34x_162])] 334 [(6, [some (.inr (.inr (.inl 226))), some (.inl (0, 18, none)), some (.inl (0, 2, none)), some (.inl (ck_one 0)), some (.inl (ck_one 0)), some (.inl (ck_one 0))], ([], [], [(227, 2, 9, ck_one 0)]), 100, .inl 4, true)] 114 p34x_679 = true := by decide +kernel
theorem p34x_679_s {X : Int → Int} {LX : Nat} : ck_Ok p1_O X LX 334 p34x_679 := ck_ok_s (ck_E1 (ck_S1 p34x_162_s ck_S0) ck_E0) ck_X0 ck_l0 p34x_679_e
set_option maxRecDepth 100000 in
def p34x_680 : ck_Sum := ((2, 0, 0), 245, [.inr (.inr (.inl 226)), .inl (ck_one 19), .inl (ck_one 1)], ([], [], [(227, 0, 0, ck_one 3), (243, 0, 5, ck_one 0), (227, 2, 9, ck_one 0), (226, 0, 0, ck_one 0)]), ([(226, 0, 0), (243, 0, 2)], []), [(.inr (some (.inl (ck_one 0))), 245, ([], [], [(226, 0, 0, ck_one 0), (243, 0, 5, ck_one 0)]))])
set_option maxRecDepth 100000 in
theorem p34x_680_e : ck_ok p1_O none [] [(287, [p34x_676]), (283, [p34x_161]), (333, [p34x_163]), (262, [p34x_164]), (267, [p34x_165]), (334, [p34x_679])] 360 [(36, [some (.inr (.inr (.inl 226))), some (.inl (ck_one 19)), some (.inl (ck_one 1)), some (.inl (0, 3, none)), none, none, none, none], ([], [], [(226, 0, 0, ck_one 0), (227, 0, 0, ck_one 3), (243, 0, 5, ck_one 0), (227, 2, 9, ck_one 0)]), 100, .inl 3, true), (57, [some (.inr (.inr (.inl 226))), some (.inl (ck_one 19)), some (.inl (ck_one 1)), some (.inl (0, 2, some (100, 0))), some (.inl (0, 19, none)), none, none, none], ([], [], [(226, 0, 0, ck_one 0), (227, 0, 0, ck_one 3), (227, 2, 9, ck_one 0), (243, 0, 5, ck_one 0)]), 300, .inl 4, true)] 1376 p34x_680 = true := by decide +kernel
theorem p34x_680_s {X : Int → Int} {LX : Nat} : ck_Ok p1_O X LX 360 p34x_680 := ck_ok_s (ck_E1 (ck_S1 p34x_676_s ck_S0) (ck_E1 (ck_S1 p34x_161_s ck_S0) (ck_E1 (ck_S1 p34x_163_s ck_S0) (ck_E1 (ck_S1 p34x_164_s ck_S0) (ck_E1 (ck_S1 p34x_165_s ck_S0) (ck_E1 (ck_S1 p34x_679_s ck_S0) ck_E0)))))) ck_X0 ck_l0 p34x_680_e
set_option maxRecDepth 100000 in
def p34x_683 : ck_Sum := ((2, 0, 0), 245, [.inr (.inr (.inl 226)), .inl (ck_one 19), .inl (ck_one 0)], ([], [], [(227, 0, 0, ck_one 3), (243, 0, 5, ck_one 0), (227, 2, 9, ck_one 0), (226, 0, 0, ck_one 0)]), ([(226, 0, 0), (243, 0, 2)], []), [(.inr (some (.inl (ck_one 0))), 245, ([], [], [(226, 0, 0, ck_one 0), (243, 0, 5, ck_one 0)]))])
set_option maxRecDepth 100000 in
theorem p34x_683_e : ck_ok p1_O none [] [(287, [p34x_676]), (283, [p34x_161]), (333, [p34x_163]), (262, [p34x_164]), (267, [p34x_165]), (334, [p34x_679])] 360 [(36, [some (.inr (.inr (.inl 226))), some (.inl (ck_one 19)), some (.inl (ck_one 0)), some (.inl (0, 3, none)), none, none, none, none], ([], [], [(226, 0, 0, ck_one 0), (227, 0, 0, ck_one 3), (243, 0, 5, ck_one 0), (227, 2, 9, ck_one 0)]), 100, .inl 3, true), (57, [some (.inr (.inr (.inl 226))), some (.inl (ck_one 19)), some (.inl (ck_one 0)), some (.inl (0, 2, some (100, 0))), some (.inl (0, 19, none)), none, none, none], ([], [], [(226, 0, 0, ck_one 0), (227, 0, 0, ck_one 3), (227, 2, 9, ck_one 0), (243, 0, 5, ck_one 0)]), 300, .inl 4, true)] 1370 p34x_683 = true := by decide +kernel
theorem p34x_683_s {X : Int → Int} {LX : Nat} : ck_Ok p1_O X LX 360 p34x_683 := ck_ok_s (ck_E1 (ck_S1 p34x_676_s ck_S0) (ck_E1 (ck_S1 p34x_161_s ck_S0) (ck_E1 (ck_S1 p34x_163_s ck_S0) (ck_E1 (ck_S1 p34x_164_s ck_S0) (ck_E1 (ck_S1 p34x_165_s ck_S0) (ck_E1 (ck_S1 p34x_679_s ck_S0) ck_E0)))))) ck_X0 ck_l0 p34x_683_e
set_option maxRecDepth 100000 in
def p34x_711 : ck_Sum := ((0, 0, 0), 245, [.inl (ck_one 20), .inl (ck_one 1), .inl (ck_one 30)], ([], [], []), ([], []), [(.inr (some (.inl (ck_one 1))), 245, ([], [], []))])
set_option maxRecDepth 100000 in
theorem p34x_711_e : ck_ok p1_O none [] [] 287 [] 88 p34x_711 = true := by decide +kernel
theorem p34x_711_s {X : Int → Int} {LX : Nat} : ck_Ok p1_O X LX 287 p34x_711 := ck_ok_s (ck_E0) ck_X0 ck_l0 p34x_711_e
set_option maxRecDepth 100000 in
def p34x_714 : ck_Sum := ((1, 0, 0), 245, [.inr (.inr (.inl 226)), .inl (0, 19, none), .inl (0, 2, none), .inl (ck_one 0)], ([], [], [(227, 2, 9, ck_one 0)]), ([], []), [(.inr (some (.inl (ck_one 0))), 245, ([], [], []))])
set_option maxRecDepth 100000 in
theorem p34x_714_e : ck_ok p1_O none [] [(255, [p34x_162])] 334 [(6, [some (.inr (.inr (.inl 226))), some (.inl (0, 19, none)), some (.inl (0, 2, none)), some (.inl (ck_one 0)), some (.inl (ck_one 0)), some (.inl (ck_one 0))], ([], [], [(227, 2, 9, ck_one 0)]), 100, .inl 4, true)] 114 p34x_714 = true := by decide +kernel
theorem p34x_714_s {X : Int → Int} {LX : Nat} : ck_Ok p1_O X LX 334 p34x_714 := ck_ok_s (ck_E1 (ck_S1 p34x_162_s ck_S0) ck_E0) ck_X0 ck_l0 p34x_714_e
set_option maxRecDepth 100000 in
def p34x_715 : ck_Sum := ((2, 0, 0), 245, [.inr (.inr (.inl 226)), .inl (ck_one 20), .inl (ck_one 1)], ([], [], [(227, 0, 0, ck_one 3), (243, 0, 5, ck_one 0), (227, 2, 9, ck_one 0), (226, 0, 0, ck_one 0)]), ([(226, 0, 0), (243, 0, 2)], []), [(.inr (some (.inl (ck_one 0))), 245, ([], [], [(226, 0, 0, ck_one 0), (243, 0, 5, ck_one 0)]))])
set_option maxRecDepth 100000 in
theorem p34x_715_e : ck_ok p1_O none [] [(287, [p34x_711]), (283, [p34x_161]), (333, [p34x_163]), (262, [p34x_164]), (267, [p34x_165]), (334, [p34x_714])] 360 [(36, [some (.inr (.inr (.inl 226))), some (.inl (ck_one 20)), some (.inl (ck_one 1)), some (.inl (0, 3, none)), none, none, none, none], ([], [], [(226, 0, 0, ck_one 0), (227, 0, 0, ck_one 3), (243, 0, 5, ck_one 0), (227, 2, 9, ck_one 0)]), 100, .inl 3, true), (57, [some (.inr (.inr (.inl 226))), some (.inl (ck_one 20)), some (.inl (ck_one 1)), some (.inl (0, 2, some (100, 0))), some (.inl (0, 20, none)), none, none, none], ([], [], [(226, 0, 0, ck_one 0), (227, 0, 0, ck_one 3), (227, 2, 9, ck_one 0), (243, 0, 5, ck_one 0)]), 300, .inl 4, true)] 1376 p34x_715 = true := by decide +kernel
theorem p34x_715_s {X : Int → Int} {LX : Nat} : ck_Ok p1_O X LX 360 p34x_715 := ck_ok_s (ck_E1 (ck_S1 p34x_711_s ck_S0) (ck_E1 (ck_S1 p34x_161_s ck_S0) (ck_E1 (ck_S1 p34x_163_s ck_S0) (ck_E1 (ck_S1 p34x_164_s ck_S0) (ck_E1 (ck_S1 p34x_165_s ck_S0) (ck_E1 (ck_S1 p34x_714_s ck_S0) ck_E0)))))) ck_X0 ck_l0 p34x_715_e
set_option maxRecDepth 100000 in
def p34x_718 : ck_Sum := ((2, 0, 0), 245, [.inr (.inr (.inl 226)), .inl (ck_one 20), .inl (ck_one 0)], ([], [], [(227, 0, 0, ck_one 3), (243, 0, 5, ck_one 0), (227, 2, 9, ck_one 0), (226, 0, 0, ck_one 0)]), ([(226, 0, 0), (243, 0, 2)], []), [(.inr (some (.inl (ck_one 0))), 245, ([], [], [(226, 0, 0, ck_one 0), (243, 0, 5, ck_one 0)]))])
set_option maxRecDepth 100000 in
theorem p34x_718_e : ck_ok p1_O none [] [(287, [p34x_711]), (283, [p34x_161]), (333, [p34x_163]), (262, [p34x_164]), (267, [p34x_165]), (334, [p34x_714])] 360 [(36, [some (.inr (.inr (.inl 226))), some (.inl (ck_one 20)), some (.inl (ck_one 0)), some (.inl (0, 3, none)), none, none, none, none], ([], [], [(226, 0, 0, ck_one 0), (227, 0, 0, ck_one 3), (243, 0, 5, ck_one 0), (227, 2, 9, ck_one 0)]), 100, .inl 3, true), (57, [some (.inr (.inr (.inl 226))), some (.inl (ck_one 20)), some (.inl (ck_one 0)), some (.inl (0, 2, some (100, 0))), some (.inl (0, 20, none)), none, none, none], ([], [], [(226, 0, 0, ck_one 0), (227, 0, 0, ck_one 3), (227, 2, 9, ck_one 0), (243, 0, 5, ck_one 0)]), 300, .inl 4, true)] 1370 p34x_718 = true := by decide +kernel
theorem p34x_718_s {X : Int → Int} {LX : Nat} : ck_Ok p1_O X LX 360 p34x_718 := ck_ok_s (ck_E1 (ck_S1 p34x_711_s ck_S0) (ck_E1 (ck_S1 p34x_161_s ck_S0) (ck_E1 (ck_S1 p34x_163_s ck_S0) (ck_E1 (ck_S1 p34x_164_s ck_S0) (ck_E1 (ck_S1 p34x_165_s ck_S0) (ck_E1 (ck_S1 p34x_714_s ck_S0) ck_E0)))))) ck_X0 ck_l0 p34x_718_e
set_option maxRecDepth 100000 in
def p34x_746 : ck_Sum := ((0, 0, 0), 245, [.inl (ck_one 21), .inl (ck_one 1), .inl (ck_one 30)], ([], [], []), ([], []), [(.inr (some (.inl (ck_one 1))), 245, ([], [], []))])
set_option maxRecDepth 100000 in
theorem p34x_746_e : ck_ok p1_O none [] [] 287 [] 88 p34x_746 = true := by decide +kernel
theorem p34x_746_s {X : Int → Int} {LX : Nat} : ck_Ok p1_O X LX 287 p34x_746 := ck_ok_s (ck_E0) ck_X0 ck_l0 p34x_746_e
set_option maxRecDepth 100000 in
def p34x_749 : ck_Sum := ((1, 0, 0), 245, [.inr (.inr (.inl 226)), .inl (0, 20, none), .inl (0, 2, none), .inl (ck_one 0)], ([], [], [(227, 2, 9, ck_one 0)]), ([], []), [(.inr (some (.inl (ck_one 0))), 245, ([], [], []))])
set_option maxRecDepth 100000 in
theorem p34x_749_e : ck_ok p1_O none [] [(255, [p34x_162])] 334 [(6, [some (.inr (.inr (.inl 226))), some (.inl (0, 20, none)), some (.inl (0, 2, none)), some (.inl (ck_one 0)), some (.inl (ck_one 0)), some (.inl (ck_one 0))], ([], [], [(227, 2, 9, ck_one 0)]), 100, .inl 4, true)] 114 p34x_749 = true := by decide +kernel
theorem p34x_749_s {X : Int → Int} {LX : Nat} : ck_Ok p1_O X LX 334 p34x_749 := ck_ok_s (ck_E1 (ck_S1 p34x_162_s ck_S0) ck_E0) ck_X0 ck_l0 p34x_749_e
set_option maxRecDepth 100000 in
def p34x_750 : ck_Sum := ((2, 0, 0), 245, [.inr (.inr (.inl 226)), .inl (ck_one 21), .inl (ck_one 1)], ([], [], [(227, 0, 0, ck_one 3), (243, 0, 5, ck_one 0), (227, 2, 9, ck_one 0), (226, 0, 0, ck_one 0)]), ([(226, 0, 0), (243, 0, 2)], []), [(.inr (some (.inl (ck_one 0))), 245, ([], [], [(226, 0, 0, ck_one 0), (243, 0, 5, ck_one 0)]))])
set_option maxRecDepth 100000 in
theorem p34x_750_e : ck_ok p1_O none [] [(287, [p34x_746]), (283, [p34x_161]), (333, [p34x_163]), (262, [p34x_164]), (267, [p34x_165]), (334, [p34x_749])] 360 [(36, [some (.inr (.inr (.inl 226))), some (.inl (ck_one 21)), some (.inl (ck_one 1)), some (.inl (0, 3, none)), none, none, none, none], ([], [], [(226, 0, 0, ck_one 0), (227, 0, 0, ck_one 3), (243, 0, 5, ck_one 0), (227, 2, 9, ck_one 0)]), 100, .inl 3, true), (57, [some (.inr (.inr (.inl 226))), some (.inl (ck_one 21)), some (.inl (ck_one 1)), some (.inl (0, 2, some (100, 0))), some (.inl (0, 21, none)), none, none, none], ([], [], [(226, 0, 0, ck_one 0), (227, 0, 0, ck_one 3), (227, 2, 9, ck_one 0), (243, 0, 5, ck_one 0)]), 300, .inl 4, true)] 1376 p34x_750 = true := by decide +kernel
theorem p34x_750_s {X : Int → Int} {LX : Nat} : ck_Ok p1_O X LX 360 p34x_750 := ck_ok_s (ck_E1 (ck_S1 p34x_746_s ck_S0) (ck_E1 (ck_S1 p34x_161_s ck_S0) (ck_E1 (ck_S1 p34x_163_s ck_S0) (ck_E1 (ck_S1 p34x_164_s ck_S0) (ck_E1 (ck_S1 p34x_165_s ck_S0) (ck_E1 (ck_S1 p34x_749_s ck_S0) ck_E0)))))) ck_X0 ck_l0 p34x_750_e
set_option maxRecDepth 100000 in
def p34x_753 : ck_Sum := ((2, 0, 0), 245, [.inr (.inr (.inl 226)), .inl (ck_one 21), .inl (ck_one 0)], ([], [], [(227, 0, 0, ck_one 3), (243, 0, 5, ck_one 0), (227, 2, 9, ck_one 0), (226, 0, 0, ck_one 0)]), ([(226, 0, 0), (243, 0, 2)], []), [(.inr (some (.inl (ck_one 0))), 245, ([], [], [(226, 0, 0, ck_one 0), (243, 0, 5, ck_one 0)]))])
set_option maxRecDepth 100000 in
theorem p34x_753_e : ck_ok p1_O none [] [(287, [p34x_746]), (283, [p34x_161]), (333, [p34x_163]), (262, [p34x_164]), (267, [p34x_165]), (334, [p34x_749])] 360 [(36, [some (.inr (.inr (.inl 226))), some (.inl (ck_one 21)), some (.inl (ck_one 0)), some (.inl (0, 3, none)), none, none, none, none], ([], [], [(226, 0, 0, ck_one 0), (227, 0, 0, ck_one 3), (243, 0, 5, ck_one 0), (227, 2, 9, ck_one 0)]), 100, .inl 3, true), (57, [some (.inr (.inr (.inl 226))), some (.inl (ck_one 21)), some (.inl (ck_one 0)), some (.inl (0, 2, some (100, 0))), some (.inl (0, 21, none)), none, none, none], ([], [], [(226, 0, 0, ck_one 0), (227, 0, 0, ck_one 3), (227, 2, 9, ck_one 0), (243, 0, 5, ck_one 0)]), 300, .inl 4, true)] 1370 p34x_753 = true := by decide +kernel
theorem p34x_753_s {X : Int → Int} {LX : Nat} : ck_Ok p1_O X LX 360 p34x_753 := ck_ok_s (ck_E1 (ck_S1 p34x_746_s ck_S0) (ck_E1 (ck_S1 p34x_161_s ck_S0) (ck_E1 (ck_S1 p34x_163_s ck_S0) (ck_E1 (ck_S1 p34x_164_s ck_S0) (ck_E1 (ck_S1 p34x_165_s ck_S0) (ck_E1 (ck_S1 p34x_749_s ck_S0) ck_E0)))))) ck_X0 ck_l0 p34x_753_e
set_option maxRecDepth 100000 in
def p34x_781 : ck_Sum := ((0, 0, 0), 245, [.inl (ck_one 22), .inl (ck_one 1), .inl (ck_one 30)], ([], [], []), ([], []), [(.inr (some (.inl (ck_one 1))), 245, ([], [], []))])
set_option maxRecDepth 100000 in
theorem p34x_781_e : ck_ok p1_O none [] [] 287 [] 88 p34x_781 = true := by decide +kernel
theorem p34x_781_s {X : Int → Int} {LX : Nat} : ck_Ok p1_O X LX 287 p34x_781 := ck_ok_s (ck_E0) ck_X0 ck_l0 p34x_781_e
set_option maxRecDepth 100000 in
def p34x_784 : ck_Sum := ((1, 0, 0), 245, [.inr (.inr (.inl 226)), .inl (0, 21, none), .inl (0, 2, none), .inl (ck_one 0)], ([], [], [(227, 2, 9, ck_one 0)]), ([], []), [(.inr (some (.inl (ck_one 0))), 245, ([], [], []))])
set_option maxRecDepth 100000 in
theorem p34x_784_e : ck_ok p1_O none [] [(255, [p34x_162])] 334 [(6, [some (.inr (.inr (.inl 226))), some (.inl (0, 21, none)), some (.inl (0, 2, none)), some (.inl (ck_one 0)), some (.inl (ck_one 0)), some (.inl (ck_one 0))], ([], [], [(227, 2, 9, ck_one 0)]), 100, .inl 4, true)] 114 p34x_784 = true := by decide +kernel
theorem p34x_784_s {X : Int → Int} {LX : Nat} : ck_Ok p1_O X LX 334 p34x_784 := ck_ok_s (ck_E1 (ck_S1 p34x_162_s ck_S0) ck_E0) ck_X0 ck_l0 p34x_784_e
set_option maxRecDepth 100000 in
def p34x_785 : ck_Sum := ((2, 0, 0), 245, [.inr (.inr (.inl 226)), .inl (ck_one 22), .inl (ck_one 1)], ([], [], [(227, 0, 0, ck_one 3), (243, 0, 5, ck_one 0), (227, 2, 9, ck_one 0), (226, 0, 0, ck_one 0)]), ([(226, 0, 0), (243, 0, 2)], []), [(.inr (some (.inl (ck_one 0))), 245, ([], [], [(226, 0, 0, ck_one 0), (243, 0, 5, ck_one 0)]))])
set_option maxRecDepth 100000 in
theorem p34x_785_e : ck_ok p1_O none [] [(287, [p34x_781]), (283, [p34x_161]), (333, [p34x_163]), (262, [p34x_164]), (267, [p34x_165]), (334, [p34x_784])] 360 [(36, [some (.inr (.inr (.inl 226))), some (.inl (ck_one 22)), some (.inl (ck_one 1)), some (.inl (0, 3, none)), none, none, none, none], ([], [], [(226, 0, 0, ck_one 0), (227, 0, 0, ck_one 3), (243, 0, 5, ck_one 0), (227, 2, 9, ck_one 0)]), 100, .inl 3, true), (57, [some (.inr (.inr (.inl 226))), some (.inl (ck_one 22)), some (.inl (ck_one 1)), some (.inl (0, 2, some (100, 0))), some (.inl (0, 22, none)), none, none, none], ([], [], [(226, 0, 0, ck_one 0), (227, 0, 0, ck_one 3), (227, 2, 9, ck_one 0), (243, 0, 5, ck_one 0)]), 300, .inl 4, true)] 1376 p34x_785 = true := by decide +kernel
theorem p34x_785_s {X : Int → Int} {LX : Nat} : ck_Ok p1_O X LX 360 p34x_785 := ck_ok_s (ck_E1 (ck_S1 p34x_781_s ck_S0) (ck_E1 (ck_S1 p34x_161_s ck_S0) (ck_E1 (ck_S1 p34x_163_s ck_S0) (ck_E1 (ck_S1 p34x_164_s ck_S0) (ck_E1 (ck_S1 p34x_165_s ck_S0) (ck_E1 (ck_S1 p34x_784_s ck_S0) ck_E0)))))) ck_X0 ck_l0 p34x_785_e
set_option maxRecDepth 100000 in
def p34x_788 : ck_Sum := ((2, 0, 0), 245, [.inr (.inr (.inl 226)), .inl (ck_one 22), .inl (ck_one 0)], ([], [], [(227, 0, 0, ck_one 3), (243, 0, 5, ck_one 0), (227, 2, 9, ck_one 0), (226, 0, 0, ck_one 0)]), ([(226, 0, 0), (243, 0, 2)], []), [(.inr (some (.inl (ck_one 0))), 245, ([], [], [(226, 0, 0, ck_one 0), (243, 0, 5, ck_one 0)]))])
set_option maxRecDepth 100000 in
theorem p34x_788_e : ck_ok p1_O none [] [(287, [p34x_781]), (283, [p34x_161]), (333, [p34x_163]), (262, [p34x_164]), (267, [p34x_165]), (334, [p34x_784])] 360 [(36, [some (.inr (.inr (.inl 226))), some (.inl (ck_one 22)), some (.inl (ck_one 0)), some (.inl (0, 3, none)), none, none, none, none], ([], [], [(226, 0, 0, ck_one 0), (227, 0, 0, ck_one 3), (243, 0, 5, ck_one 0), (227, 2, 9, ck_one 0)]), 100, .inl 3, true), (57, [some (.inr (.inr (.inl 226))), some (.inl (ck_one 22)), some (.inl (ck_one 0)), some (.inl (0, 2, some (100, 0))), some (.inl (0, 22, none)), none, none, none], ([], [], [(226, 0, 0, ck_one 0), (227, 0, 0, ck_one 3), (227, 2, 9, ck_one 0), (243, 0, 5, ck_one 0)]), 300, .inl 4, true)] 1370 p34x_788 = true := by decide +kernel
theorem p34x_788_s {X : Int → Int} {LX : Nat} : ck_Ok p1_O X LX 360 p34x_788 := ck_ok_s (ck_E1 (ck_S1 p34x_781_s ck_S0) (ck_E1 (ck_S1 p34x_161_s ck_S0) (ck_E1 (ck_S1 p34x_163_s ck_S0) (ck_E1 (ck_S1 p34x_164_s ck_S0) (ck_E1 (ck_S1 p34x_165_s ck_S0) (ck_E1 (ck_S1 p34x_784_s ck_S0) ck_E0)))))) ck_X0 ck_l0 p34x_788_e
set_option maxRecDepth 100000 in
def p34x_816 : ck_Sum := ((0, 0, 0), 245, [.inl (ck_one 23), .inl (ck_one 1), .inl (ck_one 30)], ([], [], []), ([], []), [(.inr (some (.inl (ck_one 1))), 245, ([], [], []))])
set_option maxRecDepth 100000 in
theorem p34x_816_e : ck_ok p1_O none [] [] 287 [] 88 p34x_816 = true := by decide +kernel
theorem p34x_816_s {X : Int → Int} {LX : Nat} : ck_Ok p1_O X LX 287 p34x_816 := ck_ok_s (ck_E0) ck_X0 ck_l0 p34x_816_e
set_option maxRecDepth 100000 in
def p34x_819 : ck_Sum := ((1, 0, 0), 245, [.inr (.inr (.inl 226)), .inl (0, 22, none), .inl (0, 2, none), .inl (ck_one 0)], ([], [], [(227, 2, 9, ck_one 0)]), ([], []), [(.inr (some (.inl (ck_one 0))), 245, ([], [], []))])
set_option maxRecDepth 100000 in
theorem p34x_819_e : ck_ok p1_O none [] [(255, [p34x_162])] 334 [(6, [some (.inr (.inr (.inl 226))), some (.inl (0, 22, none)), some (.inl (0, 2, none)), some (.inl (ck_one 0)), some (.inl (ck_one 0)), some (.inl (ck_one 0))], ([], [], [(227, 2, 9, ck_one 0)]), 100, .inl 4, true)] 114 p34x_819 = true := by decide +kernel
theorem p34x_819_s {X : Int → Int} {LX : Nat} : ck_Ok p1_O X LX 334 p34x_819 := ck_ok_s (ck_E1 (ck_S1 p34x_162_s ck_S0) ck_E0) ck_X0 ck_l0 p34x_819_e
set_option maxRecDepth 100000 in
def p34x_820 : ck_Sum := ((2, 0, 0), 245, [.inr (.inr (.inl 226)), .inl (ck_one 23), .inl (ck_one 1)], ([], [], [(227, 0, 0, ck_one 3), (243, 0, 5, ck_one 0), (227, 2, 9, ck_one 0), (226, 0, 0, ck_one 0)]), ([(226, 0, 0), (243, 0, 2)], []), [(.inr (some (.inl (ck_one 0))), 245, ([], [], [(226, 0, 0, ck_one 0), (243, 0, 5, ck_one 0)]))])
set_option maxRecDepth 100000 in
theorem p34x_820_e : ck_ok p1_O none [] [(287, [p34x_816]), (283, [p34x_161]), (333, [p34x_163]), (262, [p34x_164]), (267, [p34x_165]), (334, [p34x_819])] 360 [(36, [some (.inr (.inr (.inl 226))), some (.inl (ck_one 23)), some (.inl (ck_one 1)), some (.inl (0, 3, none)), none, none, none, none], ([], [], [(226, 0, 0, ck_one 0), (227, 0, 0, ck_one 3), (243, 0, 5, ck_one 0), (227, 2, 9, ck_one 0)]), 100, .inl 3, true), (57, [some (.inr (.inr (.inl 226))), some (.inl (ck_one 23)), some (.inl (ck_one 1)), some (.inl (0, 2, some (100, 0))), some (.inl (0, 23, none)), none, none, none], ([], [], [(226, 0, 0, ck_one 0), (227, 0, 0, ck_one 3), (227, 2, 9, ck_one 0), (243, 0, 5, ck_one 0)]), 300, .inl 4, true)] 1376 p34x_820 = true := by decide +kernel
theorem p34x_820_s {X : Int → Int} {LX : Nat} : ck_Ok p1_O X LX 360 p34x_820 := ck_ok_s (ck_E1 (ck_S1 p34x_816_s ck_S0) (ck_E1 (ck_S1 p34x_161_s ck_S0) (ck_E1 (ck_S1 p34x_163_s ck_S0) (ck_E1 (ck_S1 p34x_164_s ck_S0) (ck_E1 (ck_S1 p34x_165_s ck_S0) (ck_E1 (ck_S1 p34x_819_s ck_S0) ck_E0)))))) ck_X0 ck_l0 p34x_820_e
set_option maxRecDepth 100000 in
def p34x_823 : ck_Sum := ((2, 0, 0), 245, [.inr (.inr (.inl 226)), .inl (ck_one 23), .inl (ck_one 0)], ([], [], [(227, 0, 0, ck_one 3), (243, 0, 5, ck_one 0), (227, 2, 9, ck_one 0), (226, 0, 0, ck_one 0)]), ([(226, 0, 0), (243, 0, 2)], []), [(.inr (some (.inl (ck_one 0))), 245, ([], [], [(226, 0, 0, ck_one 0), (243, 0, 5, ck_one 0)]))])
set_option maxRecDepth 100000 in
theorem p34x_823_e : ck_ok p1_O none [] [(287, [p34x_816]), (283, [p34x_161]), (333, [p34x_163]), (262, [p34x_164]), (267, [p34x_165]), (334, [p34x_819])] 360 [(36, [some (.inr (.inr (.inl 226))), some (.inl (ck_one 23)), some (.inl (ck_one 0)), some (.inl (0, 3, none)), none, none, none, none], ([], [], [(226, 0, 0, ck_one 0), (227, 0, 0, ck_one 3), (243, 0, 5, ck_one 0), (227, 2, 9, ck_one 0)]), 100, .inl 3, true), (57, [some (.inr (.inr (.inl 226))), some (.inl (ck_one 23)), some (.inl (ck_one 0)), some (.inl (0, 2, some (100, 0))), some (.inl (0, 23, none)), none, none, none], ([], [], [(226, 0, 0, ck_one 0), (227, 0, 0, ck_one 3), (227, 2, 9, ck_one 0), (243, 0, 5, ck_one 0)]), 300, .inl 4, true)] 1370 p34x_823 = true := by decide +kernel
theorem p34x_823_s {X : Int → Int} {LX : Nat} : ck_Ok p1_O X LX 360 p34x_823 := ck_ok_s (ck_E1 (ck_S1 p34x_816_s ck_S0) (ck_E1 (ck_S1 p34x_161_s ck_S0) (ck_E1 (ck_S1 p34x_163_s ck_S0) (ck_E1 (ck_S1 p34x_164_s ck_S0) (ck_E1 (ck_S1 p34x_165_s ck_S0) (ck_E1 (ck_S1 p34x_819_s ck_S0) ck_E0)))))) ck_X0 ck_l0 p34x_823_e
set_option maxRecDepth 100000 in
def p34x_851 : ck_Sum := ((0, 0, 0), 245, [.inl (ck_one 24), .inl (ck_one 1), .inl (ck_one 30)], ([], [], []), ([], []), [(.inr (some (.inl (ck_one 1))), 245, ([], [], []))])
set_option maxRecDepth 100000 in
theorem p34x_851_e : ck_ok p1_O none [] [] 287 [] 88 p34x_851 = true := by decide +kernel
theorem p34x_851_s {X : Int → Int} {LX : Nat} : ck_Ok p1_O X LX 287 p34x_851 := ck_ok_s (ck_E0) ck_X0 ck_l0 p34x_851_e
set_option maxRecDepth 100000 in
def p34x_854 : ck_Sum := ((1, 0, 0), 245, [.inr (.inr (.inl 226)), .inl (0, 23, none), .inl (0, 2, none), .inl (ck_one 0)], ([], [], [(227, 2, 9, ck_one 0)]), ([], []), [(.inr (some (.inl (ck_one 0))), 245, ([], [], []))])
set_option maxRecDepth 100000 in
theorem p34x_854_e : ck_ok p1_O none [] [(255, [p34x_162])] 334 [(6, [some (.inr (.inr (.inl 226))), some (.inl (0, 23, none)), some (.inl (0, 2, none)), some (.inl (ck_one 0)), some (.inl (ck_one 0)), some (.inl (ck_one 0))], ([], [], [(227, 2, 9, ck_one 0)]), 100, .inl 4, true)] 114 p34x_854 = true := by decide +kernel
theorem p34x_854_s {X : Int → Int} {LX : Nat} : ck_Ok p1_O X LX 334 p34x_854 := ck_ok_s (ck_E1 (ck_S1 p34x_162_s ck_S0) ck_E0) ck_X0 ck_l0 p34x_854_e
set_option maxRecDepth 100000 in
def p34x_855 : ck_Sum := ((2, 0, 0), 245, [.inr (.inr (.inl 226)), .inl (ck_one 24), .inl (ck_one 1)], ([], [], [(227, 0, 0, ck_one 3), (243, 0, 5, ck_one 0), (227, 2, 9, ck_one 0), (226, 0, 0, ck_one 0)]), ([(226, 0, 0), (243, 0, 2)], []), [(.inr (some (.inl (ck_one 0))), 245, ([], [], [(226, 0, 0, ck_one 0), (243, 0, 5, ck_one 0)]))])
set_option maxRecDepth 100000 in
theorem p34x_855_e : ck_ok p1_O none [] [(287, [p34x_851]), (283, [p34x_161]), (333, [p34x_163]), (262, [p34x_164]), (267, [p34x_165]), (334, [p34x_854])] 360 [(36, [some (.inr (.inr (.inl 226))), some (.inl (ck_one 24)), some (.inl (ck_one 1)), some (.inl (0, 3, none)), none, none, none, none], ([], [], [(226, 0, 0, ck_one 0), (227, 0, 0, ck_one 3), (243, 0, 5, ck_one 0), (227, 2, 9, ck_one 0)]), 100, .inl 3, true), (57, [some (.inr (.inr (.inl 226))), some (.inl (ck_one 24)), some (.inl (ck_one 1)), some (.inl (0, 2, some (100, 0))), some (.inl (0, 24, none)), none, none, none], ([], [], [(226, 0, 0, ck_one 0), (227, 0, 0, ck_one 3), (227, 2, 9, ck_one 0), (243, 0, 5, ck_one 0)]), 300, .inl 4, true)] 1376 p34x_855 = true := by decide +kernel
theorem p34x_855_s {X : Int → Int} {LX : Nat} : ck_Ok p1_O X LX 360 p34x_855 := ck_ok_s (ck_E1 (ck_S1 p34x_851_s ck_S0) (ck_E1 (ck_S1 p34x_161_s ck_S0) (ck_E1 (ck_S1 p34x_163_s ck_S0) (ck_E1 (ck_S1 p34x_164_s ck_S0) (ck_E1 (ck_S1 p34x_165_s ck_S0) (ck_E1 (ck_S1 p34x_854_s ck_S0) ck_E0)))))) ck_X0 ck_l0 p34x_855_e
set_option maxRecDepth 100000 in
def p34x_858 : ck_Sum := ((2, 0, 0), 245, [.inr (.inr (.inl 226)), .inl (ck_one 24), .inl (ck_one 0)], ([], [], [(227, 0, 0, ck_one 3), (243, 0, 5, ck_one 0), (227, 2, 9, ck_one 0), (226, 0, 0, ck_one 0)]), ([(226, 0, 0), (243, 0, 2)], []), [(.inr (some (.inl (ck_one 0))), 245, ([], [], [(226, 0, 0, ck_one 0), (243, 0, 5, ck_one 0)]))])
set_option maxRecDepth 100000 in
theorem p34x_858_e : ck_ok p1_O none [] [(287, [p34x_851]), (283, [p34x_161]), (333, [p34x_163]), (262, [p34x_164]), (267, [p34x_165]), (334, [p34x_854])] 360 [(36, [some (.inr (.inr (.inl 226))), some (.inl (ck_one 24)), some (.inl (ck_one 0)), some (.inl (0, 3, none)), none, none, none, none], ([], [], [(226, 0, 0, ck_one 0), (227, 0, 0, ck_one 3), (243, 0, 5, ck_one 0), (227, 2, 9, ck_one 0)]), 100, .inl 3, true), (57, [some (.inr (.inr (.inl 226))), some (.inl (ck_one 24)), some (.inl (ck_one 0)), some (.inl (0, 2, some (100, 0))), some (.inl (0, 24, none)), none, none, none], ([], [], [(226, 0, 0, ck_one 0), (227, 0, 0, ck_one 3), (227, 2, 9, ck_one 0), (243, 0, 5, ck_one 0)]), 300, .inl 4, true)] 1370 p34x_858 = true := by decide +kernel
theorem p34x_858_s {X : Int → Int} {LX : Nat} : ck_Ok p1_O X LX 360 p34x_858 := ck_ok_s (ck_E1 (ck_S1 p34x_851_s ck_S0) (ck_E1 (ck_S1 p34x_161_s ck_S0) (ck_E1 (ck_S1 p34x_163_s ck_S0) (ck_E1 (ck_S1 p34x_164_s ck_S0) (ck_E1 (ck_S1 p34x_165_s ck_S0) (ck_E1 (ck_S1 p34x_854_s ck_S0) ck_E0)))))) ck_X0 ck_l0 p34x_858_e
set_option maxRecDepth 100000 in
def p34x_887 : ck_Sum := ((0, 0, 0), 245, [.inl (ck_one 25), .inl (ck_one 1), .inl (ck_one 30)], ([], [], []), ([], []), [(.inr (some (.inl (ck_one 1))), 245, ([], [], []))])
set_option maxRecDepth 100000 in
theorem p34x_887_e : ck_ok p1_O none [] [] 287 [] 88 p34x_887 = true := by decide +kernel
theorem p34x_887_s {X : Int → Int} {LX : Nat} : ck_Ok p1_O X LX 287 p34x_887 := ck_ok_s (ck_E0) ck_X0 ck_l0 p34x_887_e
set_option maxRecDepth 100000 in
def p34x_890 : ck_Sum := ((1, 0, 0), 245, [.inr (.inr (.inl 226)), .inl (0, 24, none), .inl (0, 2, none), .inl (ck_one 0)], ([], [], [(227, 2, 9, ck_one 0)]), ([], []), [(.inr (some (.inl (ck_one 0))), 245, ([], [], []))])
set_option maxRecDepth 100000 in
theorem p34x_890_e : ck_ok p1_O none [] [(255, [p34x_162])] 334 [(6, [some (.inr (.inr (.inl 226))), some (.inl (0, 24, none)), some (.inl (0, 2, none)), some (.inl (ck_one 0)), some (.inl (ck_one 0)), some (.inl (ck_one 0))], ([], [], [(227, 2, 9, ck_one 0)]), 100, .inl 4, true)] 114 p34x_890 = true := by decide +kernel
theorem p34x_890_s {X : Int → Int} {LX : Nat} : ck_Ok p1_O X LX 334 p34x_890 := ck_ok_s (ck_E1 (ck_S1 p34x_162_s ck_S0) ck_E0) ck_X0 ck_l0 p34x_890_e
set_option maxRecDepth 100000 in
def p34x_891 : ck_Sum := ((2, 0, 0), 245, [.inr (.inr (.inl 226)), .inl (ck_one 25), .inl (ck_one 1)], ([], [], [(227, 0, 0, ck_one 3), (243, 0, 5, ck_one 0), (227, 2, 9, ck_one 0), (226, 0, 0, ck_one 0)]), ([(226, 0, 0), (243, 0, 2)], []), [(.inr (some (.inl (ck_one 0))), 245, ([], [], [(226, 0, 0, ck_one 0), (243, 0, 5, ck_one 0)]))])
set_option maxRecDepth 100000 in
theorem p34x_891_e : ck_ok p1_O none [] [(287, [p34x_887]), (283, [p34x_161]), (333, [p34x_163]), (262, [p34x_164]), (267, [p34x_165]), (334, [p34x_890])] 360 [(36, [some (.inr (.inr (.inl 226))), some (.inl (ck_one 25)), some (.inl (ck_one 1)), some (.inl (0, 3, none)), none, none, none, none], ([], [], [(226, 0, 0, ck_one 0), (227, 0, 0, ck_one 3), (243, 0, 5, ck_one 0), (227, 2, 9, ck_one 0)]), 100, .inl 3, true), (57, [some (.inr (.inr (.inl 226))), some (.inl (ck_one 25)), some (.inl (ck_one 1)), some (.inl (0, 2, some (100, 0))), some (.inl (0, 25, none)), none, none, none], ([], [], [(226, 0, 0, ck_one 0), (227, 0, 0, ck_one 3), (227, 2, 9, ck_one 0), (243, 0, 5, ck_one 0)]), 300, .inl 4, true)] 1376 p34x_891 = true := by decide +kernel
theorem p34x_891_s {X : Int → Int} {LX : Nat} : ck_Ok p1_O X LX 360 p34x_891 := ck_ok_s (ck_E1 (ck_S1 p34x_887_s ck_S0) (ck_E1 (ck_S1 p34x_161_s ck_S0) (ck_E1 (ck_S1 p34x_163_s ck_S0) (ck_E1 (ck_S1 p34x_164_s ck_S0) (ck_E1 (ck_S1 p34x_165_s ck_S0) (ck_E1 (ck_S1 p34x_890_s ck_S0) ck_E0)))))) ck_X0 ck_l0 p34x_891_e
set_option maxRecDepth 100000 in
def p34x_894 : ck_Sum := ((2, 0, 0), 245, [.inr (.inr (.inl 226)), .inl (ck_one 25), .inl (ck_one 0)], ([], [], [(227, 0, 0, ck_one 3), (243, 0, 5, ck_one 0), (227, 2, 9, ck_one 0), (226, 0, 0, ck_one 0)]), ([(226, 0, 0), (243, 0, 2)], []), [(.inr (some (.inl (ck_one 0))), 245, ([], [], [(226, 0, 0, ck_one 0), (243, 0, 5, ck_one 0)]))])
set_option maxRecDepth 100000 in
theorem p34x_894_e : ck_ok p1_O none [] [(287, [p34x_887]), (283, [p34x_161]), (333, [p34x_163]), (262, [p34x_164]), (267, [p34x_165]), (334, [p34x_890])] 360 [(36, [some (.inr (.inr (.inl 226))), some (.inl (ck_one 25)), some (.inl (ck_one 0)), some (.inl (0, 3, none)), none, none, none, none], ([], [], [(226, 0, 0, ck_one 0), (227, 0, 0, ck_one 3), (243, 0, 5, ck_one 0), (227, 2, 9, ck_one 0)]), 100, .inl 3, true), (57, [some (.inr (.inr (.inl 226))), some (.inl (ck_one 25)), some (.inl (ck_one 0)), some (.inl (0, 2, some (100, 0))), some (.inl (0, 25, none)), none, none, none], ([], [], [(226, 0, 0, ck_one 0), (227, 0, 0, ck_one 3), (227, 2, 9, ck_one 0), (243, 0, 5, ck_one 0)]), 300, .inl 4, true)] 1370 p34x_894 = true := by decide +kernel
theorem p34x_894_s {X : Int → Int} {LX : Nat} : ck_Ok p1_O X LX 360 p34x_894 := ck_ok_s (ck_E1 (ck_S1 p34x_887_s ck_S0) (ck_E1 (ck_S1 p34x_161_s ck_S0) (ck_E1 (ck_S1 p34x_163_s ck_S0) (ck_E1 (ck_S1 p34x_164_s ck_S0) (ck_E1 (ck_S1 p34x_165_s ck_S0) (ck_E1 (ck_S1 p34x_890_s ck_S0) ck_E0)))))) ck_X0 ck_l0 p34x_894_e
set_option maxRecDepth 100000 in
def p34x_924 : ck_Sum := ((0, 0, 0), 245, [.inl (ck_one 26), .inl (ck_one 1), .inl (ck_one 30)], ([], [], []), ([], []), [(.inr (some (.inl (ck_one 1))), 245, ([], [], []))])
set_option maxRecDepth 100000 in
theorem p34x_924_e : ck_ok p1_O none [] [] 287 [] 88 p34x_924 = true := by decide +kernel
theorem p34x_924_s {X : Int → Int} {LX : Nat} : ck_Ok p1_O X LX 287 p34x_924 := ck_ok_s (ck_E0) ck_X0 ck_l0 p34x_924_e
set_option maxRecDepth 100000 in
def p34x_927 : ck_Sum := ((1, 0, 0), 245, [.inr (.inr (.inl 226)), .inl (0, 25, none), .inl (0, 2, none), .inl (ck_one 0)], ([], [], [(227, 2, 9, ck_one 0)]), ([], []), [(.inr (some (.inl (ck_one 0))), 245, ([], [], []))])
set_option maxRecDepth 100000 in
theorem p34x_927_e : ck_ok p1_O none [] [(255, [p34x_162])] 334 [(6, [some (.inr (.inr (.inl 226))), some (.inl (0, 25, none)), some (.inl (0, 2, none)), some (.inl (ck_one 0)), some (.inl (ck_one 0)), some (.inl (ck_one 0))], ([], [], [(227, 2, 9, ck_one 0)]), 100, .inl 4, true)] 114 p34x_927 = true := by decide +kernel
theorem p34x_927_s {X : Int → Int} {LX : Nat} : ck_Ok p1_O X LX 334 p34x_927 := ck_ok_s (ck_E1 (ck_S1 p34x_162_s ck_S0) ck_E0) ck_X0 ck_l0 p34x_927_e
set_option maxRecDepth 100000 in
def p34x_928 : ck_Sum := ((2, 0, 0), 245, [.inr (.inr (.inl 226)), .inl (ck_one 26), .inl (ck_one 1)], ([], [], [(227, 0, 0, ck_one 3), (243, 0, 5, ck_one 0), (227, 2, 9, ck_one 0), (226, 0, 0, ck_one 0)]), ([(226, 0, 0), (243, 0, 2)], []), [(.inr (some (.inl (ck_one 0))), 245, ([], [], [(226, 0, 0, ck_one 0), (243, 0, 5, ck_one 0)]))])
set_option maxRecDepth 100000 in
theorem p34x_928_e : ck_ok p1_O none [] [(287, [p34x_924]), (283, [p34x_161]), (333, [p34x_163]), (262, [p34x_164]), (267, [p34x_165]), (334, [p34x_927])] 360 [(36, [some (.inr (.inr (.inl 226))), some (.inl (ck_one 26)), some (.inl (ck_one 1)), some (.inl (0, 3, none)), none, none, none, none], ([], [], [(226, 0, 0, ck_one 0), (227, 0, 0, ck_one 3), (243, 0, 5, ck_one 0), (227, 2, 9, ck_one 0)]), 100, .inl 3, true), (57, [some (.inr (.inr (.inl 226))), some (.inl (ck_one 26)), some (.inl (ck_one 1)), some (.inl (0, 2, some (100, 0))), some (.inl (0, 26, none)), none, none, none], ([], [], [(226, 0, 0, ck_one 0), (227, 0, 0, ck_one 3), (227, 2, 9, ck_one 0), (243, 0, 5, ck_one 0)]), 300, .inl 4, true)] 1376 p34x_928 = true := by decide +kernel
theorem p34x_928_s {X : Int → Int} {LX : Nat} : ck_Ok p1_O X LX 360 p34x_928 := ck_ok_s (ck_E1 (ck_S1 p34x_924_s ck_S0) (ck_E1 (ck_S1 p34x_161_s ck_S0) (ck_E1 (ck_S1 p34x_163_s ck_S0) (ck_E1 (ck_S1 p34x_164_s ck_S0) (ck_E1 (ck_S1 p34x_165_s ck_S0) (ck_E1 (ck_S1 p34x_927_s ck_S0) ck_E0)))))) ck_X0 ck_l0 p34x_928_e
set_option maxRecDepth 100000 in
def p34x_931 : ck_Sum := ((2, 0, 0), 245, [.inr (.inr (.inl 226)), .inl (ck_one 26), .inl (ck_one 0)], ([], [], [(227, 0, 0, ck_one 3), (243, 0, 5, ck_one 0), (227, 2, 9, ck_one 0), (226, 0, 0, ck_one 0)]), ([(226, 0, 0), (243, 0, 2)], []), [(.inr (some (.inl (ck_one 0))), 245, ([], [], [(226, 0, 0, ck_one 0), (243, 0, 5, ck_one 0)]))])
set_option maxRecDepth 100000 in
theorem p34x_931_e : ck_ok p1_O none [] [(287, [p34x_924]), (283, [p34x_161]), (333, [p34x_163]), (262, [p34x_164]), (267, [p34x_165]), (334, [p34x_927])] 360 [(36, [some (.inr (.inr (.inl 226))), some (.inl (ck_one 26)), some (.inl (ck_one 0)), some (.inl (0, 3, none)), none, none, none, none], ([], [], [(226, 0, 0, ck_one 0), (227, 0, 0, ck_one 3), (243, 0, 5, ck_one 0), (227, 2, 9, ck_one 0)]), 100, .inl 3, true), (57, [some (.inr (.inr (.inl 226))), some (.inl (ck_one 26)), some (.inl (ck_one 0)), some (.inl (0, 2, some (100, 0))), some (.inl (0, 26, none)), none, none, none], ([], [], [(226, 0, 0, ck_one 0), (227, 0, 0, ck_one 3), (227, 2, 9, ck_one 0), (243, 0, 5, ck_one 0)]), 300, .inl 4, true)] 1370 p34x_931 = true := by decide +kernel
theorem p34x_931_s {X : Int → Int} {LX : Nat} : ck_Ok p1_O X LX 360 p34x_931 := ck_ok_s (ck_E1 (ck_S1 p34x_924_s ck_S0) (ck_E1 (ck_S1 p34x_161_s ck_S0) (ck_E1 (ck_S1 p34x_163_s ck_S0) (ck_E1 (ck_S1 p34x_164_s ck_S0) (ck_E1 (ck_S1 p34x_165_s ck_S0) (ck_E1 (ck_S1 p34x_927_s ck_S0) ck_E0)))))) ck_X0 ck_l0 p34x_931_e
set_option maxRecDepth 100000 in
def p34x_962 : ck_Sum := ((0, 0, 0), 245, [.inl (ck_one 27), .inl (ck_one 1), .inl (ck_one 30)], ([], [], []), ([], []), [(.inr (some (.inl (ck_one 1))), 245, ([], [], []))])
set_option maxRecDepth 100000 in
theorem p34x_962_e : ck_ok p1_O none [] [] 287 [] 88 p34x_962 = true := by decide +kernel
theorem p34x_962_s {X : Int → Int} {LX : Nat} : ck_Ok p1_O X LX 287 p34x_962 := ck_ok_s (ck_E0) ck_X0 ck_l0 p34x_962_e
set_option maxRecDepth 100000 in
def p34x_965 : ck_Sum := ((1, 0, 0), 245, [.inr (.inr (.inl 226)), .inl (0, 26, none), .inl (0, 2, none), .inl (ck_one 0)], ([], [], [(227, 2, 9, ck_one 0)]), ([], []), [(.inr (some (.inl (ck_one 0))), 245, ([], [], []))])
set_option maxRecDepth 100000 in
theorem p34x_965_e : ck_ok p1_O none [] [(255, [p34x_162])] 334 [(6, [some (.inr (.inr (.inl 226))), some (.inl (0, 26, none)), some (.inl (0, 2, none)), some (.inl (ck_one 0)), some (.inl (ck_one 0)), some (.inl (ck_one 0))], ([], [], [(227, 2, 9, ck_one 0)]), 100, .inl 4, true)] 114 p34x_965 = true := by decide +kernel
theorem p34x_965_s {X : Int → Int} {LX : Nat} : ck_Ok p1_O X LX 334 p34x_965 := ck_ok_s (ck_E1 (ck_S1 p34x_162_s ck_S0) ck_E0) ck_X0 ck_l0 p34x_965_e
set_option maxRecDepth 100000 in
def p34x_966 : ck_Sum := ((2, 0, 0), 245, [.inr (.inr (.inl 226)), .inl (ck_one 27), .inl (ck_one 1)], ([], [], [(227, 0, 0, ck_one 3), (243, 0, 5, ck_one 0), (227, 2, 9, ck_one 0), (226, 0, 0, ck_one 0)]), ([(226, 0, 0), (243, 0, 2)], []), [(.inr (some (.inl (ck_one 0))), 245, ([], [], [(226, 0, 0, ck_one 0), (243, 0, 5, ck_one 0)]))])
set_option maxRecDepth 100000 in
theorem p34x_966_e : ck_ok p1_O none [] [(287, [p34x_962]), (283, [p34x_161]), (333, [p34x_163]), (262, [p34x_164]), (267, [p34x_165]), (334, [p34x_965])] 360 [(36, [some (.inr (.inr (.inl 226))), some (.inl (ck_one 27)), some (.inl (ck_one 1)), some (.inl (0, 3, none)), none, none, none, none], ([], [], [(226, 0, 0, ck_one 0), (227, 0, 0, ck_one 3), (243, 0, 5, ck_one 0), (227, 2, 9, ck_one 0)]), 100, .inl 3, true), (57, [some (.inr (.inr (.inl 226))), some (.inl (ck_one 27)), some (.inl (ck_one 1)), some (.inl (0, 2, some (100, 0))), some (.inl (0, 27, none)), none, none, none], ([], [], [(226, 0, 0, ck_one 0), (227, 0, 0, ck_one 3), (227, 2, 9, ck_one 0), (243, 0, 5, ck_one 0)]), 300, .inl 4, true)] 1376 p34x_966 = true := by decide +kernel
theorem p34x_966_s {X : Int → Int} {LX : Nat} : ck_Ok p1_O X LX 360 p34x_966 := ck_ok_s (ck_E1 (ck_S1 p34x_962_s ck_S0) (ck_E1 (ck_S1 p34x_161_s ck_S0) (ck_E1 (ck_S1 p34x_163_s ck_S0) (ck_E1 (ck_S1 p34x_164_s ck_S0) (ck_E1 (ck_S1 p34x_165_s ck_S0) (ck_E1 (ck_S1 p34x_965_s ck_S0) ck_E0)))))) ck_X0 ck_l0 p34x_966_e
set_option maxRecDepth 100000 in
def p34x_969 : ck_Sum := ((2, 0, 0), 245, [.inr (.inr (.inl 226)), .inl (ck_one 27), .inl (ck_one 0)], ([], [], [(227, 0, 0, ck_one 3), (243, 0, 5, ck_one 0), (227, 2, 9, ck_one 0), (226, 0, 0, ck_one 0)]), ([(226, 0, 0), (243, 0, 2)], []), [(.inr (some (.inl (ck_one 0))), 245, ([], [], [(226, 0, 0, ck_one 0), (243, 0, 5, ck_one 0)]))])
set_option maxRecDepth 100000 in
theorem p34x_969_e : ck_ok p1_O none [] [(287, [p34x_962]), (283, [p34x_161]), (333, [p34x_163]), (262, [p34x_164]), (267, [p34x_165]), (334, [p34x_965])] 360 [(36, [some (.inr (.inr (.inl 226))), some (.inl (ck_one 27)), some (.inl (ck_one 0)), some (.inl (0, 3, none)), none, none, none, none], ([], [], [(226, 0, 0, ck_one 0), (227, 0, 0, ck_one 3), (243, 0, 5, ck_one 0), (227, 2, 9, ck_one 0)]), 100, .inl 3, true), (57, [some (.inr (.inr (.inl 226))), some (.inl (ck_one 27)), some (.inl (ck_one 0)), some (.inl (0, 2, some (100, 0))), some (.inl (0, 27, none)), none, none, none], ([], [], [(226, 0, 0, ck_one 0), (227, 0, 0, ck_one 3), (227, 2, 9, ck_one 0), (243, 0, 5, ck_one 0)]), 300, .inl 4, true)] 1370 p34x_969 = true := by decide +kernel
theorem p34x_969_s {X : Int → Int} {LX : Nat} : ck_Ok p1_O X LX 360 p34x_969 := ck_ok_s (ck_E1 (ck_S1 p34x_962_s ck_S0) (ck_E1 (ck_S1 p34x_161_s ck_S0) (ck_E1 (ck_S1 p34x_163_s ck_S0) (ck_E1 (ck_S1 p34x_164_s ck_S0) (ck_E1 (ck_S1 p34x_165_s ck_S0) (ck_E1 (ck_S1 p34x_965_s ck_S0) ck_E0)))))) ck_X0 ck_l0 p34x_969_e
set_option maxRecDepth 100000 in
def p34x_1000 : ck_Sum := ((0, 0, 0), 245, [.inl (ck_one 28), .inl (ck_one 1), .inl (ck_one 30)], ([], [], []), ([], []), [(.inr (some (.inl (ck_one 1))), 245, ([], [], []))])
set_option maxRecDepth 100000 in
theorem p34x_1000_e : ck_ok p1_O none [] [] 287 [] 88 p34x_1000 = true := by decide +kernel
theorem p34x_1000_s {X : Int → Int} {LX : Nat} : ck_Ok p1_O X LX 287 p34x_1000 := ck_ok_s (ck_E0) ck_X0 ck_l0 p34x_1000_e
set_option maxRecDepth 100000 in
def p34x_1003 : ck_Sum := ((1, 0, 0), 245, [.inr (.inr (.inl 226)), .inl (0, 27, none), .inl (0, 2, none), .inl (ck_one 0)], ([], [], [(227, 2, 9, ck_one 0)]), ([], []), [(.inr (some (.inl (ck_one 0))), 245, ([], [], []))])
set_option maxRecDepth 100000 in
theorem p34x_1003_e : ck_ok p1_O none [] [(255, [p34x_162])] 334 [(6, [some (.inr (.inr (.inl 226))), some (.inl (0, 27, none)), some (.inl (0, 2, none)), some (.inl (ck_one 0)), some (.inl (ck_one 0)), some (.inl (ck_one 0))], ([], [], [(227, 2, 9, ck_one 0)]), 100, .inl 4, true)] 114 p34x_1003 = true := by decide +kernel
theorem p34x_1003_s {X : Int → Int} {LX : Nat} : ck_Ok p1_O X LX 334 p34x_1003 := ck_ok_s (ck_E1 (ck_S1 p34x_162_s ck_S0) ck_E0) ck_X0 ck_l0 p34x_1003_e
set_option maxRecDepth 100000 in
def p34x_1004 : ck_Sum := ((2, 0, 0), 245, [.inr (.inr (.inl 226)), .inl (ck_one 28), .inl (ck_one 1)], ([], [], [(227, 0, 0, ck_one 3), (243, 0, 5, ck_one 0), (227, 2, 9, ck_one 0), (226, 0, 0, ck_one 0)]), ([(226, 0, 0), (243, 0, 2)], []), [(.inr (some (.inl (ck_one 0))), 245, ([], [], [(226, 0, 0, ck_one 0), (243, 0, 5, ck_one 0)]))])
set_option maxRecDepth 100000 in
theorem p34x_1004_e : ck_ok p1_O none [] [(287, [p34x_1000]), (283, [p34x_161]), (333, [p34x_163]), (262, [p34x_164]), (267, [p34x_165]), (334, [p34x_1003])] 360 [(36, [some (.inr (.inr (.inl 226))), some (.inl (ck_one 28)), some (.inl (ck_one 1)), some (.inl (0, 3, none)), none, none, none, none], ([], [], [(226, 0, 0, ck_one 0), (227, 0, 0, ck_one 3), (243, 0, 5, ck_one 0), (227, 2, 9, ck_one 0)]), 100, .inl 3, true), (57, [some (.inr (.inr (.inl 226))), some (.inl (ck_one 28)), some (.inl (ck_one 1)), some (.inl (0, 2, some (100, 0))), some (.inl (0, 28, none)), none, none, none], ([], [], [(226, 0, 0, ck_one 0), (227, 0, 0, ck_one 3), (227, 2, 9, ck_one 0), (243, 0, 5, ck_one 0)]), 300, .inl 4, true)] 1376 p34x_1004 = true := by decide +kernel
theorem p34x_1004_s {X : Int → Int} {LX : Nat} : ck_Ok p1_O X LX 360 p34x_1004 := ck_ok_s (ck_E1 (ck_S1 p34x_1000_s ck_S0) (ck_E1 (ck_S1 p34x_161_s ck_S0) (ck_E1 (ck_S1 p34x_163_s ck_S0) (ck_E1 (ck_S1 p34x_164_s ck_S0) (ck_E1 (ck_S1 p34x_165_s ck_S0) (ck_E1 (ck_S1 p34x_1003_s ck_S0) ck_E0)))))) ck_X0 ck_l0 p34x_1004_e
set_option maxRecDepth 100000 in
def p34x_1007 : ck_Sum := ((2, 0, 0), 245, [.inr (.inr (.inl 226)), .inl (ck_one 28), .inl (ck_one 0)], ([], [], [(227, 0, 0, ck_one 3), (243, 0, 5, ck_one 0), (227, 2, 9, ck_one 0), (226, 0, 0, ck_one 0)]), ([(226, 0, 0), (243, 0, 2)], []), [(.inr (some (.inl (ck_one 0))), 245, ([], [], [(226, 0, 0, ck_one 0), (243, 0, 5, ck_one 0)]))])
set_option maxRecDepth 100000 in
theorem p34x_1007_e : ck_ok p1_O none [] [(287, [p34x_1000]), (283, [p34x_161]), (333, [p34x_163]), (262, [p34x_164]), (267, [p34x_165]), (334, [p34x_1003])] 360 [(36, [some (.inr (.inr (.inl 226))), some (.inl (ck_one 28)), some (.inl (ck_one 0)), some (.inl (0, 3, none)), none, none, none, none], ([], [], [(226, 0, 0, ck_one 0), (227, 0, 0, ck_one 3), (243, 0, 5, ck_one 0), (227, 2, 9, ck_one 0)]), 100, .inl 3, true), (57, [some (.inr (.inr (.inl 226))), some (.inl (ck_one 28)), some (.inl (ck_one 0)), some (.inl (0, 2, some (100, 0))), some (.inl (0, 28, none)), none, none, none], ([], [], [(226, 0, 0, ck_one 0), (227, 0, 0, ck_one 3), (227, 2, 9, ck_one 0), (243, 0, 5, ck_one 0)]), 300, .inl 4, true)] 1370 p34x_1007 = true := by decide +kernel
theorem p34x_1007_s {X : Int → Int} {LX : Nat} : ck_Ok p1_O X LX 360 p34x_1007 := ck_ok_s (ck_E1 (ck_S1 p34x_1000_s ck_S0) (ck_E1 (ck_S1 p34x_161_s ck_S0) (ck_E1 (ck_S1 p34x_163_s ck_S0) (ck_E1 (ck_S1 p34x_164_s ck_S0) (ck_E1 (ck_S1 p34x_165_s ck_S0) (ck_E1 (ck_S1 p34x_1003_s ck_S0) ck_E0)))))) ck_X0 ck_l0 p34x_1007_e
set_option maxRecDepth 100000 in
def p34x_1038 : ck_Sum := ((0, 0, 0), 245, [.inl (ck_one 29), .inl (ck_one 1), .inl (ck_one 30)], ([], [], []), ([], []), [(.inr (some (.inl (ck_one 1))), 245, ([], [], []))])
set_option maxRecDepth 100000 in
theorem p34x_1038_e : ck_ok p1_O none [] [] 287 [] 88 p34x_1038 = true := by decide +kernel
theorem p34x_1038_s {X : Int → Int} {LX : Nat} : ck_Ok p1_O X LX 287 p34x_1038 := ck_ok_s (ck_E0) ck_X0 ck_l0 p34x_1038_e
set_option maxRecDepth 100000 in
def p34x_1041 : ck_Sum := ((1, 0, 0), 245, [.inr (.inr (.inl 226)), .inl (0, 28, none), .inl (0, 2, none), .inl (ck_one 0)], ([], [], [(227, 2, 9, ck_one 0)]), ([], []), [(.inr (some (.inl (ck_one 0))), 245, ([], [], []))])
set_option maxRecDepth 100000 in
theorem p34x_1041_e : ck_ok p1_O none [] [(255, [p34x_162])] 334 [(6, [some (.inr (.inr (.inl 226))), some (.inl (0, 28, none)), some (.inl (0, 2, none)), some (.inl (ck_one 0)), some (.inl (ck_one 0)), some (.inl (ck_one 0))], ([], [], [(227, 2, 9, ck_one 0)]), 100, .inl 4, true)] 114 p34x_1041 = true := by decide +kernel
theorem p34x_1041_s {X : Int → Int} {LX : Nat} : ck_Ok p1_O X LX 334 p34x_1041 := ck_ok_s (ck_E1 (ck_S1 p34x_162_s ck_S0) ck_E0) ck_X0 ck_l0 p34x_1041_e
set_option maxRecDepth 100000 in
def p34x_1042 : ck_Sum := ((2, 0, 0), 245, [.inr (.inr (.inl 226)), .inl (ck_one 29), .inl (ck_one 1)], ([], [], [(227, 0, 0, ck_one 3), (243, 0, 5, ck_one 0), (227, 2, 9, ck_one 0), (226, 0, 0, ck_one 0)]), ([(226, 0, 0), (243, 0, 2)], []), [(.inr (some (.inl (ck_one 0))), 245, ([], [], [(226, 0, 0, ck_one 0), (243, 0, 5, ck_one 0)]))])
set_option maxRecDepth 100000 in
theorem p34x_1042_e : ck_ok p1_O none [] [(287, [p34x_1038]), (283, [p34x_161]), (333, [p34x_163]), (262, [p34x_164]), (267, [p34x_165]), (334, [p34x_1041])] 360 [(36, [some (.inr (.inr (.inl 226))), some (.inl (ck_one 29)), some (.inl (ck_one 1)), some (.inl (0, 3, none)), none, none, none, none], ([], [], [(226, 0, 0, ck_one 0), (227, 0, 0, ck_one 3), (243, 0, 5, ck_one 0), (227, 2, 9, ck_one 0)]), 100, .inl 3, true), (57, [some (.inr (.inr (.inl 226))), some (.inl (ck_one 29)), some (.inl (ck_one 1)), some (.inl (0, 2, some (100, 0))), some (.inl (0, 29, none)), none, none, none], ([], [], [(226, 0, 0, ck_one 0), (227, 0, 0, ck_one 3), (227, 2, 9, ck_one 0), (243, 0, 5, ck_one 0)]), 300, .inl 4, true)] 1376 p34x_1042 = true := by decide +kernel
theorem p34x_1042_s {X : Int → Int} {LX : Nat} : ck_Ok p1_O X LX 360 p34x_1042 := ck_ok_s (ck_E1 (ck_S1 p34x_1038_s ck_S0) (ck_E1 (ck_S1 p34x_161_s ck_S0) (ck_E1 (ck_S1 p34x_163_s ck_S0) (ck_E1 (ck_S1 p34x_164_s ck_S0) (ck_E1 (ck_S1 p34x_165_s ck_S0) (ck_E1 (ck_S1 p34x_1041_s ck_S0) ck_E0)))))) ck_X0 ck_l0 p34x_1042_e
set_option maxRecDepth 100000 in
def p34x_1045 : ck_Sum := ((2, 0, 0), 245, [.inr (.inr (.inl 226)), .inl (ck_one 29), .inl (ck_one 0)], ([], [], [(227, 0, 0, ck_one 3), (243, 0, 5, ck_one 0), (227, 2, 9, ck_one 0), (226, 0, 0, ck_one 0)]), ([(226, 0, 0), (243, 0, 2)], []), [(.inr (some (.inl (ck_one 0))), 245, ([], [], [(226, 0, 0, ck_one 0), (243, 0, 5, ck_one 0)]))])
set_option maxRecDepth 100000 in
theorem p34x_1045_e : ck_ok p1_O none [] [(287, [p34x_1038]), (283, [p34x_161]), (333, [p34x_163]), (262, [p34x_164]), (267, [p34x_165]), (334, [p34x_1041])] 360 [(36, [some (.inr (.inr (.inl 226))), some (.inl (ck_one 29)), some (.inl (ck_one 0)), some (.inl (0, 3, none)), none, none, none, none], ([], [], [(226, 0, 0, ck_one 0), (227, 0, 0, ck_one 3), (243, 0, 5, ck_one 0), (227, 2, 9, ck_one 0)]), 100, .inl 3, true), (57, [some (.inr (.inr (.inl 226))), some (.inl (ck_one 29)), some (.inl (ck_one 0)), some (.inl (0, 2, some (100, 0))), some (.inl (0, 29, none)), none, none, none], ([], [], [(226, 0, 0, ck_one 0), (227, 0, 0, ck_one 3), (227, 2, 9, ck_one 0), (243, 0, 5, ck_one 0)]), 300, .inl 4, true)] 1370 p34x_1045 = true := by decide +kernel
theorem p34x_1045_s {X : Int → Int} {LX : Nat} : ck_Ok p1_O X LX 360 p34x_1045 := ck_ok_s (ck_E1 (ck_S1 p34x_1038_s ck_S0) (ck_E1 (ck_S1 p34x_161_s ck_S0) (ck_E1 (ck_S1 p34x_163_s ck_S0) (ck_E1 (ck_S1 p34x_164_s ck_S0) (ck_E1 (ck_S1 p34x_165_s ck_S0) (ck_E1 (ck_S1 p34x_1041_s ck_S0) ck_E0)))))) ck_X0 ck_l0 p34x_1045_e
set_option maxRecDepth 100000 in
def p34x_1076 : ck_Sum := ((0, 0, 0), 245, [.inl (ck_one 30), .inl (ck_one 1), .inl (ck_one 30)], ([], [], []), ([], []), [(.inr (some (.inl (ck_one 1))), 245, ([], [], []))])
set_option maxRecDepth 100000 in
theorem p34x_1076_e : ck_ok p1_O none [] [] 287 [] 88 p34x_1076 = true := by decide +kernel
theorem p34x_1076_s {X : Int → Int} {LX : Nat} : ck_Ok p1_O X LX 287 p34x_1076 := ck_ok_s (ck_E0) ck_X0 ck_l0 p34x_1076_e
set_option maxRecDepth 100000 in
def p34x_1079 : ck_Sum := ((1, 0, 0), 245, [.inr (.inr (.inl 226)), .inl (0, 29, none), .inl (0, 2, none), .inl (ck_one 0)], ([], [], [(227, 2, 9, ck_one 0)]), ([], []), [(.inr (some (.inl (ck_one 0))), 245, ([], [], []))])
set_option maxRecDepth 100000 in
theorem p34x_1079_e : ck_ok p1_O none [] [(255, [p34x_162])] 334 [(6, [some (.inr (.inr (.inl 226))), some (.inl (0, 29, none)), some (.inl (0, 2, none)), some (.inl (ck_one 0)), some (.inl (ck_one 0)), some (.inl (ck_one 0))], ([], [], [(227, 2, 9, ck_one 0)]), 100, .inl 4, true)] 114 p34x_1079 = true := by decide +kernel
theorem p34x_1079_s {X : Int → Int} {LX : Nat} : ck_Ok p1_O X LX 334 p34x_1079 := ck_ok_s (ck_E1 (ck_S1 p34x_162_s ck_S0) ck_E0) ck_X0 ck_l0 p34x_1079_e
set_option maxRecDepth 100000 in
def p34x_1080 : ck_Sum := ((2, 0, 0), 245, [.inr (.inr (.inl 226)), .inl (ck_one 30), .inl (ck_one 1)], ([], [], [(227, 0, 0, ck_one 3), (243, 0, 5, ck_one 0), (227, 2, 9, ck_one 0), (226, 0, 0, ck_one 0)]), ([(226, 0, 0), (243, 0, 2)], []), [(.inr (some (.inl (ck_one 0))), 245, ([], [], [(226, 0, 0, ck_one 0), (243, 0, 5, ck_one 0)]))])
set_option maxRecDepth 100000 in
theorem p34x_1080_e : ck_ok p1_O none [] [(287, [p34x_1076]), (283, [p34x_161]), (333, [p34x_163]), (262, [p34x_164]), (267, [p34x_165]), (334, [p34x_1079])] 360 [(36, [some (.inr (.inr (.inl 226))), some (.inl (ck_one 30)), some (.inl (ck_one 1)), some (.inl (0, 3, none)), none, none, none, none], ([], [], [(226, 0, 0, ck_one 0), (227, 0, 0, ck_one 3), (243, 0, 5, ck_one 0), (227, 2, 9, ck_one 0)]), 100, .inl 3, true), (57, [some (.inr (.inr (.inl 226))), some (.inl (ck_one 30)), some (.inl (ck_one 1)), some (.inl (0, 2, some (100, 0))), some (.inl (0, 30, none)), none, none, none], ([], [], [(226, 0, 0, ck_one 0), (227, 0, 0, ck_one 3), (227, 2, 9, ck_one 0), (243, 0, 5, ck_one 0)]), 300, .inl 4, true)] 1376 p34x_1080 = true := by decide +kernel
theorem p34x_1080_s {X : Int → Int} {LX : Nat} : ck_Ok p1_O X LX 360 p34x_1080 := ck_ok_s (ck_E1 (ck_S1 p34x_1076_s ck_S0) (ck_E1 (ck_S1 p34x_161_s ck_S0) (ck_E1 (ck_S1 p34x_163_s ck_S0) (ck_E1 (ck_S1 p34x_164_s ck_S0) (ck_E1 (ck_S1 p34x_165_s ck_S0) (ck_E1 (ck_S1 p34x_1079_s ck_S0) ck_E0)))))) ck_X0 ck_l0 p34x_1080_e
set_option maxRecDepth 100000 in
def p34x_1083 : ck_Sum := ((2, 0, 0), 245, [.inr (.inr (.inl 226)), .inl (ck_one 30), .inl (ck_one 0)], ([], [], [(227, 0, 0, ck_one 3), (243, 0, 5, ck_one 0), (227, 2, 9, ck_one 0), (226, 0, 0, ck_one 0)]), ([(226, 0, 0), (243, 0, 2)], []), [(.inr (some (.inl (ck_one 0))), 245, ([], [], [(226, 0, 0, ck_one 0), (243, 0, 5, ck_one 0)]))])
set_option maxRecDepth 100000 in
theorem p34x_1083_e : ck_ok p1_O none [] [(287, [p34x_1076]), (283, [p34x_161]), (333, [p34x_163]), (262, [p34x_164]), (267, [p34x_165]), (334, [p34x_1079])] 360 [(36, [some (.inr (.inr (.inl 226))), some (.inl (ck_one 30)), some (.inl (ck_one 0)), some (.inl (0, 3, none)), none, none, none, none], ([], [], [(226, 0, 0, ck_one 0), (227, 0, 0, ck_one 3), (243, 0, 5, ck_one 0), (227, 2, 9, ck_one 0)]), 100, .inl 3, true), (57, [some (.inr (.inr (.inl 226))), some (.inl (ck_one 30)), some (.inl (ck_one 0)), some (.inl (0, 2, some (100, 0))), some (.inl (0, 30, none)), none, none, none], ([], [], [(226, 0, 0, ck_one 0), (227, 0, 0, ck_one 3), (227, 2, 9, ck_one 0), (243, 0, 5, ck_one 0)]), 300, .inl 4, true)] 1370 p34x_1083 = true := by decide +kernel
theorem p34x_1083_s {X : Int → Int} {LX : Nat} : ck_Ok p1_O X LX 360 p34x_1083 := ck_ok_s (ck_E1 (ck_S1 p34x_1076_s ck_S0) (ck_E1 (ck_S1 p34x_161_s ck_S0) (ck_E1 (ck_S1 p34x_163_s ck_S0) (ck_E1 (ck_S1 p34x_164_s ck_S0) (ck_E1 (ck_S1 p34x_165_s ck_S0) (ck_E1 (ck_S1 p34x_1079_s ck_S0) ck_E0)))))) ck_X0 ck_l0 p34x_1083_e
set_option maxRecDepth 100000 in
def p34x_1087 : ck_Sum := ((0, 0, 0), 245, [.inl (31, 2147483647, none), .inl (ck_one 1), .inl (ck_one 30)], ([], [], []), ([], []), [(.inr (some (.inl (ck_one 0))), 245, ([], [], []))])
set_option maxRecDepth 100000 in
theorem p34x_1087_e : ck_ok p1_O none [] [] 287 [] 86 p34x_1087 = true := by decide +kernel
theorem p34x_1087_s {X : Int → Int} {LX : Nat} : ck_Ok p1_O X LX 287 p34x_1087 := ck_ok_s (ck_E0) ck_X0 ck_l0 p34x_1087_e
set_option maxRecDepth 100000 in
def p34x_1088 : ck_Sum := ((1, 0, 0), 245, [.inr (.inr (.inl 226)), .inl (31, 2147483647, none), .inl (ck_one 1)], ([], [], []), ([(226, 0, 0)], []), [(.inr (some (.inl (ck_one 0))), 245, ([], [], [(226, 0, 0, ck_one 1)]))])
set_option maxRecDepth 100000 in
theorem p34x_1088_e : ck_ok p1_O none [] [(287, [p34x_1087]), (283, [p34x_137])] 360 [] 102 p34x_1088 = true := by decide +kernel
theorem p34x_1088_s {X : Int → Int} {LX : Nat} : ck_Ok p1_O X LX 360 p34x_1088 := ck_ok_s (ck_E1 (ck_S1 p34x_1087_s ck_S0) (ck_E1 (ck_S1 p34x_137_s ck_S0) ck_E0)) ck_X0 ck_l0 p34x_1088_e
set_option maxRecDepth 100000 in
def p34x_1091 : ck_Sum := ((1, 0, 0), 245, [.inr (.inr (.inl 226)), .inl (31, 2147483647, none), .inl (ck_one 0)], ([], [], []), ([(226, 0, 0)], []), [(.inr (some (.inl (ck_one 0))), 245, ([], [], [(226, 0, 0, ck_one 1)]))])
set_option maxRecDepth 100000 in
theorem p34x_1091_e : ck_ok p1_O none [] [(287, [p34x_1087]), (283, [p34x_137])] 360 [] 102 p34x_1091 = true := by decide +kernel
theorem p34x_1091_s {X : Int → Int} {LX : Nat} : ck_Ok p1_O X LX 360 p34x_1091 := ck_ok_s (ck_E1 (ck_S1 p34x_1087_s ck_S0) (ck_E1 (ck_S1 p34x_137_s ck_S0) ck_E0)) ck_X0 ck_l0 p34x_1091_e
set_option maxRecDepth 100000 in
def p34x_139 : ck_Sum := ((0, 0, 0), 245, [.inr (.inr (.inl 226))], ([], [], [(226, 0, 0, ck_one 1)]), ([], []), [(.inr (some (.inl (ck_one 1))), 245, ([], [], []))])
set_option maxRecDepth 100000 in
theorem p34x_139_e : ck_ok p1_O none [] [] 234 [] 76 p34x_139 = true := by decide +kernel
theorem p34x_139_s {X : Int → Int} {LX : Nat} : ck_Ok p1_O X LX 234 p34x_139 := ck_ok_s (ck_E0) ck_X0 ck_l0 p34x_139_e
set_option maxRecDepth 100000 in
def p34x_170 : ck_Sum := ((0, 0, 0), 245, [.inr (.inr (.inl 226))], ([], [], [(226, 0, 0, ck_one 0)]), ([], []), [(.inr (some (.inl (ck_one 0))), 245, ([], [], []))])
set_option maxRecDepth 100000 in
theorem p34x_170_e : ck_ok p1_O none [] [] 234 [] 76 p34x_170 = true := by decide +kernel
theorem p34x_170_s {X : Int → Int} {LX : Nat} : ck_Ok p1_O X LX 234 p34x_170 := ck_ok_s (ck_E0) ck_X0 ck_l0 p34x_170_e
set_option maxRecDepth 100000 in
def p34_F : ck_F := ([], [(3, 8, 0), (16, 8, 0), (29, 8, 0), (44, 8, 0), (57, 8, 0), (70, 8, 0), (83, 8, 0), (96, 8, 0), (109, 8, 0), (122, 8, 0), (135, 8, 0), (148, 8, 0), (161, 8, 0), (174, 8, 0), (187, 8, 0)], [(245, 0, 0, ck_one 0), (227, 0, 0, ck_one 3), (243, 0, 5, ck_one 0), (227, 2, 9, ck_one 0), (226, 0, 0, ck_one 0), (222, 1, 1, ck_one 6), (222, 0, 0, ck_one 30), (222, 3, 3, ck_one 0), (1, 15, 15, ck_one 0), (220, 0, 0, ck_one 24), (220, 3, 3, ck_one 0), (10, 3, 3, ck_one 0), (3, 0, 0, ck_one 3), (223, 0, 179, ck_one 0)])
def p34_E : List (Nat × List ck_Sum) := [(217, [p34x_135, p34x_141, p34x_159, p34x_172, p34x_185, p34x_192, p34x_206, p34x_213, p34x_228, p34x_235, p34x_251, p34x_258, p34x_275, p34x_282, p34x_300, p34x_307, p34x_326, p34x_333, p34x_353, p34x_360, p34x_381, p34x_388, p34x_410, p34x_417, p34x_440, p34x_447, p34x_471, p34x_478, p34x_503, p34x_510, p34x_536, p34x_543, p34x_570, p34x_577, p34x_605, p34x_612, p34x_640, p34x_647, p34x_675, p34x_682, p34x_710, p34x_717, p34x_745, p34x_752, p34x_780, p34x_787, p34x_815, p34x_822, p34x_850, p34x_857, p34x_886, p34x_893, p34x_923, p34x_930, p34x_961, p34x_968, p34x_999, p34x_1006, p34x_1037, p34x_1044, p34x_1075, p34x_1082, p34x_1086, p34x_1090]), (360, [p34x_138, p34x_142, p34x_169, p34x_173, p34x_190, p34x_193, p34x_211, p34x_214, p34x_233, p34x_236, p34x_256, p34x_259, p34x_280, p34x_283, p34x_305, p34x_308, p34x_331, p34x_334, p34x_358, p34x_361, p34x_386, p34x_389, p34x_415, p34x_418, p34x_445, p34x_448, p34x_476, p34x_479, p34x_508, p34x_511, p34x_541, p34x_544, p34x_575, p34x_578, p34x_610, p34x_613, p34x_645, p34x_648, p34x_680, p34x_683, p34x_715, p34x_718, p34x_750, p34x_753, p34x_785, p34x_788, p34x_820, p34x_823, p34x_855, p34x_858, p34x_891, p34x_894, p34x_928, p34x_931, p34x_966, p34x_969, p34x_1004, p34x_1007, p34x_1042, p34x_1045, p34x_1080, p34x_1083, p34x_1088, p34x_1091]), (234, [p34x_139, p34x_170])]
set_option maxRecDepth 100000 in
theorem p34_h {X : Int → Int} {LX : Nat} : ck_OkE p1_O X LX p34_E := ck_E1 (ck_S1 p34x_135_s (ck_S1 p34x_141_s (ck_S1 p34x_159_s (ck_S1 p34x_172_s (ck_S1 p34x_185_s (ck_S1 p34x_192_s (ck_S1 p34x_206_s (ck_S1 p34x_213_s (ck_S1 p34x_228_s (ck_S1 p34x_235_s (ck_S1 p34x_251_s (ck_S1 p34x_258_s (ck_S1 p34x_275_s (ck_S1 p34x_282_s (ck_S1 p34x_300_s (ck_S1 p34x_307_s (ck_S1 p34x_326_s (ck_S1 p34x_333_s (ck_S1 p34x_353_s (ck_S1 p34x_360_s (ck_S1 p34x_381_s (ck_S1 p34x_388_s (ck_S1 p34x_410_s (ck_S1 p34x_417_s (ck_S1 p34x_440_s (ck_S1 p34x_447_s (ck_S1 p34x_471_s (ck_S1 p34x_478_s (ck_S1 p34x_503_s (ck_S1 p34x_510_s (ck_S1 p34x_536_s (ck_S1 p34x_543_s (ck_S1 p34x_570_s (ck_S1 p34x_577_s (ck_S1 p34x_605_s (ck_S1 p34x_612_s (ck_S1 p34x_640_s (ck_S1 p34x_647_s (ck_S1 p34x_675_s (ck_S1 p34x_682_s (ck_S1 p34x_710_s (ck_S1 p34x_717_s (ck_S1 p34x_745_s (ck_S1 p34x_752_s (ck_S1 p34x_780_s (ck_S1 p34x_787_s (ck_S1 p34x_815_s (ck_S1 p34x_822_s (ck_S1 p34x_850_s (ck_S1 p34x_857_s (ck_S1 p34x_886_s (ck_S1 p34x_893_s (ck_S1 p34x_923_s (ck_S1 p34x_930_s (ck_S1 p34x_961_s (ck_S1 p34x_968_s (ck_S1 p34x_999_s (ck_S1 p34x_1006_s (ck_S1 p34x_1037_s (ck_S1 p34x_1044_s (ck_S1 p34x_1075_s (ck_S1 p34x_1082_s (ck_S1 p34x_1086_s (ck_S1 p34x_1090_s ck_S0)))))))))))))))))))))))))))))))))))))))))))))))))))))))))))))))) (ck_E1 (ck_S1 p34x_138_s (ck_S1 p34x_142_s (ck_S1 p34x_169_s (ck_S1 p34x_173_s (ck_S1 p34x_190_s (ck_S1 p34x_193_s (ck_S1 p34x_211_s (ck_S1 p34x_214_s (ck_S1 p34x_233_s (ck_S1 p34x_236_s (ck_S1 p34x_256_s (ck_S1 p34x_259_s (ck_S1 p34x_280_s (ck_S1 p34x_283_s (ck_S1 p34x_305_s (ck_S1 p34x_308_s (ck_S1 p34x_331_s (ck_S1 p34x_334_s (ck_S1 p34x_358_s (ck_S1 p34x_361_s (ck_S1 p34x_386_s (ck_S1 p34x_389_s (ck_S1 p34x_415_s (ck_S1 p34x_418_s (ck_S1 p34x_445_s (ck_S1 p34x_448_s (ck_S1 p34x_476_s (ck_S1 p34x_479_s (ck_S1 p34x_508_s (ck_S1 p34x_511_s (ck_S1 p34x_541_s (ck_S1 p34x_544_s (ck_S1 p34x_575_s (ck_S1 p34x_578_s (ck_S1 p34x_610_s (ck_S1 p34x_613_s (ck_S1 p34x_645_s (ck_S1 p34x_648_s (ck_S1 p34x_680_s (ck_S1 p34x_683_s (ck_S1 p34x_715_s (ck_S1 p34x_718_s (ck_S1 p34x_750_s (ck_S1 p34x_753_s (ck_S1 p34x_785_s (ck_S1 p34x_788_s (ck_S1 p34x_820_s (ck_S1 p34x_823_s (ck_S1 p34x_855_s (ck_S1 p34x_858_s (ck_S1 p34x_891_s (ck_S1 p34x_894_s (ck_S1 p34x_928_s (ck_S1 p34x_931_s (ck_S1 p34x_966_s (ck_S1 p34x_969_s (ck_S1 p34x_1004_s (ck_S1 p34x_1007_s (ck_S1 p34x_1042_s (ck_S1 p34x_1045_s (ck_S1 p34x_1080_s (ck_S1 p34x_1083_s (ck_S1 p34x_1088_s (ck_S1 p34x_1091_s ck_S0)))))))))))))))))))))))))))))))))))))))))))))))))))))))))))))))) (ck_E1 (ck_S1 p34x_139_s (ck_S1 p34x_170_s ck_S0)) ck_E0))
set_option maxRecDepth 100000 in
theorem p34_b : (ck_prod [(1, [((-2147483648), 0), (1, 1), (2, 2), (3, 3), (4, 4), (5, 5), (6, 6), (7, 7), (8, 8), (9, 9), (10, 10), (11, 11), (12, 12), (13, 13), (14, 14), (15, 15), (16, 16), (17, 17), (18, 18), (19, 19), (20, 20), (21, 21), (22, 22), (23, 23), (24, 24), (25, 25), (26, 26), (27, 27), (28, 28), (29, 29), (30, 30), (31, 2147483647)]), (2, [((-2147483648), (-1)), (0, 0), (1, 2147483647)])]).all (fun xf => ck_go p1_O (some 6) xf p34_E 370 280 245 p1_W p1_outs [] 164 false [] 1000 2000 2341 p1_L [] 245 p34_F) = true := by decide +kernel
theorem p34_s {X : Int → Int} {LX : Nat} (hLX : 6 = LX) (hX : ∀ j, gm_ir (X j)) {σ : Nat → Int} {L : gm_L} {K0 K : gm_K} {R0 R : gm_R} {M0 M : gm_M} (hS : ck_St p1_O σ p1_W 245 K0 R0 M0 p1_L [] p34_F L [] 245 K R M) : gm_Wp X LX 280 1000 2000 370 2341 L [] 245 K R M (ck_Q p1_O σ p1_W 245 K0 R0 M0 p1_outs) := ck_boxes p34_h hLX hX (by decide +kernel) p34_b hS
