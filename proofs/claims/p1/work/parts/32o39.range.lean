/-! range, on a new object: laid by wip/am/p1g.py. -/
set_option maxRecDepth 100000 in
def p39x_133 : ck_Sum := ((6, 1, 6), 245, [.inr (.inr (.inl 1)), .inl ((-2147483648), (-1), none), .inl (ck_one 3)], ([], [], []), ([], []), [(.inl 3, 245, ([], [], []))])
set_option maxRecDepth 100000 in
theorem p39x_133_e : ck_ok p1_O none [] [] 133 [] 76 p39x_133 = true := by decide +kernel
theorem p39x_133_s {X : Int → Int} {LX : Nat} : ck_Ok p1_O X LX 133 p39x_133 := ck_ok_s (ck_E0) ck_X0 ck_l0 p39x_133_e
set_option maxRecDepth 100000 in
def p39x_134 : ck_Sum := ((7, 1, 6), 245, [.inr (.inr (.inl 1)), .inl ((-2147483648), (-1), none)], ([], [], [(3, 0, 0, ck_one 3)]), ([], []), [(.inl 3, 245, ([], [], []))])
set_option maxRecDepth 100000 in
theorem p39x_134_e : ck_ok p1_O none [] [(133, [p39x_133])] 132 [] 82 p39x_134 = true := by decide +kernel
theorem p39x_134_s {X : Int → Int} {LX : Nat} : ck_Ok p1_O X LX 132 p39x_134 := ck_ok_s (ck_E1 (ck_S1 p39x_133_s ck_S0) ck_E0) ck_X0 ck_l0 p39x_134_e
set_option maxRecDepth 100000 in
def p39x_135 : ck_Sum := ((8, 1, 6), 245, [.inr (.inr (.inl 1)), .inl ((-2147483648), (-1), none), .inl ((-2147483648), (-1), none)], ([], [], [(3, 0, 0, ck_one 3)]), ([], []), [(.inl 3, 245, ([], [], []))])
set_option maxRecDepth 100000 in
theorem p39x_135_e : ck_ok p1_O none [] [(132, [p39x_134])] 227 [] 76 p39x_135 = true := by decide +kernel
theorem p39x_135_s {X : Int → Int} {LX : Nat} : ck_Ok p1_O X LX 227 p39x_135 := ck_ok_s (ck_E1 (ck_S1 p39x_134_s ck_S0) ck_E0) ck_X0 ck_l0 p39x_135_e
set_option maxRecDepth 100000 in
def p39x_136 : ck_Sum := ((9, 1, 6), 245, [.inr (.inr (.inl 1)), .inl ((-2147483648), (-1), none), .inl ((-2147483648), (-1), none), .inr (.inr (.inl 245))], ([], [], [(3, 0, 0, ck_one 3)]), ([], []), [(.inr (some (.inl (ck_one 1))), 245, ([], [], []))])
set_option maxRecDepth 100000 in
theorem p39x_136_e : ck_ok p1_O none [] [(227, [p39x_135])] 226 [] 88 p39x_136 = true := by decide +kernel
theorem p39x_136_s {X : Int → Int} {LX : Nat} : ck_Ok p1_O X LX 226 p39x_136 := ck_ok_s (ck_E1 (ck_S1 p39x_135_s ck_S0) ck_E0) ck_X0 ck_l0 p39x_136_e
set_option maxRecDepth 100000 in
def p39x_143 : ck_Sum := ((8, 1, 6), 245, [.inr (.inr (.inl 1)), .inl ((-2147483648), (-1), none), .inl (0, 299, none)], ([], [], [(3, 0, 0, ck_one 3)]), ([], []), [(.inl 3, 245, ([], [], []))])
set_option maxRecDepth 100000 in
theorem p39x_143_e : ck_ok p1_O none [] [(132, [p39x_134])] 227 [] 76 p39x_143 = true := by decide +kernel
theorem p39x_143_s {X : Int → Int} {LX : Nat} : ck_Ok p1_O X LX 227 p39x_143 := ck_ok_s (ck_E1 (ck_S1 p39x_134_s ck_S0) ck_E0) ck_X0 ck_l0 p39x_143_e
set_option maxRecDepth 100000 in
def p39x_144 : ck_Sum := ((9, 1, 6), 245, [.inr (.inr (.inl 1)), .inl ((-2147483648), (-1), none), .inl (0, 299, none), .inr (.inr (.inl 245))], ([], [], [(3, 0, 0, ck_one 3)]), ([], []), [(.inr (some (.inl (ck_one 1))), 245, ([], [], []))])
set_option maxRecDepth 100000 in
theorem p39x_144_e : ck_ok p1_O none [] [(227, [p39x_143])] 226 [] 88 p39x_144 = true := by decide +kernel
theorem p39x_144_s {X : Int → Int} {LX : Nat} : ck_Ok p1_O X LX 226 p39x_144 := ck_ok_s (ck_E1 (ck_S1 p39x_143_s ck_S0) ck_E0) ck_X0 ck_l0 p39x_144_e
set_option maxRecDepth 100000 in
def p39x_146 : ck_Sum := ((8, 1, 6), 245, [.inr (.inr (.inl 1)), .inl ((-2147483648), (-1), none), .inl (300, 2147483647, none)], ([], [], [(3, 0, 0, ck_one 3)]), ([], []), [(.inl 3, 245, ([], [], []))])
set_option maxRecDepth 100000 in
theorem p39x_146_e : ck_ok p1_O none [] [(132, [p39x_134])] 227 [] 76 p39x_146 = true := by decide +kernel
theorem p39x_146_s {X : Int → Int} {LX : Nat} : ck_Ok p1_O X LX 227 p39x_146 := ck_ok_s (ck_E1 (ck_S1 p39x_134_s ck_S0) ck_E0) ck_X0 ck_l0 p39x_146_e
set_option maxRecDepth 100000 in
def p39x_147 : ck_Sum := ((9, 1, 6), 245, [.inr (.inr (.inl 1)), .inl ((-2147483648), (-1), none), .inl (300, 2147483647, none), .inr (.inr (.inl 245))], ([], [], [(3, 0, 0, ck_one 3)]), ([], []), [(.inr (some (.inl (ck_one 1))), 245, ([], [], []))])
set_option maxRecDepth 100000 in
theorem p39x_147_e : ck_ok p1_O none [] [(227, [p39x_146])] 226 [] 88 p39x_147 = true := by decide +kernel
theorem p39x_147_s {X : Int → Int} {LX : Nat} : ck_Ok p1_O X LX 226 p39x_147 := ck_ok_s (ck_E1 (ck_S1 p39x_146_s ck_S0) ck_E0) ck_X0 ck_l0 p39x_147_e
set_option maxRecDepth 100000 in
def p39x_149 : ck_Sum := ((0, 0, 0), 245, [.inr (.inr (.inl 1)), .inl (0, 2, none), .inl (ck_one 3)], ([], [], []), ([], []), [(.inr none, 245, ([], [], []))])
set_option maxRecDepth 100000 in
theorem p39x_149_e : ck_ok p1_O none [] [] 133 [] 82 p39x_149 = true := by decide +kernel
theorem p39x_149_s {X : Int → Int} {LX : Nat} : ck_Ok p1_O X LX 133 p39x_149 := ck_ok_s (ck_E0) ck_X0 ck_l0 p39x_149_e
set_option maxRecDepth 100000 in
def p39x_150 : ck_Sum := ((1, 0, 0), 245, [.inr (.inr (.inl 1)), .inl (0, 2, none)], ([], [], [(3, 0, 0, ck_one 3)]), ([], []), [(.inr none, 245, ([], [], []))])
set_option maxRecDepth 100000 in
theorem p39x_150_e : ck_ok p1_O none [] [(133, [p39x_149])] 132 [] 84 p39x_150 = true := by decide +kernel
theorem p39x_150_s {X : Int → Int} {LX : Nat} : ck_Ok p1_O X LX 132 p39x_150 := ck_ok_s (ck_E1 (ck_S1 p39x_149_s ck_S0) ck_E0) ck_X0 ck_l0 p39x_150_e
set_option maxRecDepth 100000 in
def p39x_151 : ck_Sum := ((6, 1, 6), 245, [.inr (.inr (.inl 1)), .inl ((-2147483648), (-1), none)], ([], [], []), ([], []), [(.inl 0, 245, ([], [], []))])
set_option maxRecDepth 100000 in
theorem p39x_151_e : ck_ok p1_O none [] [] 129 [] 76 p39x_151 = true := by decide +kernel
theorem p39x_151_s {X : Int → Int} {LX : Nat} : ck_Ok p1_O X LX 129 p39x_151 := ck_ok_s (ck_E0) ck_X0 ck_l0 p39x_151_e
set_option maxRecDepth 100000 in
def p39x_152 : ck_Sum := ((7, 1, 6), 245, [.inr (.inr (.inl 1)), .inl (0, 2, none), .inl ((-2147483648), (-1), none)], ([], [], [(3, 0, 0, ck_one 3)]), ([], []), [(.inl 0, 245, ([], [], []))])
set_option maxRecDepth 100000 in
theorem p39x_152_e : ck_ok p1_O none [] [(132, [p39x_150]), (129, [p39x_151])] 227 [] 82 p39x_152 = true := by decide +kernel
theorem p39x_152_s {X : Int → Int} {LX : Nat} : ck_Ok p1_O X LX 227 p39x_152 := ck_ok_s (ck_E1 (ck_S1 p39x_150_s ck_S0) (ck_E1 (ck_S1 p39x_151_s ck_S0) ck_E0)) ck_X0 ck_l0 p39x_152_e
set_option maxRecDepth 100000 in
def p39x_153 : ck_Sum := ((8, 1, 6), 245, [.inr (.inr (.inl 1)), .inl (0, 2, none), .inl ((-2147483648), (-1), none), .inr (.inr (.inl 245))], ([], [], [(3, 0, 0, ck_one 3)]), ([], []), [(.inr (some (.inl (ck_one 2))), 245, ([], [], []))])
set_option maxRecDepth 100000 in
theorem p39x_153_e : ck_ok p1_O none [] [(227, [p39x_152])] 226 [] 88 p39x_153 = true := by decide +kernel
theorem p39x_153_s {X : Int → Int} {LX : Nat} : ck_Ok p1_O X LX 226 p39x_153 := ck_ok_s (ck_E1 (ck_S1 p39x_152_s ck_S0) ck_E0) ck_X0 ck_l0 p39x_153_e
set_option maxRecDepth 100000 in
def p39x_162 : ck_Sum := ((0, 0, 0), 245, [.inr (.inr (.inl 1)), .inl (0, 299, none)], ([], [], []), ([], []), [(.inr none, 245, ([], [], []))])
set_option maxRecDepth 100000 in
theorem p39x_162_e : ck_ok p1_O none [] [] 129 [] 82 p39x_162 = true := by decide +kernel
theorem p39x_162_s {X : Int → Int} {LX : Nat} : ck_Ok p1_O X LX 129 p39x_162 := ck_ok_s (ck_E0) ck_X0 ck_l0 p39x_162_e
set_option maxRecDepth 100000 in
def p39x_163 : ck_Sum := ((0, 0, 0), 245, [.inr (.inr (.inl 206)), .inl (0, 2, none), .inl (ck_one 0), .inl (0, 299, none), .inl (ck_one 0)], ([], [], []), ([(206, 2, 8)], []), [(.inr none, 245, ([], [], [(206, 8, 8, ck_one 0), (206, 6, 6, ck_one 0), (206, 4, 4, ck_one (-1)), (206, 3, 3, ck_one 0), (206, 7, 7, (0, 299, none)), (206, 5, 5, ck_one 0), (206, 2, 2, (0, 2, none))]))])
set_option maxRecDepth 100000 in
theorem p39x_163_e : ck_ok p1_O none [] [] 29 [] 114 p39x_163 = true := by decide +kernel
theorem p39x_163_s {X : Int → Int} {LX : Nat} : ck_Ok p1_O X LX 29 p39x_163 := ck_ok_s (ck_E0) ck_X0 ck_l0 p39x_163_e
set_option maxRecDepth 100000 in
def p39x_164 : ck_Sum := ((0, 0, 0), 245, [.inr (.inr (.inl 206))], ([], [], [(206, 5, 5, ck_one 0), (3, 1, 1, ck_one 40)]), ([], []), [(.inr (some (.inl (ck_one 0))), 245, ([], [], []))])
set_option maxRecDepth 100000 in
theorem p39x_164_e : ck_ok p1_O none [] [] 31 [] 86 p39x_164 = true := by decide +kernel
theorem p39x_164_s {X : Int → Int} {LX : Nat} : ck_Ok p1_O X LX 31 p39x_164 := ck_ok_s (ck_E0) ck_X0 ck_l0 p39x_164_e
set_option maxRecDepth 100000 in
def p39x_276 : ck_Sum := ((1, 0, 0), 245, [.inr (.inr (.inl 206))], ([], [], [(206, 6, 6, (0, 167, none)), (206, 3, 3, ck_one 0), (206, 5, 5, ck_one 0), (3, 3, 3, ck_one 2), (3, 2, 2, ck_one 10)]), ([], []), [(.inr (some (.inl (2, 99, none))), 245, ([], [], []))])
set_option maxRecDepth 100000 in
theorem p39x_276_e : ck_ok p1_O none [] [] 33 [] 108 p39x_276 = true := by decide +kernel
theorem p39x_276_s {X : Int → Int} {LX : Nat} : ck_Ok p1_O X LX 33 p39x_276 := ck_ok_s (ck_E0) ck_X0 ck_l0 p39x_276_e
set_option maxRecDepth 100000 in
def p39x_166 : ck_Sum := ((0, 0, 0), 245, [.inr (.inr (.inl 200)), .inl (0, 2, none), .inl (ck_one 0)], ([], [], [(202, 0, 593, ck_one 0)]), ([], []), [(.inr (some (.inl (ck_one 0))), 245, ([], [], []))])
set_option maxRecDepth 100000 in
theorem p39x_166_e : ck_ok p1_O none [] [] 36 [] 108 p39x_166 = true := by decide +kernel
theorem p39x_166_s {X : Int → Int} {LX : Nat} : ck_Ok p1_O X LX 36 p39x_166 := ck_ok_s (ck_E0) ck_X0 ck_l0 p39x_166_e
set_option maxRecDepth 100000 in
def p39x_317 : ck_Sum := ((1, 0, 0), 245, [.inr (.inr (.inl 200)), .inl (0, 2, none), .inl (ck_one 0), .inl ((-2147483648), 2147483647, none)], ([], [(3, 8, 0)], [(202, 0, 593, ck_one 0)]), ([], []), [(.inr (some (.inl (ck_one 0))), 245, ([], [], []))])
set_option maxRecDepth 100000 in
theorem p39x_317_e : ck_ok p1_O none [] [(36, [p39x_166])] 35 [] 92 p39x_317 = true := by decide +kernel
theorem p39x_317_s {X : Int → Int} {LX : Nat} : ck_Ok p1_O X LX 35 p39x_317 := ck_ok_s (ck_E1 (ck_S1 p39x_166_s ck_S0) ck_E0) ck_X0 ck_l0 p39x_317_e
set_option maxRecDepth 100000 in
def p39x_318 : ck_Sum := ((0, 0, 0), 245, [.inr (.inr (.inl 200)), .inl ((-2147483648), 2147483647, none)], ([], [], [(203, 0, 299, ck_one 0)]), ([], []), [(.inr (some (.inl (ck_one 0))), 245, ([], [], []))])
set_option maxRecDepth 100000 in
theorem p39x_318_e : ck_ok p1_O none [] [] 44 [] 92 p39x_318 = true := by decide +kernel
theorem p39x_318_s {X : Int → Int} {LX : Nat} : ck_Ok p1_O X LX 44 p39x_318 := ck_ok_s (ck_E0) ck_X0 ck_l0 p39x_318_e
set_option maxRecDepth 100000 in
def p39x_319 : ck_Sum := ((1, 0, 0), 245, [.inr (.inr (.inl 206))], ([], [], [(203, 0, 299, ck_one 0)]), ([], []), [(.inr none, 245, ([], [], []))])
set_option maxRecDepth 100000 in
theorem p39x_319_e : ck_ok p1_O none [] [(44, [p39x_318])] 43 [(22, [some (.inr (.inr (.inl 206))), some (.inr (.inr (.inl 6))), some (.inl (ck_one 0)), some (.inl (ck_one 0)), none], ([], [], [(203, 0, 299, ck_one 0)]), 100, .inl 3, true)] 142 p39x_319 = true := by decide +kernel
theorem p39x_319_s {X : Int → Int} {LX : Nat} : ck_Ok p1_O X LX 43 p39x_319 := ck_ok_s (ck_E1 (ck_S1 p39x_318_s ck_S0) ck_E0) ck_X0 ck_l0 p39x_319_e
set_option maxRecDepth 100000 in
def p39x_320 : ck_Sum := ((2, 0, 0), 245, [.inr (.inr (.inl 206))], ([], [(3, 8, 0)], [(206, 6, 6, (0, 167, none)), (206, 3, 3, ck_one 0), (206, 5, 5, ck_one 0), (206, 2, 2, (0, 2, none)), (3, 3, 3, ck_one 2), (3, 2, 2, ck_one 10), (3, 1, 1, ck_one 40), (203, 0, 299, ck_one 0), (202, 0, 593, ck_one 0)]), ([(206, 5, 7)], []), [(.inr none, 245, ([], [], [(206, 6, 6, (2, 99, none)), (206, 5, 5, ck_one 0)]))])
set_option maxRecDepth 100000 in
theorem p39x_320_e : ck_ok p1_O none [] [(31, [p39x_164]), (33, [p39x_276]), (35, [p39x_317]), (43, [p39x_319])] 32 [] 134 p39x_320 = true := by decide +kernel
theorem p39x_320_s {X : Int → Int} {LX : Nat} : ck_Ok p1_O X LX 32 p39x_320 := ck_ok_s (ck_E1 (ck_S1 p39x_164_s ck_S0) (ck_E1 (ck_S1 p39x_276_s ck_S0) (ck_E1 (ck_S1 p39x_317_s ck_S0) (ck_E1 (ck_S1 p39x_319_s ck_S0) ck_E0)))) ck_X0 ck_l0 p39x_320_e
set_option maxRecDepth 100000 in
def p39x_342 : ck_Sum := ((3, 0, 0), 245, [.inr (.inr (.inl 206)), .inl (ck_one 299)], ([], [(3, 8, 0)], [(206, 6, 6, ck_one 0), (206, 3, 3, ck_one 0), (206, 7, 7, (0, 299, none)), (206, 5, 5, ck_one 0), (206, 2, 2, (0, 2, none)), (3, 3, 3, ck_one 2), (3, 2, 2, ck_one 10), (3, 1, 1, ck_one 40), (203, 0, 299, ck_one 0), (202, 0, 593, ck_one 0)]), ([(206, 5, 7)], []), [(.inr (some (.inl (ck_one (-1)))), 245, ([], [], [(206, 6, 6, (0, 167, none)), (206, 5, 5, ck_one 0)]))])
set_option maxRecDepth 100000 in
theorem p39x_342_e : ck_ok p1_O none [] [(31, [p39x_164]), (32, [p39x_320])] 30 [(5, [some (.inr (.inr (.inl 206))), some (.inl (ck_one 299)), some (.inl (0, 300, none))], ([], [(3, 8, 0)], [(206, 6, 6, (0, 167, none)), (206, 3, 3, ck_one 0), (206, 5, 5, ck_one 0), (206, 2, 2, (0, 2, none)), (3, 3, 3, ck_one 2), (3, 2, 2, ck_one 10), (3, 1, 1, ck_one 40), (203, 0, 299, ck_one 0), (202, 0, 593, ck_one 0)]), 100, .inl 2, true)] 134 p39x_342 = true := by decide +kernel
theorem p39x_342_s {X : Int → Int} {LX : Nat} : ck_Ok p1_O X LX 30 p39x_342 := ck_ok_s (ck_E1 (ck_S1 p39x_164_s ck_S0) (ck_E1 (ck_S1 p39x_320_s ck_S0) ck_E0)) ck_X0 ck_l0 p39x_342_e
set_option maxRecDepth 100000 in
def p39x_343 : ck_Sum := ((4, 0, 0), 245, [.inr (.inr (.inl 1)), .inl (0, 2, none), .inl (0, 299, none)], ([], [(3, 8, 0)], [(206, 7, 7, ck_one 0), (206, 6, 6, ck_one 0), (206, 5, 5, ck_one 0), (206, 3, 3, ck_one 0), (206, 2, 2, ck_one 0), (3, 3, 3, ck_one 2), (3, 2, 2, ck_one 10), (3, 1, 1, ck_one 40), (3, 0, 0, ck_one 3), (203, 0, 299, ck_one 0), (202, 0, 593, ck_one 0)]), ([(206, 2, 8)], []), [(.inr (some (.inl (ck_one (-1)))), 245, ([], [], [(206, 6, 6, (0, 167, none)), (206, 5, 5, ck_one 0), (206, 8, 8, ck_one 0), (206, 4, 4, ck_one (-1)), (206, 3, 3, ck_one 0), (206, 2, 2, (0, 2, none))]))])
set_option maxRecDepth 100000 in
theorem p39x_343_e : ck_ok p1_O none [] [(132, [p39x_150]), (129, [p39x_162]), (29, [p39x_163]), (30, [p39x_342])] 227 [] 118 p39x_343 = true := by decide +kernel
theorem p39x_343_s {X : Int → Int} {LX : Nat} : ck_Ok p1_O X LX 227 p39x_343 := ck_ok_s (ck_E1 (ck_S1 p39x_150_s ck_S0) (ck_E1 (ck_S1 p39x_162_s ck_S0) (ck_E1 (ck_S1 p39x_163_s ck_S0) (ck_E1 (ck_S1 p39x_342_s ck_S0) ck_E0)))) ck_X0 ck_l0 p39x_343_e
set_option maxRecDepth 100000 in
def p39x_344 : ck_Sum := ((5, 0, 0), 245, [.inr (.inr (.inl 1)), .inl (0, 2, none), .inl (0, 299, none), .inr (.inr (.inl 245))], ([], [(3, 8, 0)], [(206, 7, 7, ck_one 0), (206, 6, 6, ck_one 0), (206, 5, 5, ck_one 0), (206, 3, 3, ck_one 0), (206, 2, 2, ck_one 0), (3, 3, 3, ck_one 2), (3, 2, 2, ck_one 10), (3, 1, 1, ck_one 40), (3, 0, 0, ck_one 3), (203, 0, 299, ck_one 0), (202, 0, 593, ck_one 0)]), ([(206, 2, 8), (245, 0, 0)], []), [(.inr (some (.inl (ck_one 0))), 245, ([], [], [(245, 0, 0, ck_one (-1)), (206, 6, 6, (0, 167, none)), (206, 5, 5, ck_one 0), (206, 8, 8, ck_one 0), (206, 4, 4, ck_one (-1)), (206, 3, 3, ck_one 0), (206, 2, 2, (0, 2, none))]))])
set_option maxRecDepth 100000 in
theorem p39x_344_e : ck_ok p1_O none [] [(227, [p39x_343])] 226 [] 92 p39x_344 = true := by decide +kernel
theorem p39x_344_s {X : Int → Int} {LX : Nat} : ck_Ok p1_O X LX 226 p39x_344 := ck_ok_s (ck_E1 (ck_S1 p39x_343_s ck_S0) ck_E0) ck_X0 ck_l0 p39x_344_e
set_option maxRecDepth 100000 in
def p39x_413 : ck_Sum := ((6, 1, 6), 245, [.inr (.inr (.inl 1)), .inl (300, 2147483647, none)], ([], [], []), ([], []), [(.inl 0, 245, ([], [], []))])
set_option maxRecDepth 100000 in
theorem p39x_413_e : ck_ok p1_O none [] [] 129 [] 82 p39x_413 = true := by decide +kernel
theorem p39x_413_s {X : Int → Int} {LX : Nat} : ck_Ok p1_O X LX 129 p39x_413 := ck_ok_s (ck_E0) ck_X0 ck_l0 p39x_413_e
set_option maxRecDepth 100000 in
def p39x_414 : ck_Sum := ((7, 1, 6), 245, [.inr (.inr (.inl 1)), .inl (0, 2, none), .inl (300, 2147483647, none)], ([], [], [(3, 0, 0, ck_one 3)]), ([], []), [(.inl 0, 245, ([], [], []))])
set_option maxRecDepth 100000 in
theorem p39x_414_e : ck_ok p1_O none [] [(132, [p39x_150]), (129, [p39x_413])] 227 [] 82 p39x_414 = true := by decide +kernel
theorem p39x_414_s {X : Int → Int} {LX : Nat} : ck_Ok p1_O X LX 227 p39x_414 := ck_ok_s (ck_E1 (ck_S1 p39x_150_s ck_S0) (ck_E1 (ck_S1 p39x_413_s ck_S0) ck_E0)) ck_X0 ck_l0 p39x_414_e
set_option maxRecDepth 100000 in
def p39x_415 : ck_Sum := ((8, 1, 6), 245, [.inr (.inr (.inl 1)), .inl (0, 2, none), .inl (300, 2147483647, none), .inr (.inr (.inl 245))], ([], [], [(3, 0, 0, ck_one 3)]), ([], []), [(.inr (some (.inl (ck_one 2))), 245, ([], [], []))])
set_option maxRecDepth 100000 in
theorem p39x_415_e : ck_ok p1_O none [] [(227, [p39x_414])] 226 [] 88 p39x_415 = true := by decide +kernel
theorem p39x_415_s {X : Int → Int} {LX : Nat} : ck_Ok p1_O X LX 226 p39x_415 := ck_ok_s (ck_E1 (ck_S1 p39x_414_s ck_S0) ck_E0) ck_X0 ck_l0 p39x_415_e
set_option maxRecDepth 100000 in
def p39x_419 : ck_Sum := ((6, 1, 6), 245, [.inr (.inr (.inl 1)), .inl (3, 2147483647, none), .inl (ck_one 3)], ([], [], []), ([], []), [(.inl 3, 245, ([], [], []))])
set_option maxRecDepth 100000 in
theorem p39x_419_e : ck_ok p1_O none [] [] 133 [] 82 p39x_419 = true := by decide +kernel
theorem p39x_419_s {X : Int → Int} {LX : Nat} : ck_Ok p1_O X LX 133 p39x_419 := ck_ok_s (ck_E0) ck_X0 ck_l0 p39x_419_e
set_option maxRecDepth 100000 in
def p39x_420 : ck_Sum := ((7, 1, 6), 245, [.inr (.inr (.inl 1)), .inl (3, 2147483647, none)], ([], [], [(3, 0, 0, ck_one 3)]), ([], []), [(.inl 3, 245, ([], [], []))])
set_option maxRecDepth 100000 in
theorem p39x_420_e : ck_ok p1_O none [] [(133, [p39x_419])] 132 [] 82 p39x_420 = true := by decide +kernel
theorem p39x_420_s {X : Int → Int} {LX : Nat} : ck_Ok p1_O X LX 132 p39x_420 := ck_ok_s (ck_E1 (ck_S1 p39x_419_s ck_S0) ck_E0) ck_X0 ck_l0 p39x_420_e
set_option maxRecDepth 100000 in
def p39x_421 : ck_Sum := ((8, 1, 6), 245, [.inr (.inr (.inl 1)), .inl (3, 2147483647, none), .inl ((-2147483648), (-1), none)], ([], [], [(3, 0, 0, ck_one 3)]), ([], []), [(.inl 3, 245, ([], [], []))])
set_option maxRecDepth 100000 in
theorem p39x_421_e : ck_ok p1_O none [] [(132, [p39x_420])] 227 [] 76 p39x_421 = true := by decide +kernel
theorem p39x_421_s {X : Int → Int} {LX : Nat} : ck_Ok p1_O X LX 227 p39x_421 := ck_ok_s (ck_E1 (ck_S1 p39x_420_s ck_S0) ck_E0) ck_X0 ck_l0 p39x_421_e
set_option maxRecDepth 100000 in
def p39x_422 : ck_Sum := ((9, 1, 6), 245, [.inr (.inr (.inl 1)), .inl (3, 2147483647, none), .inl ((-2147483648), (-1), none), .inr (.inr (.inl 245))], ([], [], [(3, 0, 0, ck_one 3)]), ([], []), [(.inr (some (.inl (ck_one 1))), 245, ([], [], []))])
set_option maxRecDepth 100000 in
theorem p39x_422_e : ck_ok p1_O none [] [(227, [p39x_421])] 226 [] 88 p39x_422 = true := by decide +kernel
theorem p39x_422_s {X : Int → Int} {LX : Nat} : ck_Ok p1_O X LX 226 p39x_422 := ck_ok_s (ck_E1 (ck_S1 p39x_421_s ck_S0) ck_E0) ck_X0 ck_l0 p39x_422_e
set_option maxRecDepth 100000 in
def p39x_426 : ck_Sum := ((8, 1, 6), 245, [.inr (.inr (.inl 1)), .inl (3, 2147483647, none), .inl (0, 299, none)], ([], [], [(3, 0, 0, ck_one 3)]), ([], []), [(.inl 3, 245, ([], [], []))])
set_option maxRecDepth 100000 in
theorem p39x_426_e : ck_ok p1_O none [] [(132, [p39x_420])] 227 [] 76 p39x_426 = true := by decide +kernel
theorem p39x_426_s {X : Int → Int} {LX : Nat} : ck_Ok p1_O X LX 227 p39x_426 := ck_ok_s (ck_E1 (ck_S1 p39x_420_s ck_S0) ck_E0) ck_X0 ck_l0 p39x_426_e
set_option maxRecDepth 100000 in
def p39x_427 : ck_Sum := ((9, 1, 6), 245, [.inr (.inr (.inl 1)), .inl (3, 2147483647, none), .inl (0, 299, none), .inr (.inr (.inl 245))], ([], [], [(3, 0, 0, ck_one 3)]), ([], []), [(.inr (some (.inl (ck_one 1))), 245, ([], [], []))])
set_option maxRecDepth 100000 in
theorem p39x_427_e : ck_ok p1_O none [] [(227, [p39x_426])] 226 [] 88 p39x_427 = true := by decide +kernel
theorem p39x_427_s {X : Int → Int} {LX : Nat} : ck_Ok p1_O X LX 226 p39x_427 := ck_ok_s (ck_E1 (ck_S1 p39x_426_s ck_S0) ck_E0) ck_X0 ck_l0 p39x_427_e
set_option maxRecDepth 100000 in
def p39x_429 : ck_Sum := ((8, 1, 6), 245, [.inr (.inr (.inl 1)), .inl (3, 2147483647, none), .inl (300, 2147483647, none)], ([], [], [(3, 0, 0, ck_one 3)]), ([], []), [(.inl 3, 245, ([], [], []))])
set_option maxRecDepth 100000 in
theorem p39x_429_e : ck_ok p1_O none [] [(132, [p39x_420])] 227 [] 76 p39x_429 = true := by decide +kernel
theorem p39x_429_s {X : Int → Int} {LX : Nat} : ck_Ok p1_O X LX 227 p39x_429 := ck_ok_s (ck_E1 (ck_S1 p39x_420_s ck_S0) ck_E0) ck_X0 ck_l0 p39x_429_e
set_option maxRecDepth 100000 in
def p39x_430 : ck_Sum := ((9, 1, 6), 245, [.inr (.inr (.inl 1)), .inl (3, 2147483647, none), .inl (300, 2147483647, none), .inr (.inr (.inl 245))], ([], [], [(3, 0, 0, ck_one 3)]), ([], []), [(.inr (some (.inl (ck_one 1))), 245, ([], [], []))])
set_option maxRecDepth 100000 in
theorem p39x_430_e : ck_ok p1_O none [] [(227, [p39x_429])] 226 [] 88 p39x_430 = true := by decide +kernel
theorem p39x_430_s {X : Int → Int} {LX : Nat} : ck_Ok p1_O X LX 226 p39x_430 := ck_ok_s (ck_E1 (ck_S1 p39x_429_s ck_S0) ck_E0) ck_X0 ck_l0 p39x_430_e
set_option maxRecDepth 100000 in
def p39x_137 : ck_Sum := ((0, 0, 0), 245, [.inr (.inr (.inl 226))], ([], [], [(227, 0, 0, ck_one 3)]), ([], []), [(.inr (some (.inl (ck_one 3))), 245, ([], [], []))])
set_option maxRecDepth 100000 in
theorem p39x_137_e : ck_ok p1_O none [] [] 262 [] 80 p39x_137 = true := by decide +kernel
theorem p39x_137_s {X : Int → Int} {LX : Nat} : ck_Ok p1_O X LX 262 p39x_137 := ck_ok_s (ck_E0) ck_X0 ck_l0 p39x_137_e
set_option maxRecDepth 100000 in
def p39x_138 : ck_Sum := ((0, 0, 0), 245, [.inl ((-2147483648), (-1), none), .inl (ck_one 0), .inl (ck_one 2)], ([], [], []), ([], []), [(.inr (some (.inl (ck_one 0))), 245, ([], [], []))])
set_option maxRecDepth 100000 in
theorem p39x_138_e : ck_ok p1_O none [] [] 287 [] 80 p39x_138 = true := by decide +kernel
theorem p39x_138_s {X : Int → Int} {LX : Nat} : ck_Ok p1_O X LX 287 p39x_138 := ck_ok_s (ck_E0) ck_X0 ck_l0 p39x_138_e
set_option maxRecDepth 100000 in
def p39x_139 : ck_Sum := ((1, 0, 0), 245, [.inr (.inr (.inl 226)), .inl ((-2147483648), (-1), none)], ([], [], [(227, 0, 0, ck_one 3)]), ([], []), [(.inr (some (.inl (ck_one 1))), 245, ([], [], []))])
set_option maxRecDepth 100000 in
theorem p39x_139_e : ck_ok p1_O none [] [(262, [p39x_137]), (287, [p39x_138])] 289 [] 92 p39x_139 = true := by decide +kernel
theorem p39x_139_s {X : Int → Int} {LX : Nat} : ck_Ok p1_O X LX 289 p39x_139 := ck_ok_s (ck_E1 (ck_S1 p39x_137_s ck_S0) (ck_E1 (ck_S1 p39x_138_s ck_S0) ck_E0)) ck_X0 ck_l0 p39x_139_e
set_option maxRecDepth 100000 in
def p39x_140 : ck_Sum := ((0, 0, 0), 245, [.inr (.inr (.inl 226)), .inl (ck_one 1), .inl (ck_one 1)], ([], [], []), ([(226, 0, 0)], []), [(.inr (some (.inl (ck_one 1))), 245, ([], [], [(226, 0, 0, ck_one 1)]))])
set_option maxRecDepth 100000 in
theorem p39x_140_e : ck_ok p1_O none [] [] 283 [] 84 p39x_140 = true := by decide +kernel
theorem p39x_140_s {X : Int → Int} {LX : Nat} : ck_Ok p1_O X LX 283 p39x_140 := ck_ok_s (ck_E0) ck_X0 ck_l0 p39x_140_e
set_option maxRecDepth 100000 in
def p39x_141 : ck_Sum := ((2, 0, 0), 245, [.inr (.inr (.inl 226)), .inl ((-2147483648), (-1), none), .inl ((-2147483648), (-1), none)], ([], [], [(227, 0, 0, ck_one 3)]), ([(226, 0, 0)], []), [(.inr (some (.inl (ck_one 0))), 245, ([], [], [(226, 0, 0, ck_one 1)]))])
set_option maxRecDepth 100000 in
theorem p39x_141_e : ck_ok p1_O none [] [(289, [p39x_139]), (283, [p39x_140])] 365 [] 94 p39x_141 = true := by decide +kernel
theorem p39x_141_s {X : Int → Int} {LX : Nat} : ck_Ok p1_O X LX 365 p39x_141 := ck_ok_s (ck_E1 (ck_S1 p39x_139_s ck_S0) (ck_E1 (ck_S1 p39x_140_s ck_S0) ck_E0)) ck_X0 ck_l0 p39x_141_e
set_option maxRecDepth 100000 in
def p39x_145 : ck_Sum := ((2, 0, 0), 245, [.inr (.inr (.inl 226)), .inl ((-2147483648), (-1), none), .inl (0, 299, none)], ([], [], [(227, 0, 0, ck_one 3)]), ([(226, 0, 0)], []), [(.inr (some (.inl (ck_one 0))), 245, ([], [], [(226, 0, 0, ck_one 1)]))])
set_option maxRecDepth 100000 in
theorem p39x_145_e : ck_ok p1_O none [] [(289, [p39x_139]), (283, [p39x_140])] 365 [] 94 p39x_145 = true := by decide +kernel
theorem p39x_145_s {X : Int → Int} {LX : Nat} : ck_Ok p1_O X LX 365 p39x_145 := ck_ok_s (ck_E1 (ck_S1 p39x_139_s ck_S0) (ck_E1 (ck_S1 p39x_140_s ck_S0) ck_E0)) ck_X0 ck_l0 p39x_145_e
set_option maxRecDepth 100000 in
def p39x_148 : ck_Sum := ((2, 0, 0), 245, [.inr (.inr (.inl 226)), .inl ((-2147483648), (-1), none), .inl (300, 2147483647, none)], ([], [], [(227, 0, 0, ck_one 3)]), ([(226, 0, 0)], []), [(.inr (some (.inl (ck_one 0))), 245, ([], [], [(226, 0, 0, ck_one 1)]))])
set_option maxRecDepth 100000 in
theorem p39x_148_e : ck_ok p1_O none [] [(289, [p39x_139]), (283, [p39x_140])] 365 [] 94 p39x_148 = true := by decide +kernel
theorem p39x_148_s {X : Int → Int} {LX : Nat} : ck_Ok p1_O X LX 365 p39x_148 := ck_ok_s (ck_E1 (ck_S1 p39x_139_s ck_S0) (ck_E1 (ck_S1 p39x_140_s ck_S0) ck_E0)) ck_X0 ck_l0 p39x_148_e
set_option maxRecDepth 100000 in
def p39x_154 : ck_Sum := ((0, 0, 0), 245, [.inl (0, 2, none), .inl (ck_one 0), .inl (ck_one 2)], ([], [], []), ([], []), [(.inr (some (.inl (ck_one 1))), 245, ([], [], []))])
set_option maxRecDepth 100000 in
theorem p39x_154_e : ck_ok p1_O none [] [] 287 [] 88 p39x_154 = true := by decide +kernel
theorem p39x_154_s {X : Int → Int} {LX : Nat} : ck_Ok p1_O X LX 287 p39x_154 := ck_ok_s (ck_E0) ck_X0 ck_l0 p39x_154_e
set_option maxRecDepth 100000 in
def p39x_155 : ck_Sum := ((1, 0, 0), 245, [.inr (.inr (.inl 226)), .inl (0, 2, none)], ([], [], [(227, 0, 0, ck_one 3)]), ([], []), [(.inr (some (.inl (ck_one 0))), 245, ([], [], []))])
set_option maxRecDepth 100000 in
theorem p39x_155_e : ck_ok p1_O none [] [(262, [p39x_137]), (287, [p39x_154])] 289 [] 90 p39x_155 = true := by decide +kernel
theorem p39x_155_s {X : Int → Int} {LX : Nat} : ck_Ok p1_O X LX 289 p39x_155 := ck_ok_s (ck_E1 (ck_S1 p39x_137_s ck_S0) (ck_E1 (ck_S1 p39x_154_s ck_S0) ck_E0)) ck_X0 ck_l0 p39x_155_e
set_option maxRecDepth 100000 in
def p39x_156 : ck_Sum := ((0, 0, 0), 245, [.inr (.inr (.inl 226)), .inl (ck_one 0), .inl (ck_one 1)], ([], [], []), ([], []), [(.inr (some (.inl (ck_one 0))), 245, ([], [], []))])
set_option maxRecDepth 100000 in
theorem p39x_156_e : ck_ok p1_O none [] [] 283 [] 78 p39x_156 = true := by decide +kernel
theorem p39x_156_s {X : Int → Int} {LX : Nat} : ck_Ok p1_O X LX 283 p39x_156 := ck_ok_s (ck_E0) ck_X0 ck_l0 p39x_156_e
set_option maxRecDepth 100000 in
def p39x_159 : ck_Sum := ((0, 0, 0), 245, [.inr (.inr (.inl 226)), .inl (ck_one 1), .inl (ck_one 2)], ([], [], []), ([(226, 0, 0)], []), [(.inr (some (.inl (ck_one 1))), 245, ([], [], [(226, 0, 0, ck_one 2)]))])
set_option maxRecDepth 100000 in
theorem p39x_159_e : ck_ok p1_O none [] [] 283 [] 84 p39x_159 = true := by decide +kernel
theorem p39x_159_s {X : Int → Int} {LX : Nat} : ck_Ok p1_O X LX 283 p39x_159 := ck_ok_s (ck_E0) ck_X0 ck_l0 p39x_159_e
set_option maxRecDepth 100000 in
def p39x_157 : ck_Sum := ((0, 0, 0), 245, [.inl ((-2147483648), (-1), none), .inl (ck_one 0), .inl (ck_one 299)], ([], [], []), ([], []), [(.inr (some (.inl (ck_one 0))), 245, ([], [], []))])
set_option maxRecDepth 100000 in
theorem p39x_157_e : ck_ok p1_O none [] [] 287 [] 80 p39x_157 = true := by decide +kernel
theorem p39x_157_s {X : Int → Int} {LX : Nat} : ck_Ok p1_O X LX 287 p39x_157 := ck_ok_s (ck_E0) ck_X0 ck_l0 p39x_157_e
set_option maxRecDepth 100000 in
def p39x_158 : ck_Sum := ((1, 0, 0), 245, [.inl ((-2147483648), (-1), none)], ([], [], []), ([], []), [(.inr (some (.inl (ck_one 1))), 245, ([], [], []))])
set_option maxRecDepth 100000 in
theorem p39x_158_e : ck_ok p1_O none [] [(287, [p39x_157])] 286 [] 86 p39x_158 = true := by decide +kernel
theorem p39x_158_s {X : Int → Int} {LX : Nat} : ck_Ok p1_O X LX 286 p39x_158 := ck_ok_s (ck_E1 (ck_S1 p39x_157_s ck_S0) ck_E0) ck_X0 ck_l0 p39x_158_e
set_option maxRecDepth 100000 in
def p39x_160 : ck_Sum := ((2, 0, 0), 245, [.inr (.inr (.inl 226)), .inl (0, 2, none), .inl ((-2147483648), (-1), none)], ([], [], [(227, 0, 0, ck_one 3)]), ([(226, 0, 0)], []), [(.inr (some (.inl (ck_one 0))), 245, ([], [], [(226, 0, 0, ck_one 2)]))])
set_option maxRecDepth 100000 in
theorem p39x_160_e : ck_ok p1_O none [] [(289, [p39x_155]), (283, [p39x_156, p39x_159]), (286, [p39x_158])] 365 [] 106 p39x_160 = true := by decide +kernel
theorem p39x_160_s {X : Int → Int} {LX : Nat} : ck_Ok p1_O X LX 365 p39x_160 := ck_ok_s (ck_E1 (ck_S1 p39x_155_s ck_S0) (ck_E1 (ck_S1 p39x_156_s (ck_S1 p39x_159_s ck_S0)) (ck_E1 (ck_S1 p39x_158_s ck_S0) ck_E0))) ck_X0 ck_l0 p39x_160_e
set_option maxRecDepth 100000 in
def p39x_347 : ck_Sum := ((0, 0, 0), 245, [.inr (.inr (.inl 226)), .inl (ck_one 0), .inl (ck_one 2)], ([], [], []), ([], []), [(.inr (some (.inl (ck_one 0))), 245, ([], [], []))])
set_option maxRecDepth 100000 in
theorem p39x_347_e : ck_ok p1_O none [] [] 283 [] 78 p39x_347 = true := by decide +kernel
theorem p39x_347_s {X : Int → Int} {LX : Nat} : ck_Ok p1_O X LX 283 p39x_347 := ck_ok_s (ck_E0) ck_X0 ck_l0 p39x_347_e
set_option maxRecDepth 100000 in
def p39x_345 : ck_Sum := ((0, 0, 0), 245, [.inl (0, 299, none), .inl (ck_one 0), .inl (ck_one 299)], ([], [], []), ([], []), [(.inr (some (.inl (ck_one 1))), 245, ([], [], []))])
set_option maxRecDepth 100000 in
theorem p39x_345_e : ck_ok p1_O none [] [] 287 [] 88 p39x_345 = true := by decide +kernel
theorem p39x_345_s {X : Int → Int} {LX : Nat} : ck_Ok p1_O X LX 287 p39x_345 := ck_ok_s (ck_E0) ck_X0 ck_l0 p39x_345_e
set_option maxRecDepth 100000 in
def p39x_346 : ck_Sum := ((1, 0, 0), 245, [.inl (0, 299, none)], ([], [], []), ([], []), [(.inr (some (.inl (ck_one 0))), 245, ([], [], []))])
set_option maxRecDepth 100000 in
theorem p39x_346_e : ck_ok p1_O none [] [(287, [p39x_345])] 286 [] 84 p39x_346 = true := by decide +kernel
theorem p39x_346_s {X : Int → Int} {LX : Nat} : ck_Ok p1_O X LX 286 p39x_346 := ck_ok_s (ck_E1 (ck_S1 p39x_345_s ck_S0) ck_E0) ck_X0 ck_l0 p39x_346_e
set_option maxRecDepth 100000 in
def p39x_348 : ck_Sum := ((0, 0, 0), 245, [.inr (.inr (.inl 226))], ([], [], [(227, 1, 1, ck_one 40)]), ([], []), [(.inr (some (.inl (ck_one 40))), 245, ([], [], []))])
set_option maxRecDepth 100000 in
theorem p39x_348_e : ck_ok p1_O none [] [] 260 [] 80 p39x_348 = true := by decide +kernel
theorem p39x_348_s {X : Int → Int} {LX : Nat} : ck_Ok p1_O X LX 260 p39x_348 := ck_ok_s (ck_E0) ck_X0 ck_l0 p39x_348_e
set_option maxRecDepth 100000 in
def p39x_349 : ck_Sum := ((0, 0, 0), 245, [.inr (.inr (.inl 226)), .inl (0, 2, none)], ([], [], [(226, 26, 26, ((-1), 2, none)), (235, 0, 11999, (0, 1, none))]), ([(226, 26, 26), (235, 0, 29699)], []), [(.inr none, 245, ([], [], [(226, 26, 26, (0, 2, none)), (235, 0, 11999, (0, 1, none))]))])
set_option maxRecDepth 100000 in
theorem p39x_349_e : ck_ok p1_O none [] [] 294 [(16, [some (.inr (.inr (.inl 226))), some (.inl (0, 2, none)), some (.inl (0, 29700, none))], ([], [], [(226, 26, 26, (0, 2, none)), (235, 0, 11999, (0, 1, none))]), 100, .inl 2, true)] 142 p39x_349 = true := by decide +kernel
theorem p39x_349_s {X : Int → Int} {LX : Nat} : ck_Ok p1_O X LX 294 p39x_349 := ck_ok_s (ck_E0) ck_X0 ck_l0 p39x_349_e
set_option maxRecDepth 100000 in
def p39x_350 : ck_Sum := ((0, 0, 0), 245, [.inr (.inr (.inl 226)), .inl (0, 2, none), .inl (0, 39, none)], ([], [], [(227, 2, 9, ck_one 0)]), ([], []), [(.inr (some (.inl (ck_one 0))), 245, ([], [], []))])
set_option maxRecDepth 100000 in
theorem p39x_350_e : ck_ok p1_O none [] [] 291 [(5, [some (.inr (.inr (.inl 226))), some (.inl (0, 2, none)), some (.inl (0, 39, none)), some (.inl (ck_one 0)), some (.inl (ck_one 0))], ([], [], [(227, 2, 9, ck_one 0)]), 100, .inl 3, true)] 122 p39x_350 = true := by decide +kernel
theorem p39x_350_s {X : Int → Int} {LX : Nat} : ck_Ok p1_O X LX 291 p39x_350 := ck_ok_s (ck_E0) ck_X0 ck_l0 p39x_350_e
set_option maxRecDepth 100000 in
def p39x_351 : ck_Sum := ((0, 0, 0), 245, [.inr (.inr (.inl 226)), .inl (ck_one 0)], ([], [], [(227, 2, 9, ck_one 0)]), ([], []), [(.inr (some (.inl (ck_one 0))), 245, ([], [], []))])
set_option maxRecDepth 100000 in
theorem p39x_351_e : ck_ok p1_O none [] [] 295 [(4, [some (.inr (.inr (.inl 226))), some (.inl (ck_one 0)), some (.inl (ck_one 0)), some (.inl (ck_one 0))], ([], [], [(227, 2, 9, ck_one 0)]), 100, .inl 2, true)] 122 p39x_351 = true := by decide +kernel
theorem p39x_351_s {X : Int → Int} {LX : Nat} : ck_Ok p1_O X LX 295 p39x_351 := ck_ok_s (ck_E0) ck_X0 ck_l0 p39x_351_e
set_option maxRecDepth 100000 in
def p39x_352 : ck_Sum := ((0, 0, 0), 245, [.inr (.inr (.inl 226)), .inl (ck_one 1)], ([], [], [(227, 2, 9, ck_one 0)]), ([], []), [(.inr (some (.inl (ck_one 0))), 245, ([], [], []))])
set_option maxRecDepth 100000 in
theorem p39x_352_e : ck_ok p1_O none [] [] 295 [(4, [some (.inr (.inr (.inl 226))), some (.inl (ck_one 1)), some (.inl (ck_one 0)), some (.inl (ck_one 0))], ([], [], [(227, 2, 9, ck_one 0)]), 100, .inl 2, true)] 122 p39x_352 = true := by decide +kernel
theorem p39x_352_s {X : Int → Int} {LX : Nat} : ck_Ok p1_O X LX 295 p39x_352 := ck_ok_s (ck_E0) ck_X0 ck_l0 p39x_352_e
set_option maxRecDepth 100000 in
def p39x_353 : ck_Sum := ((1, 0, 0), 245, [.inr (.inr (.inl 226)), .inl (0, 2, none), .inl (0, 39, none), .inl (0, 299, none)], ([], [], [(226, 26, 26, ((-1), 2, none)), (226, 19, 19, (0, 299, none)), (226, 18, 18, (0, 39, none)), (226, 17, 17, (0, 2, none)), (227, 2, 9, ck_one 0), (226, 20, 20, ck_one 0), (226, 21, 21, ck_one 0), (226, 22, 22, ck_one 0), (226, 23, 23, ck_one 0), (235, 0, 11999, (0, 1, none))]), ([(226, 17, 23), (226, 26, 26), (235, 0, 29699)], []), [(.inr (some (.inl (ck_one 0))), 245, ([], [], [(226, 23, 23, ck_one 0), (226, 22, 22, ck_one 0), (226, 21, 21, ck_one 0), (226, 20, 20, ck_one 0), (226, 19, 19, (0, 299, none)), (226, 18, 18, (0, 39, none)), (226, 17, 17, (0, 2, none)), (226, 26, 26, (0, 2, none)), (235, 0, 11999, (0, 1, none))]))])
def p39x_353_E : List (Nat × List ck_Sum) := [(294, [p39x_349]), (291, [p39x_350]), (295, [p39x_351, p39x_352])]
def p39x_353_L : ck_AL := [some (.inr (.inr (.inl 226))), some (.inl (0, 2, none)), some (.inl (0, 39, none)), some (.inl (0, 299, none)), some (.inl (0, 11999, none)), none]
set_option maxRecDepth 100000 in
def p39x_353_F : ck_F := ([], [], [(226, 26, 26, (0, 2, none)), (235, 0, 11999, (0, 1, none)), (226, 19, 19, (0, 299, none)), (226, 18, 18, (0, 39, none)), (226, 17, 17, (0, 2, none)), (227, 2, 9, ck_one 0), (226, 20, 20, ck_one 0), (226, 21, 21, ck_one 0), (226, 22, 22, ck_one 0), (226, 23, 23, ck_one 0)])
def p39x_353_C : ck_C := (p39x_353_L, p39x_353_F, 0, .inl 4, true)
set_option maxRecDepth 100000 in
theorem p39x_353_a : (decide (p39x_353.2.2.1.length ≤ gm_ml 293) && ck_go p1_O none [] p39x_353_E 293 p39x_353.1.1 p39x_353.2.1 p39x_353.2.2.2.2.1 p39x_353.2.2.2.2.2 [(14, p39x_353_C)] 400 false [(14, p39x_353_C, 0, 0, 245)] p39x_353.1.2.1 p39x_353.1.2.2 0 (p39x_353.2.2.1.map some ++ List.replicate (gm_ml 293 - p39x_353.2.2.1.length) none) [] p39x_353.2.1 p39x_353.2.2.2.1) = true := by decide +kernel
set_option maxRecDepth 100000 in
theorem p39x_353_b : ck_go p1_O none [] p39x_353_E 293 p39x_353.1.1 p39x_353.2.1 p39x_353.2.2.2.2.1 p39x_353.2.2.2.2.2 [] 400 true [] 0 0 34 p39x_353_L [] 245 p39x_353_F = true := by decide +kernel
set_option maxRecDepth 100000 in
theorem p39x_353_f : ck_fi p39x_353_F 235 0 11999 = some (0, 1, none) := by decide +kernel
set_option maxRecDepth 100000 in
theorem p39x_353_g : ck_leF p1_O p39x_353_F (([], [], [(226, 23, 23, ck_one 0), (226, 22, 22, ck_one 0), (226, 21, 21, ck_one 0), (226, 20, 20, ck_one 0), (226, 19, 19, (0, 299, none)), (226, 18, 18, (0, 39, none)), (226, 17, 17, (0, 2, none)), (226, 26, 26, (0, 2, none)), (235, 0, 11999, (0, 1, none))])) = true := by decide +kernel
theorem p39x_353_h {X : Int → Int} {LX : Nat} : ck_OkE p1_O X LX p39x_353_E := ck_E1 (ck_S1 p39x_349_s ck_S0) (ck_E1 (ck_S1 p39x_350_s ck_S0) (ck_E1 (ck_S1 p39x_351_s (ck_S1 p39x_352_s ck_S0)) ck_E0))
theorem p39x_353_s {X : Int → Int} {LX : Nat} : ck_Ok p1_O X LX 293 p39x_353 := by
  refine ck_ok_st (cuts := [(14, p39x_353_C)]) p39x_353_h p39x_353_a (fun h hm => ?_)
  rw [List.mem_singleton.mp hm]
  refine ⟨rfl, fun σ K0 R0 M0 v _ bc bs L K R M hb1 hb2 hS _ => ?_⟩
  obtain ⟨hF, hl, hs, hf, hfr⟩ := hS
  obtain ⟨u0, e0, g0⟩ := hl.2 0 (.inr (.inr (.inl 226))) rfl
  cases g0
  obtain ⟨u4, e4, t, rfl, ht1, ht2, ht3, -⟩ := hl.2 4 (.inl (0, 11999, none)) rfl
  have ht2 : (0 : Int) ≤ t := ht2
  have ht3 : t ≤ (11999 : Int) := ht3
  obtain ⟨-, hM1, hM2, -⟩ := (ck_fi_s hf p39x_353_f).2 t (by omega) (by omega)
  have hM1 : (0 : Int) ≤ M 235 t := hM1
  have hM2 : M 235 t ≤ (1 : Int) := hM2
  refine ck_flow (O := p1_O) hF (k := 226) (fl := 235) (by decide +kernel) (by decide +kernel) (by decide +kernel) e0 e4 ⟨by omega, by omega⟩ ⟨by omega, by omega⟩ (fun hp => ?_) ?_
  · have e : M 235 t - 1 = 0 := by omega
    rw [e]
    exact ⟨hF, hfr, _, List.mem_cons_self, ⟨0, rfl, ⟨by decide, by decide⟩, by decide, by decide, fun _ h => nomatch h⟩, rfl, ck_leF_s hF hf p39x_353_g⟩
  · exact gm_Wp_wk (Nat.le_refl _) hb1 hb2 (ck_go_s (σ0 := σ) (cuts := []) p39x_353_h ck_X0 ck_l0 400 true [] _ _ 34 _ [] _ _ σ L [] K R M (fun _ _ => rfl) (fun _ h => nomatch h) ⟨hF, hl, rfl, hf, hfr⟩ p39x_353_b)
set_option maxRecDepth 100000 in
def p39x_408 : ck_Sum := ((0, 0, 0), 245, [.inr (.inr (.inl 226)), .inl (ck_one 0), .inl (0, 298, none), .inl (ck_one (-1))], ([], [], [(227, 2, 9, ck_one 0)]), ([], []), [(.inr (some (.inl (ck_one 0))), 245, ([], [], []))])
set_option maxRecDepth 100000 in
theorem p39x_408_e : ck_ok p1_O none [] [] 308 [(6, [some (.inr (.inr (.inl 226))), some (.inl (ck_one 0)), some (.inl (0, 298, none)), some (.inl (ck_one (-1))), some (.inl (ck_one 0)), some (.inl (ck_one 0)), none], ([], [], [(227, 2, 9, ck_one 0)]), 100, .inl 4, true)] 122 p39x_408 = true := by decide +kernel
theorem p39x_408_s {X : Int → Int} {LX : Nat} : ck_Ok p1_O X LX 308 p39x_408 := ck_ok_s (ck_E0) ck_X0 ck_l0 p39x_408_e
set_option maxRecDepth 100000 in
def p39x_409 : ck_Sum := ((2, 0, 0), 245, [.inr (.inr (.inl 226)), .inl (0, 2, none), .inl (ck_one 0), .inl (0, 299, none), .inl (ck_one 0), .inl (ck_one (-1))], ([], [], [(226, 26, 26, ck_one (-1)), (227, 11, 11, ck_one 2), (227, 10, 10, ck_one 10), (227, 1, 1, ck_one 40), (227, 2, 9, ck_one 0), (237, 0, 299, ck_one 0), (236, 0, 299, ck_one 0), (226, 17, 17, ck_one 0), (226, 18, 18, ck_one 0), (226, 19, 19, ck_one 0), (226, 20, 20, ck_one 0), (226, 21, 21, ck_one 0), (226, 22, 22, ck_one 0), (226, 23, 23, ck_one 0), (226, 29, 29, ck_one 0), (226, 30, 30, ck_one 0), (235, 0, 11999, ck_one 0), (235, 12000, 29699, ck_one 0)]), ([(226, 17, 23), (226, 26, 26), (226, 29, 30), (235, 0, 29699), (236, 0, 299), (237, 0, 299)], []), [(.inr none, 245, ([], [], [(226, 30, 30, ck_one 0), (226, 29, 29, ck_one (-1)), (226, 26, 26, ((-1), 2, none)), (226, 17, 17, (0, 2, none)), (226, 18, 18, (0, 39, none)), (226, 19, 19, (0, 299, none)), (226, 20, 20, ck_one 0), (226, 21, 21, ck_one 0), (226, 22, 22, ck_one 0), (226, 23, 23, ck_one 0), (237, 0, 299, ((-1), 99, none)), (236, 0, 299, ((-1), 0, none)), (235, 0, 11999, (0, 1, none))]))])
set_option maxRecDepth 100000 in
theorem p39x_409_e : ck_ok p1_O none [] [(260, [p39x_348]), (293, [p39x_353]), (308, [p39x_408])] 307 [(3, [some (.inr (.inr (.inl 226))), some (.inl (0, 2, none)), some (.inl (ck_one 0)), some (.inl (0, 299, none)), some (.inl (ck_one 0)), some (.inl (ck_one (-1))), some (.inl (0, 299, none)), none, none], ([], [], [(226, 26, 26, ck_one (-1)), (227, 11, 11, ck_one 2), (227, 10, 10, ck_one 10), (227, 1, 1, ck_one 40), (227, 2, 9, ck_one 0), (237, 0, 299, ((-1), 0, none)), (236, 0, 299, ((-1), 0, none)), (226, 17, 17, ck_one 0), (226, 18, 18, ck_one 0), (226, 19, 19, ck_one 0), (226, 20, 20, ck_one 0), (226, 21, 21, ck_one 0), (226, 22, 22, ck_one 0), (226, 23, 23, ck_one 0), (226, 29, 29, ck_one 0), (226, 30, 30, ck_one 0), (235, 0, 11999, ck_one 0), (235, 12000, 29699, ck_one 0)]), 100, .inl 6, true), (50, [some (.inr (.inr (.inl 226))), some (.inl (0, 2, none)), some (.inl (ck_one 0)), some (.inl (0, 299, none)), some (.inl (ck_one 0)), some (.inl (ck_one (-1))), some (.inl (ck_one 0)), some (.inl (0, 99, none)), some (.inl (0, 300, none))], ([], [], [(226, 30, 30, ck_one 0), (226, 29, 29, ck_one (-1)), (226, 26, 26, ((-1), 2, none)), (227, 11, 11, ck_one 2), (227, 10, 10, ck_one 10), (227, 1, 1, ck_one 40), (227, 2, 9, ck_one 0), (237, 0, 299, ((-1), 99, none)), (236, 0, 299, ((-1), 0, none)), (226, 17, 17, (0, 2, none)), (226, 18, 18, (0, 39, none)), (226, 19, 19, (0, 299, none)), (226, 20, 20, ck_one 0), (226, 21, 21, ck_one 0), (226, 22, 22, ck_one 0), (226, 23, 23, ck_one 0), (235, 0, 11999, (0, 1, none))]), 300, .inl 8, true)] 506 p39x_409 = true := by decide +kernel
theorem p39x_409_s {X : Int → Int} {LX : Nat} : ck_Ok p1_O X LX 307 p39x_409 := ck_ok_s (ck_E1 (ck_S1 p39x_348_s ck_S0) (ck_E1 (ck_S1 p39x_353_s ck_S0) (ck_E1 (ck_S1 p39x_408_s ck_S0) ck_E0))) ck_X0 ck_l0 p39x_409_e
set_option maxRecDepth 100000 in
def p39x_410 : ck_Sum := ((3, 0, 0), 245, [.inr (.inr (.inl 226)), .inl (0, 2, none), .inl (ck_one 0), .inl (0, 299, none)], ([], [], [(226, 26, 26, ck_one (-1)), (227, 11, 11, ck_one 2), (227, 10, 10, ck_one 10), (227, 1, 1, ck_one 40), (227, 2, 9, ck_one 0), (237, 0, 299, ck_one 0), (236, 0, 299, ck_one 0), (226, 17, 17, ck_one 0), (226, 18, 18, ck_one 0), (226, 19, 19, ck_one 0), (226, 20, 20, ck_one 0), (226, 21, 21, ck_one 0), (226, 22, 22, ck_one 0), (226, 23, 23, ck_one 0), (226, 29, 29, ck_one 0), (226, 30, 30, ck_one 0), (235, 0, 11999, ck_one 0), (235, 12000, 29699, ck_one 0)]), ([(226, 17, 23), (226, 26, 26), (226, 29, 30), (235, 0, 29699), (236, 0, 299), (237, 0, 299)], []), [(.inr (some (.inl (ck_one (-1)))), 245, ([], [], [(226, 30, 30, ck_one 0), (226, 29, 29, ck_one (-1)), (226, 26, 26, ((-1), 2, none)), (226, 17, 17, (0, 2, none)), (226, 18, 18, (0, 39, none)), (226, 19, 19, (0, 299, none)), (226, 20, 20, ck_one 0), (226, 21, 21, ck_one 0), (226, 22, 22, ck_one 0), (226, 23, 23, ck_one 0), (237, 0, 299, ((-1), 99, none)), (236, 0, 299, ((-1), 0, none)), (235, 0, 11999, (0, 1, none))]))])
set_option maxRecDepth 100000 in
theorem p39x_410_e : ck_ok p1_O none [] [(307, [p39x_409])] 326 [] 90 p39x_410 = true := by decide +kernel
theorem p39x_410_s {X : Int → Int} {LX : Nat} : ck_Ok p1_O X LX 326 p39x_410 := ck_ok_s (ck_E1 (ck_S1 p39x_409_s ck_S0) ck_E0) ck_X0 ck_l0 p39x_410_e
set_option maxRecDepth 100000 in
def p39x_411 : ck_Sum := ((4, 0, 0), 245, [.inr (.inr (.inl 226)), .inl (0, 2, none), .inl (0, 299, none)], ([], [], [(226, 26, 26, ck_one (-1)), (227, 11, 11, ck_one 2), (227, 10, 10, ck_one 10), (227, 1, 1, ck_one 40), (227, 0, 0, ck_one 3), (227, 2, 9, ck_one 0), (237, 0, 299, ck_one 0), (236, 0, 299, ck_one 0), (226, 17, 17, ck_one 0), (226, 18, 18, ck_one 0), (226, 19, 19, ck_one 0), (226, 20, 20, ck_one 0), (226, 21, 21, ck_one 0), (226, 22, 22, ck_one 0), (226, 23, 23, ck_one 0), (226, 29, 29, ck_one 0), (226, 30, 30, ck_one 0), (235, 0, 11999, ck_one 0), (235, 12000, 29699, ck_one 0)]), ([(226, 0, 0), (226, 17, 23), (226, 26, 26), (226, 29, 30), (235, 0, 29699), (236, 0, 299), (237, 0, 299)], []), [(.inr (some (.inl (ck_one (-1)))), 245, ([], [], [(226, 30, 30, ck_one 0), (226, 29, 29, ck_one (-1)), (226, 26, 26, ((-1), 2, none)), (226, 17, 17, (0, 2, none)), (226, 18, 18, (0, 39, none)), (226, 19, 19, (0, 299, none)), (226, 20, 20, ck_one 0), (226, 21, 21, ck_one 0), (226, 22, 22, ck_one 0), (226, 23, 23, ck_one 0), (226, 0, 0, ck_one 0), (237, 0, 299, ((-1), 99, none)), (236, 0, 299, ((-1), 0, none)), (235, 0, 11999, (0, 1, none))]))])
set_option maxRecDepth 100000 in
theorem p39x_411_e : ck_ok p1_O none [] [(289, [p39x_155]), (283, [p39x_156, p39x_347]), (286, [p39x_346]), (326, [p39x_410])] 365 [] 124 p39x_411 = true := by decide +kernel
theorem p39x_411_s {X : Int → Int} {LX : Nat} : ck_Ok p1_O X LX 365 p39x_411 := ck_ok_s (ck_E1 (ck_S1 p39x_155_s ck_S0) (ck_E1 (ck_S1 p39x_156_s (ck_S1 p39x_347_s ck_S0)) (ck_E1 (ck_S1 p39x_346_s ck_S0) (ck_E1 (ck_S1 p39x_410_s ck_S0) ck_E0)))) ck_X0 ck_l0 p39x_411_e
set_option maxRecDepth 100000 in
def p39x_416 : ck_Sum := ((0, 0, 0), 245, [.inl (300, 2147483647, none), .inl (ck_one 0), .inl (ck_one 299)], ([], [], []), ([], []), [(.inr (some (.inl (ck_one 0))), 245, ([], [], []))])
set_option maxRecDepth 100000 in
theorem p39x_416_e : ck_ok p1_O none [] [] 287 [] 86 p39x_416 = true := by decide +kernel
theorem p39x_416_s {X : Int → Int} {LX : Nat} : ck_Ok p1_O X LX 287 p39x_416 := ck_ok_s (ck_E0) ck_X0 ck_l0 p39x_416_e
set_option maxRecDepth 100000 in
def p39x_417 : ck_Sum := ((1, 0, 0), 245, [.inl (300, 2147483647, none)], ([], [], []), ([], []), [(.inr (some (.inl (ck_one 1))), 245, ([], [], []))])
set_option maxRecDepth 100000 in
theorem p39x_417_e : ck_ok p1_O none [] [(287, [p39x_416])] 286 [] 86 p39x_417 = true := by decide +kernel
theorem p39x_417_s {X : Int → Int} {LX : Nat} : ck_Ok p1_O X LX 286 p39x_417 := ck_ok_s (ck_E1 (ck_S1 p39x_416_s ck_S0) ck_E0) ck_X0 ck_l0 p39x_417_e
set_option maxRecDepth 100000 in
def p39x_418 : ck_Sum := ((2, 0, 0), 245, [.inr (.inr (.inl 226)), .inl (0, 2, none), .inl (300, 2147483647, none)], ([], [], [(227, 0, 0, ck_one 3)]), ([(226, 0, 0)], []), [(.inr (some (.inl (ck_one 0))), 245, ([], [], [(226, 0, 0, ck_one 2)]))])
set_option maxRecDepth 100000 in
theorem p39x_418_e : ck_ok p1_O none [] [(289, [p39x_155]), (283, [p39x_156, p39x_159]), (286, [p39x_417])] 365 [] 106 p39x_418 = true := by decide +kernel
theorem p39x_418_s {X : Int → Int} {LX : Nat} : ck_Ok p1_O X LX 365 p39x_418 := ck_ok_s (ck_E1 (ck_S1 p39x_155_s ck_S0) (ck_E1 (ck_S1 p39x_156_s (ck_S1 p39x_159_s ck_S0)) (ck_E1 (ck_S1 p39x_417_s ck_S0) ck_E0))) ck_X0 ck_l0 p39x_418_e
set_option maxRecDepth 100000 in
def p39x_423 : ck_Sum := ((0, 0, 0), 245, [.inl (3, 2147483647, none), .inl (ck_one 0), .inl (ck_one 2)], ([], [], []), ([], []), [(.inr (some (.inl (ck_one 0))), 245, ([], [], []))])
set_option maxRecDepth 100000 in
theorem p39x_423_e : ck_ok p1_O none [] [] 287 [] 86 p39x_423 = true := by decide +kernel
theorem p39x_423_s {X : Int → Int} {LX : Nat} : ck_Ok p1_O X LX 287 p39x_423 := ck_ok_s (ck_E0) ck_X0 ck_l0 p39x_423_e
set_option maxRecDepth 100000 in
def p39x_424 : ck_Sum := ((1, 0, 0), 245, [.inr (.inr (.inl 226)), .inl (3, 2147483647, none)], ([], [], [(227, 0, 0, ck_one 3)]), ([], []), [(.inr (some (.inl (ck_one 1))), 245, ([], [], []))])
set_option maxRecDepth 100000 in
theorem p39x_424_e : ck_ok p1_O none [] [(262, [p39x_137]), (287, [p39x_423])] 289 [] 92 p39x_424 = true := by decide +kernel
theorem p39x_424_s {X : Int → Int} {LX : Nat} : ck_Ok p1_O X LX 289 p39x_424 := ck_ok_s (ck_E1 (ck_S1 p39x_137_s ck_S0) (ck_E1 (ck_S1 p39x_423_s ck_S0) ck_E0)) ck_X0 ck_l0 p39x_424_e
set_option maxRecDepth 100000 in
def p39x_425 : ck_Sum := ((2, 0, 0), 245, [.inr (.inr (.inl 226)), .inl (3, 2147483647, none), .inl ((-2147483648), (-1), none)], ([], [], [(227, 0, 0, ck_one 3)]), ([(226, 0, 0)], []), [(.inr (some (.inl (ck_one 0))), 245, ([], [], [(226, 0, 0, ck_one 1)]))])
set_option maxRecDepth 100000 in
theorem p39x_425_e : ck_ok p1_O none [] [(289, [p39x_424]), (283, [p39x_140])] 365 [] 94 p39x_425 = true := by decide +kernel
theorem p39x_425_s {X : Int → Int} {LX : Nat} : ck_Ok p1_O X LX 365 p39x_425 := ck_ok_s (ck_E1 (ck_S1 p39x_424_s ck_S0) (ck_E1 (ck_S1 p39x_140_s ck_S0) ck_E0)) ck_X0 ck_l0 p39x_425_e
set_option maxRecDepth 100000 in
def p39x_428 : ck_Sum := ((2, 0, 0), 245, [.inr (.inr (.inl 226)), .inl (3, 2147483647, none), .inl (0, 299, none)], ([], [], [(227, 0, 0, ck_one 3)]), ([(226, 0, 0)], []), [(.inr (some (.inl (ck_one 0))), 245, ([], [], [(226, 0, 0, ck_one 1)]))])
set_option maxRecDepth 100000 in
theorem p39x_428_e : ck_ok p1_O none [] [(289, [p39x_424]), (283, [p39x_140])] 365 [] 94 p39x_428 = true := by decide +kernel
theorem p39x_428_s {X : Int → Int} {LX : Nat} : ck_Ok p1_O X LX 365 p39x_428 := ck_ok_s (ck_E1 (ck_S1 p39x_424_s ck_S0) (ck_E1 (ck_S1 p39x_140_s ck_S0) ck_E0)) ck_X0 ck_l0 p39x_428_e
set_option maxRecDepth 100000 in
def p39x_431 : ck_Sum := ((2, 0, 0), 245, [.inr (.inr (.inl 226)), .inl (3, 2147483647, none), .inl (300, 2147483647, none)], ([], [], [(227, 0, 0, ck_one 3)]), ([(226, 0, 0)], []), [(.inr (some (.inl (ck_one 0))), 245, ([], [], [(226, 0, 0, ck_one 1)]))])
set_option maxRecDepth 100000 in
theorem p39x_431_e : ck_ok p1_O none [] [(289, [p39x_424]), (283, [p39x_140])] 365 [] 94 p39x_431 = true := by decide +kernel
theorem p39x_431_s {X : Int → Int} {LX : Nat} : ck_Ok p1_O X LX 365 p39x_431 := ck_ok_s (ck_E1 (ck_S1 p39x_424_s ck_S0) (ck_E1 (ck_S1 p39x_140_s ck_S0) ck_E0)) ck_X0 ck_l0 p39x_431_e
set_option maxRecDepth 100000 in
def p39x_142 : ck_Sum := ((0, 0, 0), 245, [.inr (.inr (.inl 226))], ([], [], [(226, 0, 0, ck_one 1)]), ([], []), [(.inr (some (.inl (ck_one 1))), 245, ([], [], []))])
set_option maxRecDepth 100000 in
theorem p39x_142_e : ck_ok p1_O none [] [] 234 [] 76 p39x_142 = true := by decide +kernel
theorem p39x_142_s {X : Int → Int} {LX : Nat} : ck_Ok p1_O X LX 234 p39x_142 := ck_ok_s (ck_E0) ck_X0 ck_l0 p39x_142_e
set_option maxRecDepth 100000 in
def p39x_161 : ck_Sum := ((0, 0, 0), 245, [.inr (.inr (.inl 226))], ([], [], [(226, 0, 0, ck_one 2)]), ([], []), [(.inr (some (.inl (ck_one 2))), 245, ([], [], []))])
set_option maxRecDepth 100000 in
theorem p39x_161_e : ck_ok p1_O none [] [] 234 [] 76 p39x_161 = true := by decide +kernel
theorem p39x_161_s {X : Int → Int} {LX : Nat} : ck_Ok p1_O X LX 234 p39x_161 := ck_ok_s (ck_E0) ck_X0 ck_l0 p39x_161_e
set_option maxRecDepth 100000 in
def p39x_412 : ck_Sum := ((0, 0, 0), 245, [.inr (.inr (.inl 226))], ([], [], [(226, 0, 0, ck_one 0)]), ([], []), [(.inr (some (.inl (ck_one 0))), 245, ([], [], []))])
set_option maxRecDepth 100000 in
theorem p39x_412_e : ck_ok p1_O none [] [] 234 [] 76 p39x_412 = true := by decide +kernel
theorem p39x_412_s {X : Int → Int} {LX : Nat} : ck_Ok p1_O X LX 234 p39x_412 := ck_ok_s (ck_E0) ck_X0 ck_l0 p39x_412_e
set_option maxRecDepth 100000 in
def p39_F : ck_F := ([], [(3, 8, 0), (16, 8, 0), (29, 8, 0), (44, 8, 0), (57, 8, 0), (70, 8, 0), (83, 8, 0), (96, 8, 0), (109, 8, 0), (122, 8, 0), (135, 8, 0), (148, 8, 0), (161, 8, 0), (174, 8, 0), (187, 8, 0)], [(245, 0, 0, ck_one 0), (226, 26, 26, ck_one (-1)), (227, 11, 11, ck_one 2), (227, 10, 10, ck_one 10), (227, 1, 1, ck_one 40), (227, 0, 0, ck_one 3), (227, 2, 9, ck_one 0), (237, 0, 299, ck_one 0), (236, 0, 299, ck_one 0), (226, 0, 0, ck_one 0), (226, 17, 17, ck_one 0), (226, 18, 18, ck_one 0), (226, 19, 19, ck_one 0), (226, 20, 20, ck_one 0), (226, 21, 21, ck_one 0), (226, 22, 22, ck_one 0), (226, 23, 23, ck_one 0), (226, 29, 29, ck_one 0), (226, 30, 30, ck_one 0), (206, 7, 7, ck_one 0), (206, 6, 6, ck_one 0), (206, 5, 5, ck_one 0), (206, 3, 3, ck_one 0), (206, 2, 2, ck_one 0), (3, 3, 3, ck_one 2), (3, 2, 2, ck_one 10), (3, 1, 1, ck_one 40), (3, 0, 0, ck_one 3), (203, 0, 299, ck_one 0), (202, 0, 593, ck_one 0), (235, 0, 11999, ck_one 0), (235, 12000, 29699, ck_one 0)])
def p39_E : List (Nat × List ck_Sum) := [(226, [p39x_136, p39x_144, p39x_147, p39x_153, p39x_344, p39x_415, p39x_422, p39x_427, p39x_430]), (365, [p39x_141, p39x_145, p39x_148, p39x_160, p39x_411, p39x_418, p39x_425, p39x_428, p39x_431]), (234, [p39x_142, p39x_161, p39x_412])]
theorem p39_h {X : Int → Int} {LX : Nat} : ck_OkE p1_O X LX p39_E := ck_E1 (ck_S1 p39x_136_s (ck_S1 p39x_144_s (ck_S1 p39x_147_s (ck_S1 p39x_153_s (ck_S1 p39x_344_s (ck_S1 p39x_415_s (ck_S1 p39x_422_s (ck_S1 p39x_427_s (ck_S1 p39x_430_s ck_S0))))))))) (ck_E1 (ck_S1 p39x_141_s (ck_S1 p39x_145_s (ck_S1 p39x_148_s (ck_S1 p39x_160_s (ck_S1 p39x_411_s (ck_S1 p39x_418_s (ck_S1 p39x_425_s (ck_S1 p39x_428_s (ck_S1 p39x_431_s ck_S0))))))))) (ck_E1 (ck_S1 p39x_142_s (ck_S1 p39x_161_s (ck_S1 p39x_412_s ck_S0))) ck_E0))
set_option maxRecDepth 100000 in
theorem p39_b : (ck_prod [(1, [((-2147483648), (-1)), (0, 2), (3, 2147483647)]), (2, [((-2147483648), (-1)), (0, 299), (300, 2147483647)])]).all (fun xf => ck_go p1_O (some 6) xf p39_E 370 280 245 p1_W p1_outs [] 152 false [] 1000 2000 2658 p1_L [] 245 p39_F) = true := by decide +kernel
theorem p39_s {X : Int → Int} {LX : Nat} (hLX : 6 = LX) (hX : ∀ j, gm_ir (X j)) {σ : Nat → Int} {L : gm_L} {K0 K : gm_K} {R0 R : gm_R} {M0 M : gm_M} (hS : ck_St p1_O σ p1_W 245 K0 R0 M0 p1_L [] p39_F L [] 245 K R M) : gm_Wp X LX 280 1000 2000 370 2658 L [] 245 K R M (ck_Q p1_O σ p1_W 245 K0 R0 M0 p1_outs) := ck_boxes p39_h hLX hX (by decide +kernel) p39_b hS
