/-! swiftest, on a new object: laid by wip/am/p1g.py. -/
set_option maxRecDepth 100000 in
def p40x_133 : ck_Sum := ((6, 1, 6), 245, [.inr (.inr (.inl 1)), .inl ((-2147483648), (-1), none), .inl (ck_one 40)], ([], [], []), ([], []), [(.inl 3, 245, ([], [], []))])
set_option maxRecDepth 100000 in
theorem p40x_133_e : ck_ok p1_O none [] [] 133 [] 76 p40x_133 = true := by decide +kernel
theorem p40x_133_s {X : Int → Int} {LX : Nat} : ck_Ok p1_O X LX 133 p40x_133 := ck_ok_s (ck_E0) ck_X0 ck_l0 p40x_133_e
set_option maxRecDepth 100000 in
def p40x_134 : ck_Sum := ((7, 1, 6), 245, [.inr (.inr (.inl 1)), .inl ((-2147483648), (-1), none)], ([], [], [(3, 1, 1, ck_one 40)]), ([], []), [(.inl 3, 245, ([], [], []))])
set_option maxRecDepth 100000 in
theorem p40x_134_e : ck_ok p1_O none [] [(133, [p40x_133])] 134 [] 82 p40x_134 = true := by decide +kernel
theorem p40x_134_s {X : Int → Int} {LX : Nat} : ck_Ok p1_O X LX 134 p40x_134 := ck_ok_s (ck_E1 (ck_S1 p40x_133_s ck_S0) ck_E0) ck_X0 ck_l0 p40x_134_e
set_option maxRecDepth 100000 in
def p40x_135 : ck_Sum := ((8, 1, 6), 245, [.inr (.inr (.inl 1)), .inl ((-2147483648), (-1), none), .inl ((-2147483648), (-1), none)], ([], [], [(3, 1, 1, ck_one 40)]), ([], []), [(.inl 3, 245, ([], [], []))])
set_option maxRecDepth 100000 in
theorem p40x_135_e : ck_ok p1_O none [] [(134, [p40x_134])] 229 [] 76 p40x_135 = true := by decide +kernel
theorem p40x_135_s {X : Int → Int} {LX : Nat} : ck_Ok p1_O X LX 229 p40x_135 := ck_ok_s (ck_E1 (ck_S1 p40x_134_s ck_S0) ck_E0) ck_X0 ck_l0 p40x_135_e
set_option maxRecDepth 100000 in
def p40x_136 : ck_Sum := ((9, 1, 6), 245, [.inr (.inr (.inl 1)), .inl ((-2147483648), (-1), none), .inl ((-2147483648), (-1), none), .inr (.inr (.inl 245))], ([], [], [(3, 1, 1, ck_one 40)]), ([], []), [(.inr (some (.inl (ck_one 1))), 245, ([], [], []))])
set_option maxRecDepth 100000 in
theorem p40x_136_e : ck_ok p1_O none [] [(229, [p40x_135])] 228 [] 88 p40x_136 = true := by decide +kernel
theorem p40x_136_s {X : Int → Int} {LX : Nat} : ck_Ok p1_O X LX 228 p40x_136 := ck_ok_s (ck_E1 (ck_S1 p40x_135_s ck_S0) ck_E0) ck_X0 ck_l0 p40x_136_e
set_option maxRecDepth 100000 in
def p40x_143 : ck_Sum := ((8, 1, 6), 245, [.inr (.inr (.inl 1)), .inl ((-2147483648), (-1), none), .inl (0, 299, none)], ([], [], [(3, 1, 1, ck_one 40)]), ([], []), [(.inl 3, 245, ([], [], []))])
set_option maxRecDepth 100000 in
theorem p40x_143_e : ck_ok p1_O none [] [(134, [p40x_134])] 229 [] 76 p40x_143 = true := by decide +kernel
theorem p40x_143_s {X : Int → Int} {LX : Nat} : ck_Ok p1_O X LX 229 p40x_143 := ck_ok_s (ck_E1 (ck_S1 p40x_134_s ck_S0) ck_E0) ck_X0 ck_l0 p40x_143_e
set_option maxRecDepth 100000 in
def p40x_144 : ck_Sum := ((9, 1, 6), 245, [.inr (.inr (.inl 1)), .inl ((-2147483648), (-1), none), .inl (0, 299, none), .inr (.inr (.inl 245))], ([], [], [(3, 1, 1, ck_one 40)]), ([], []), [(.inr (some (.inl (ck_one 1))), 245, ([], [], []))])
set_option maxRecDepth 100000 in
theorem p40x_144_e : ck_ok p1_O none [] [(229, [p40x_143])] 228 [] 88 p40x_144 = true := by decide +kernel
theorem p40x_144_s {X : Int → Int} {LX : Nat} : ck_Ok p1_O X LX 228 p40x_144 := ck_ok_s (ck_E1 (ck_S1 p40x_143_s ck_S0) ck_E0) ck_X0 ck_l0 p40x_144_e
set_option maxRecDepth 100000 in
def p40x_146 : ck_Sum := ((8, 1, 6), 245, [.inr (.inr (.inl 1)), .inl ((-2147483648), (-1), none), .inl (300, 2147483647, none)], ([], [], [(3, 1, 1, ck_one 40)]), ([], []), [(.inl 3, 245, ([], [], []))])
set_option maxRecDepth 100000 in
theorem p40x_146_e : ck_ok p1_O none [] [(134, [p40x_134])] 229 [] 76 p40x_146 = true := by decide +kernel
theorem p40x_146_s {X : Int → Int} {LX : Nat} : ck_Ok p1_O X LX 229 p40x_146 := ck_ok_s (ck_E1 (ck_S1 p40x_134_s ck_S0) ck_E0) ck_X0 ck_l0 p40x_146_e
set_option maxRecDepth 100000 in
def p40x_147 : ck_Sum := ((9, 1, 6), 245, [.inr (.inr (.inl 1)), .inl ((-2147483648), (-1), none), .inl (300, 2147483647, none), .inr (.inr (.inl 245))], ([], [], [(3, 1, 1, ck_one 40)]), ([], []), [(.inr (some (.inl (ck_one 1))), 245, ([], [], []))])
set_option maxRecDepth 100000 in
theorem p40x_147_e : ck_ok p1_O none [] [(229, [p40x_146])] 228 [] 88 p40x_147 = true := by decide +kernel
theorem p40x_147_s {X : Int → Int} {LX : Nat} : ck_Ok p1_O X LX 228 p40x_147 := ck_ok_s (ck_E1 (ck_S1 p40x_146_s ck_S0) ck_E0) ck_X0 ck_l0 p40x_147_e
set_option maxRecDepth 100000 in
def p40x_149 : ck_Sum := ((0, 0, 0), 245, [.inr (.inr (.inl 1)), .inl (0, 39, none), .inl (ck_one 40)], ([], [], []), ([], []), [(.inr none, 245, ([], [], []))])
set_option maxRecDepth 100000 in
theorem p40x_149_e : ck_ok p1_O none [] [] 133 [] 82 p40x_149 = true := by decide +kernel
theorem p40x_149_s {X : Int → Int} {LX : Nat} : ck_Ok p1_O X LX 133 p40x_149 := ck_ok_s (ck_E0) ck_X0 ck_l0 p40x_149_e
set_option maxRecDepth 100000 in
def p40x_150 : ck_Sum := ((1, 0, 0), 245, [.inr (.inr (.inl 1)), .inl (0, 39, none)], ([], [], [(3, 1, 1, ck_one 40)]), ([], []), [(.inr none, 245, ([], [], []))])
set_option maxRecDepth 100000 in
theorem p40x_150_e : ck_ok p1_O none [] [(133, [p40x_149])] 134 [] 84 p40x_150 = true := by decide +kernel
theorem p40x_150_s {X : Int → Int} {LX : Nat} : ck_Ok p1_O X LX 134 p40x_150 := ck_ok_s (ck_E1 (ck_S1 p40x_149_s ck_S0) ck_E0) ck_X0 ck_l0 p40x_150_e
set_option maxRecDepth 100000 in
def p40x_151 : ck_Sum := ((6, 1, 6), 245, [.inr (.inr (.inl 1)), .inl ((-2147483648), (-1), none)], ([], [], []), ([], []), [(.inl 0, 245, ([], [], []))])
set_option maxRecDepth 100000 in
theorem p40x_151_e : ck_ok p1_O none [] [] 129 [] 76 p40x_151 = true := by decide +kernel
theorem p40x_151_s {X : Int → Int} {LX : Nat} : ck_Ok p1_O X LX 129 p40x_151 := ck_ok_s (ck_E0) ck_X0 ck_l0 p40x_151_e
set_option maxRecDepth 100000 in
def p40x_152 : ck_Sum := ((7, 1, 6), 245, [.inr (.inr (.inl 1)), .inl (0, 39, none), .inl ((-2147483648), (-1), none)], ([], [], [(3, 1, 1, ck_one 40)]), ([], []), [(.inl 0, 245, ([], [], []))])
set_option maxRecDepth 100000 in
theorem p40x_152_e : ck_ok p1_O none [] [(134, [p40x_150]), (129, [p40x_151])] 229 [] 82 p40x_152 = true := by decide +kernel
theorem p40x_152_s {X : Int → Int} {LX : Nat} : ck_Ok p1_O X LX 229 p40x_152 := ck_ok_s (ck_E1 (ck_S1 p40x_150_s ck_S0) (ck_E1 (ck_S1 p40x_151_s ck_S0) ck_E0)) ck_X0 ck_l0 p40x_152_e
set_option maxRecDepth 100000 in
def p40x_153 : ck_Sum := ((8, 1, 6), 245, [.inr (.inr (.inl 1)), .inl (0, 39, none), .inl ((-2147483648), (-1), none), .inr (.inr (.inl 245))], ([], [], [(3, 1, 1, ck_one 40)]), ([], []), [(.inr (some (.inl (ck_one 2))), 245, ([], [], []))])
set_option maxRecDepth 100000 in
theorem p40x_153_e : ck_ok p1_O none [] [(229, [p40x_152])] 228 [] 88 p40x_153 = true := by decide +kernel
theorem p40x_153_s {X : Int → Int} {LX : Nat} : ck_Ok p1_O X LX 228 p40x_153 := ck_ok_s (ck_E1 (ck_S1 p40x_152_s ck_S0) ck_E0) ck_X0 ck_l0 p40x_153_e
set_option maxRecDepth 100000 in
def p40x_162 : ck_Sum := ((0, 0, 0), 245, [.inr (.inr (.inl 1)), .inl (0, 299, none)], ([], [], []), ([], []), [(.inr none, 245, ([], [], []))])
set_option maxRecDepth 100000 in
theorem p40x_162_e : ck_ok p1_O none [] [] 129 [] 82 p40x_162 = true := by decide +kernel
theorem p40x_162_s {X : Int → Int} {LX : Nat} : ck_Ok p1_O X LX 129 p40x_162 := ck_ok_s (ck_E0) ck_X0 ck_l0 p40x_162_e
set_option maxRecDepth 100000 in
def p40x_485 : ck_Sum := ((0, 0, 0), 245, [.inr (.inr (.inl 206)), .inl (0, 2, none), .inl (0, 39, none), .inl (0, 299, none), .inl (ck_one 0)], ([], [], []), ([(206, 2, 8)], []), [(.inr none, 245, ([], [], [(206, 8, 8, ck_one 0), (206, 6, 6, ck_one 0), (206, 4, 4, ck_one (-1)), (206, 3, 3, ck_one 0), (206, 7, 7, (0, 299, none)), (206, 5, 5, (0, 39, none)), (206, 2, 2, (0, 2, none))]))])
set_option maxRecDepth 100000 in
theorem p40x_485_e : ck_ok p1_O none [] [] 29 [] 114 p40x_485 = true := by decide +kernel
theorem p40x_485_s {X : Int → Int} {LX : Nat} : ck_Ok p1_O X LX 29 p40x_485 := ck_ok_s (ck_E0) ck_X0 ck_l0 p40x_485_e
set_option maxRecDepth 100000 in
def p40x_164 : ck_Sum := ((0, 0, 0), 245, [.inr (.inr (.inl 206))], ([], [], [(206, 5, 5, (0, 39, none)), (3, 1, 1, ck_one 40)]), ([], []), [(.inr (some (.inl (ck_one 0))), 245, ([], [], []))])
set_option maxRecDepth 100000 in
theorem p40x_164_e : ck_ok p1_O none [] [] 31 [] 86 p40x_164 = true := by decide +kernel
theorem p40x_164_s {X : Int → Int} {LX : Nat} : ck_Ok p1_O X LX 31 p40x_164 := ck_ok_s (ck_E0) ck_X0 ck_l0 p40x_164_e
set_option maxRecDepth 100000 in
def p40x_361 : ck_Sum := ((0, 0, 0), 245, [.inr (.inr (.inl 200)), .inl ((-2147483648), 2147483647, none)], ([], [], [(201, 0, 299, (0, 9, none))]), ([], []), [(.inr (some (.inl (0, 9, none))), 245, ([], [], []))])
set_option maxRecDepth 100000 in
theorem p40x_361_e : ck_ok p1_O none [] [] 34 [] 92 p40x_361 = true := by decide +kernel
theorem p40x_361_s {X : Int → Int} {LX : Nat} : ck_Ok p1_O X LX 34 p40x_361 := ck_ok_s (ck_E0) ck_X0 ck_l0 p40x_361_e
set_option maxRecDepth 100000 in
def p40x_362 : ck_Sum := ((1, 0, 0), 245, [.inr (.inr (.inl 206))], ([], [], [(206, 6, 6, (0, 167, none)), (206, 3, 3, ck_one 0), (206, 5, 5, (0, 39, none)), (3, 3, 3, ck_one 2), (3, 2, 2, ck_one 10), (201, 0, 299, (0, 9, none))]), ([], []), [(.inr (some (.inl (0, 167, none))), 245, ([], [], []))])
set_option maxRecDepth 100000 in
theorem p40x_362_e : ck_ok p1_O none [] [(34, [p40x_361])] 33 [] 110 p40x_362 = true := by decide +kernel
theorem p40x_362_s {X : Int → Int} {LX : Nat} : ck_Ok p1_O X LX 33 p40x_362 := ck_ok_s (ck_E1 (ck_S1 p40x_361_s ck_S0) ck_E0) ck_X0 ck_l0 p40x_362_e
set_option maxRecDepth 100000 in
def p40x_491 : ck_Sum := ((0, 0, 0), 245, [.inr (.inr (.inl 200)), .inl (0, 2, none), .inl (0, 39, none)], ([], [], [(202, 0, 593, ck_one 0)]), ([], []), [(.inr (some (.inl (ck_one 0))), 245, ([], [], []))])
set_option maxRecDepth 100000 in
theorem p40x_491_e : ck_ok p1_O none [] [] 36 [] 108 p40x_491 = true := by decide +kernel
theorem p40x_491_s {X : Int → Int} {LX : Nat} : ck_Ok p1_O X LX 36 p40x_491 := ck_ok_s (ck_E0) ck_X0 ck_l0 p40x_491_e
set_option maxRecDepth 100000 in
def p40x_554 : ck_Sum := ((1, 0, 0), 245, [.inr (.inr (.inl 200)), .inl (0, 2, none), .inl (0, 39, none), .inl ((-2147483648), 2147483647, none)], ([], [(3, 8, 0)], [(202, 0, 593, ck_one 0)]), ([], []), [(.inr (some (.inl (ck_one 0))), 245, ([], [], []))])
set_option maxRecDepth 100000 in
theorem p40x_554_e : ck_ok p1_O none [] [(36, [p40x_491])] 35 [] 92 p40x_554 = true := by decide +kernel
theorem p40x_554_s {X : Int → Int} {LX : Nat} : ck_Ok p1_O X LX 35 p40x_554 := ck_ok_s (ck_E1 (ck_S1 p40x_491_s ck_S0) ck_E0) ck_X0 ck_l0 p40x_554_e
set_option maxRecDepth 100000 in
def p40x_364 : ck_Sum := ((0, 0, 0), 245, [.inr (.inr (.inl 200)), .inl ((-2147483648), 2147483647, none)], ([], [], [(203, 0, 299, ck_one 0)]), ([], []), [(.inr (some (.inl (ck_one 0))), 245, ([], [], []))])
set_option maxRecDepth 100000 in
theorem p40x_364_e : ck_ok p1_O none [] [] 44 [] 92 p40x_364 = true := by decide +kernel
theorem p40x_364_s {X : Int → Int} {LX : Nat} : ck_Ok p1_O X LX 44 p40x_364 := ck_ok_s (ck_E0) ck_X0 ck_l0 p40x_364_e
set_option maxRecDepth 100000 in
def p40x_365 : ck_Sum := ((1, 0, 0), 245, [.inr (.inr (.inl 206))], ([], [], [(203, 0, 299, ck_one 0)]), ([], []), [(.inr none, 245, ([], [], []))])
set_option maxRecDepth 100000 in
theorem p40x_365_e : ck_ok p1_O none [] [(44, [p40x_364])] 43 [(22, [some (.inr (.inr (.inl 206))), some (.inr (.inr (.inl 6))), some (.inl (ck_one 0)), some (.inl (ck_one 0)), none], ([], [], [(203, 0, 299, ck_one 0)]), 100, .inl 3, true)] 142 p40x_365 = true := by decide +kernel
theorem p40x_365_s {X : Int → Int} {LX : Nat} : ck_Ok p1_O X LX 43 p40x_365 := ck_ok_s (ck_E1 (ck_S1 p40x_364_s ck_S0) ck_E0) ck_X0 ck_l0 p40x_365_e
set_option maxRecDepth 100000 in
def p40x_555 : ck_Sum := ((2, 0, 0), 245, [.inr (.inr (.inl 206))], ([], [(3, 8, 0)], [(206, 6, 6, (0, 167, none)), (206, 3, 3, ck_one 0), (206, 5, 5, (0, 39, none)), (206, 2, 2, (0, 2, none)), (3, 3, 3, ck_one 2), (3, 2, 2, ck_one 10), (3, 1, 1, ck_one 40), (203, 0, 299, ck_one 0), (202, 0, 593, ck_one 0), (201, 0, 299, (0, 9, none))]), ([(206, 5, 7)], []), [(.inr none, 245, ([], [], [(206, 6, 6, (0, 167, none)), (206, 5, 5, (0, 39, none))]))])
set_option maxRecDepth 100000 in
theorem p40x_555_e : ck_ok p1_O none [] [(31, [p40x_164]), (33, [p40x_362]), (35, [p40x_554]), (43, [p40x_365])] 32 [] 134 p40x_555 = true := by decide +kernel
theorem p40x_555_s {X : Int → Int} {LX : Nat} : ck_Ok p1_O X LX 32 p40x_555 := ck_ok_s (ck_E1 (ck_S1 p40x_164_s ck_S0) (ck_E1 (ck_S1 p40x_362_s ck_S0) (ck_E1 (ck_S1 p40x_554_s ck_S0) (ck_E1 (ck_S1 p40x_365_s ck_S0) ck_E0)))) ck_X0 ck_l0 p40x_555_e
set_option maxRecDepth 100000 in
def p40x_571 : ck_Sum := ((3, 0, 0), 245, [.inr (.inr (.inl 206)), .inl (ck_one 299)], ([], [(3, 8, 0)], [(206, 6, 6, ck_one 0), (206, 3, 3, ck_one 0), (206, 7, 7, (0, 299, none)), (206, 5, 5, (0, 39, none)), (206, 2, 2, (0, 2, none)), (3, 3, 3, ck_one 2), (3, 2, 2, ck_one 10), (3, 1, 1, ck_one 40), (203, 0, 299, ck_one 0), (202, 0, 593, ck_one 0), (201, 0, 299, (0, 9, none))]), ([(206, 5, 7)], []), [(.inr (some (.inl (ck_one (-1)))), 245, ([], [], [(206, 6, 6, (0, 167, none)), (206, 5, 5, (0, 39, none))]))])
set_option maxRecDepth 100000 in
theorem p40x_571_e : ck_ok p1_O none [] [(31, [p40x_164]), (32, [p40x_555])] 30 [(5, [some (.inr (.inr (.inl 206))), some (.inl (ck_one 299)), some (.inl (0, 300, none))], ([], [(3, 8, 0)], [(206, 6, 6, (0, 167, none)), (206, 3, 3, ck_one 0), (206, 5, 5, (0, 39, none)), (206, 2, 2, (0, 2, none)), (3, 3, 3, ck_one 2), (3, 2, 2, ck_one 10), (3, 1, 1, ck_one 40), (203, 0, 299, ck_one 0), (202, 0, 593, ck_one 0), (201, 0, 299, (0, 9, none))]), 100, .inl 2, true)] 134 p40x_571 = true := by decide +kernel
theorem p40x_571_s {X : Int → Int} {LX : Nat} : ck_Ok p1_O X LX 30 p40x_571 := ck_ok_s (ck_E1 (ck_S1 p40x_164_s ck_S0) (ck_E1 (ck_S1 p40x_555_s ck_S0) ck_E0)) ck_X0 ck_l0 p40x_571_e
set_option maxRecDepth 100000 in
def p40x_572 : ck_Sum := ((4, 0, 0), 245, [.inr (.inr (.inl 1)), .inl (0, 39, none), .inl (0, 299, none)], ([], [(3, 8, 0)], [(206, 8, 8, ck_one 0), (206, 7, 7, ck_one 0), (206, 6, 6, ck_one 0), (206, 5, 5, ck_one 0), (206, 4, 4, ck_one (-1)), (206, 3, 3, ck_one 0), (206, 2, 2, ck_one 0), (3, 3, 3, ck_one 2), (3, 2, 2, ck_one 10), (3, 1, 1, ck_one 40), (3, 0, 0, ck_one 3), (203, 0, 299, ck_one 0), (202, 0, 593, ck_one 0), (201, 0, 299, (0, 9, none))]), ([(206, 2, 8)], []), [(.inr (some (.inl (ck_one (-1)))), 245, ([], [], [(206, 8, 8, ck_one 0), (206, 6, 6, (0, 167, none)), (206, 5, 5, (0, 39, none)), (206, 4, 4, ck_one (-1)), (206, 3, 3, ck_one 0), (206, 2, 2, (0, 2, none))]))])
set_option maxRecDepth 100000 in
theorem p40x_572_e : ck_ok p1_O none [] [(134, [p40x_150]), (129, [p40x_162]), (29, [p40x_485]), (30, [p40x_571])] 229 [(20, [some (.inr (.inr (.inl 1))), some (.inl (0, 39, none)), some (.inl (0, 299, none)), some (.inl (ck_one (-1))), some (.inl (ck_one 300)), some (.inl (0, 3, none)), none], ([], [(3, 8, 0)], [(206, 8, 8, ck_one 0), (206, 6, 6, (0, 167, none)), (206, 5, 5, (0, 39, none)), (206, 4, 4, ck_one (-1)), (206, 3, 3, ck_one 0), (206, 2, 2, (0, 2, none)), (3, 3, 3, ck_one 2), (3, 2, 2, ck_one 10), (3, 1, 1, ck_one 40), (3, 0, 0, ck_one 3), (203, 0, 299, ck_one 0), (202, 0, 593, ck_one 0), (201, 0, 299, (0, 9, none))]), 100, .inl 5, true)] 182 p40x_572 = true := by decide +kernel
theorem p40x_572_s {X : Int → Int} {LX : Nat} : ck_Ok p1_O X LX 229 p40x_572 := ck_ok_s (ck_E1 (ck_S1 p40x_150_s ck_S0) (ck_E1 (ck_S1 p40x_162_s ck_S0) (ck_E1 (ck_S1 p40x_485_s ck_S0) (ck_E1 (ck_S1 p40x_571_s ck_S0) ck_E0)))) ck_X0 ck_l0 p40x_572_e
set_option maxRecDepth 100000 in
def p40x_573 : ck_Sum := ((5, 0, 0), 245, [.inr (.inr (.inl 1)), .inl (0, 39, none), .inl (0, 299, none), .inr (.inr (.inl 245))], ([], [(3, 8, 0)], [(206, 8, 8, ck_one 0), (206, 7, 7, ck_one 0), (206, 6, 6, ck_one 0), (206, 5, 5, ck_one 0), (206, 4, 4, ck_one (-1)), (206, 3, 3, ck_one 0), (206, 2, 2, ck_one 0), (3, 3, 3, ck_one 2), (3, 2, 2, ck_one 10), (3, 1, 1, ck_one 40), (3, 0, 0, ck_one 3), (203, 0, 299, ck_one 0), (202, 0, 593, ck_one 0), (201, 0, 299, (0, 9, none))]), ([(206, 2, 8), (245, 0, 0)], []), [(.inr (some (.inl (ck_one 0))), 245, ([], [], [(245, 0, 0, ck_one (-1)), (206, 8, 8, ck_one 0), (206, 6, 6, (0, 167, none)), (206, 5, 5, (0, 39, none)), (206, 4, 4, ck_one (-1)), (206, 3, 3, ck_one 0), (206, 2, 2, (0, 2, none))]))])
set_option maxRecDepth 100000 in
theorem p40x_573_e : ck_ok p1_O none [] [(229, [p40x_572])] 228 [] 92 p40x_573 = true := by decide +kernel
theorem p40x_573_s {X : Int → Int} {LX : Nat} : ck_Ok p1_O X LX 228 p40x_573 := ck_ok_s (ck_E1 (ck_S1 p40x_572_s ck_S0) ck_E0) ck_X0 ck_l0 p40x_573_e
set_option maxRecDepth 100000 in
def p40x_705 : ck_Sum := ((6, 1, 6), 245, [.inr (.inr (.inl 1)), .inl (300, 2147483647, none)], ([], [], []), ([], []), [(.inl 0, 245, ([], [], []))])
set_option maxRecDepth 100000 in
theorem p40x_705_e : ck_ok p1_O none [] [] 129 [] 82 p40x_705 = true := by decide +kernel
theorem p40x_705_s {X : Int → Int} {LX : Nat} : ck_Ok p1_O X LX 129 p40x_705 := ck_ok_s (ck_E0) ck_X0 ck_l0 p40x_705_e
set_option maxRecDepth 100000 in
def p40x_706 : ck_Sum := ((7, 1, 6), 245, [.inr (.inr (.inl 1)), .inl (0, 39, none), .inl (300, 2147483647, none)], ([], [], [(3, 1, 1, ck_one 40)]), ([], []), [(.inl 0, 245, ([], [], []))])
set_option maxRecDepth 100000 in
theorem p40x_706_e : ck_ok p1_O none [] [(134, [p40x_150]), (129, [p40x_705])] 229 [] 82 p40x_706 = true := by decide +kernel
theorem p40x_706_s {X : Int → Int} {LX : Nat} : ck_Ok p1_O X LX 229 p40x_706 := ck_ok_s (ck_E1 (ck_S1 p40x_150_s ck_S0) (ck_E1 (ck_S1 p40x_705_s ck_S0) ck_E0)) ck_X0 ck_l0 p40x_706_e
set_option maxRecDepth 100000 in
def p40x_707 : ck_Sum := ((8, 1, 6), 245, [.inr (.inr (.inl 1)), .inl (0, 39, none), .inl (300, 2147483647, none), .inr (.inr (.inl 245))], ([], [], [(3, 1, 1, ck_one 40)]), ([], []), [(.inr (some (.inl (ck_one 2))), 245, ([], [], []))])
set_option maxRecDepth 100000 in
theorem p40x_707_e : ck_ok p1_O none [] [(229, [p40x_706])] 228 [] 88 p40x_707 = true := by decide +kernel
theorem p40x_707_s {X : Int → Int} {LX : Nat} : ck_Ok p1_O X LX 228 p40x_707 := ck_ok_s (ck_E1 (ck_S1 p40x_706_s ck_S0) ck_E0) ck_X0 ck_l0 p40x_707_e
set_option maxRecDepth 100000 in
def p40x_711 : ck_Sum := ((6, 1, 6), 245, [.inr (.inr (.inl 1)), .inl (40, 2147483647, none), .inl (ck_one 40)], ([], [], []), ([], []), [(.inl 3, 245, ([], [], []))])
set_option maxRecDepth 100000 in
theorem p40x_711_e : ck_ok p1_O none [] [] 133 [] 82 p40x_711 = true := by decide +kernel
theorem p40x_711_s {X : Int → Int} {LX : Nat} : ck_Ok p1_O X LX 133 p40x_711 := ck_ok_s (ck_E0) ck_X0 ck_l0 p40x_711_e
set_option maxRecDepth 100000 in
def p40x_712 : ck_Sum := ((7, 1, 6), 245, [.inr (.inr (.inl 1)), .inl (40, 2147483647, none)], ([], [], [(3, 1, 1, ck_one 40)]), ([], []), [(.inl 3, 245, ([], [], []))])
set_option maxRecDepth 100000 in
theorem p40x_712_e : ck_ok p1_O none [] [(133, [p40x_711])] 134 [] 82 p40x_712 = true := by decide +kernel
theorem p40x_712_s {X : Int → Int} {LX : Nat} : ck_Ok p1_O X LX 134 p40x_712 := ck_ok_s (ck_E1 (ck_S1 p40x_711_s ck_S0) ck_E0) ck_X0 ck_l0 p40x_712_e
set_option maxRecDepth 100000 in
def p40x_713 : ck_Sum := ((8, 1, 6), 245, [.inr (.inr (.inl 1)), .inl (40, 2147483647, none), .inl ((-2147483648), (-1), none)], ([], [], [(3, 1, 1, ck_one 40)]), ([], []), [(.inl 3, 245, ([], [], []))])
set_option maxRecDepth 100000 in
theorem p40x_713_e : ck_ok p1_O none [] [(134, [p40x_712])] 229 [] 76 p40x_713 = true := by decide +kernel
theorem p40x_713_s {X : Int → Int} {LX : Nat} : ck_Ok p1_O X LX 229 p40x_713 := ck_ok_s (ck_E1 (ck_S1 p40x_712_s ck_S0) ck_E0) ck_X0 ck_l0 p40x_713_e
set_option maxRecDepth 100000 in
def p40x_714 : ck_Sum := ((9, 1, 6), 245, [.inr (.inr (.inl 1)), .inl (40, 2147483647, none), .inl ((-2147483648), (-1), none), .inr (.inr (.inl 245))], ([], [], [(3, 1, 1, ck_one 40)]), ([], []), [(.inr (some (.inl (ck_one 1))), 245, ([], [], []))])
set_option maxRecDepth 100000 in
theorem p40x_714_e : ck_ok p1_O none [] [(229, [p40x_713])] 228 [] 88 p40x_714 = true := by decide +kernel
theorem p40x_714_s {X : Int → Int} {LX : Nat} : ck_Ok p1_O X LX 228 p40x_714 := ck_ok_s (ck_E1 (ck_S1 p40x_713_s ck_S0) ck_E0) ck_X0 ck_l0 p40x_714_e
set_option maxRecDepth 100000 in
def p40x_718 : ck_Sum := ((8, 1, 6), 245, [.inr (.inr (.inl 1)), .inl (40, 2147483647, none), .inl (0, 299, none)], ([], [], [(3, 1, 1, ck_one 40)]), ([], []), [(.inl 3, 245, ([], [], []))])
set_option maxRecDepth 100000 in
theorem p40x_718_e : ck_ok p1_O none [] [(134, [p40x_712])] 229 [] 76 p40x_718 = true := by decide +kernel
theorem p40x_718_s {X : Int → Int} {LX : Nat} : ck_Ok p1_O X LX 229 p40x_718 := ck_ok_s (ck_E1 (ck_S1 p40x_712_s ck_S0) ck_E0) ck_X0 ck_l0 p40x_718_e
set_option maxRecDepth 100000 in
def p40x_719 : ck_Sum := ((9, 1, 6), 245, [.inr (.inr (.inl 1)), .inl (40, 2147483647, none), .inl (0, 299, none), .inr (.inr (.inl 245))], ([], [], [(3, 1, 1, ck_one 40)]), ([], []), [(.inr (some (.inl (ck_one 1))), 245, ([], [], []))])
set_option maxRecDepth 100000 in
theorem p40x_719_e : ck_ok p1_O none [] [(229, [p40x_718])] 228 [] 88 p40x_719 = true := by decide +kernel
theorem p40x_719_s {X : Int → Int} {LX : Nat} : ck_Ok p1_O X LX 228 p40x_719 := ck_ok_s (ck_E1 (ck_S1 p40x_718_s ck_S0) ck_E0) ck_X0 ck_l0 p40x_719_e
set_option maxRecDepth 100000 in
def p40x_721 : ck_Sum := ((8, 1, 6), 245, [.inr (.inr (.inl 1)), .inl (40, 2147483647, none), .inl (300, 2147483647, none)], ([], [], [(3, 1, 1, ck_one 40)]), ([], []), [(.inl 3, 245, ([], [], []))])
set_option maxRecDepth 100000 in
theorem p40x_721_e : ck_ok p1_O none [] [(134, [p40x_712])] 229 [] 76 p40x_721 = true := by decide +kernel
theorem p40x_721_s {X : Int → Int} {LX : Nat} : ck_Ok p1_O X LX 229 p40x_721 := ck_ok_s (ck_E1 (ck_S1 p40x_712_s ck_S0) ck_E0) ck_X0 ck_l0 p40x_721_e
set_option maxRecDepth 100000 in
def p40x_722 : ck_Sum := ((9, 1, 6), 245, [.inr (.inr (.inl 1)), .inl (40, 2147483647, none), .inl (300, 2147483647, none), .inr (.inr (.inl 245))], ([], [], [(3, 1, 1, ck_one 40)]), ([], []), [(.inr (some (.inl (ck_one 1))), 245, ([], [], []))])
set_option maxRecDepth 100000 in
theorem p40x_722_e : ck_ok p1_O none [] [(229, [p40x_721])] 228 [] 88 p40x_722 = true := by decide +kernel
theorem p40x_722_s {X : Int → Int} {LX : Nat} : ck_Ok p1_O X LX 228 p40x_722 := ck_ok_s (ck_E1 (ck_S1 p40x_721_s ck_S0) ck_E0) ck_X0 ck_l0 p40x_722_e
set_option maxRecDepth 100000 in
def p40x_137 : ck_Sum := ((0, 0, 0), 245, [.inr (.inr (.inl 226))], ([], [], [(227, 1, 1, ck_one 40)]), ([], []), [(.inr (some (.inl (ck_one 40))), 245, ([], [], []))])
set_option maxRecDepth 100000 in
theorem p40x_137_e : ck_ok p1_O none [] [] 260 [] 80 p40x_137 = true := by decide +kernel
theorem p40x_137_s {X : Int → Int} {LX : Nat} : ck_Ok p1_O X LX 260 p40x_137 := ck_ok_s (ck_E0) ck_X0 ck_l0 p40x_137_e
set_option maxRecDepth 100000 in
def p40x_138 : ck_Sum := ((0, 0, 0), 245, [.inl ((-2147483648), (-1), none), .inl (ck_one 0), .inl (ck_one 39)], ([], [], []), ([], []), [(.inr (some (.inl (ck_one 0))), 245, ([], [], []))])
set_option maxRecDepth 100000 in
theorem p40x_138_e : ck_ok p1_O none [] [] 287 [] 80 p40x_138 = true := by decide +kernel
theorem p40x_138_s {X : Int → Int} {LX : Nat} : ck_Ok p1_O X LX 287 p40x_138 := ck_ok_s (ck_E0) ck_X0 ck_l0 p40x_138_e
set_option maxRecDepth 100000 in
def p40x_139 : ck_Sum := ((1, 0, 0), 245, [.inr (.inr (.inl 226)), .inl ((-2147483648), (-1), none)], ([], [], [(227, 1, 1, ck_one 40)]), ([], []), [(.inr (some (.inl (ck_one 1))), 245, ([], [], []))])
set_option maxRecDepth 100000 in
theorem p40x_139_e : ck_ok p1_O none [] [(260, [p40x_137]), (287, [p40x_138])] 290 [] 92 p40x_139 = true := by decide +kernel
theorem p40x_139_s {X : Int → Int} {LX : Nat} : ck_Ok p1_O X LX 290 p40x_139 := ck_ok_s (ck_E1 (ck_S1 p40x_137_s ck_S0) (ck_E1 (ck_S1 p40x_138_s ck_S0) ck_E0)) ck_X0 ck_l0 p40x_139_e
set_option maxRecDepth 100000 in
def p40x_140 : ck_Sum := ((0, 0, 0), 245, [.inr (.inr (.inl 226)), .inl (ck_one 1), .inl (ck_one 1)], ([], [], []), ([(226, 0, 0)], []), [(.inr (some (.inl (ck_one 1))), 245, ([], [], [(226, 0, 0, ck_one 1)]))])
set_option maxRecDepth 100000 in
theorem p40x_140_e : ck_ok p1_O none [] [] 283 [] 84 p40x_140 = true := by decide +kernel
theorem p40x_140_s {X : Int → Int} {LX : Nat} : ck_Ok p1_O X LX 283 p40x_140 := ck_ok_s (ck_E0) ck_X0 ck_l0 p40x_140_e
set_option maxRecDepth 100000 in
def p40x_141 : ck_Sum := ((2, 0, 0), 245, [.inr (.inr (.inl 226)), .inl ((-2147483648), (-1), none), .inl ((-2147483648), (-1), none)], ([], [], [(227, 1, 1, ck_one 40)]), ([(226, 0, 0)], []), [(.inr (some (.inl (ck_one 0))), 245, ([], [], [(226, 0, 0, ck_one 1)]))])
set_option maxRecDepth 100000 in
theorem p40x_141_e : ck_ok p1_O none [] [(290, [p40x_139]), (283, [p40x_140])] 366 [] 94 p40x_141 = true := by decide +kernel
theorem p40x_141_s {X : Int → Int} {LX : Nat} : ck_Ok p1_O X LX 366 p40x_141 := ck_ok_s (ck_E1 (ck_S1 p40x_139_s ck_S0) (ck_E1 (ck_S1 p40x_140_s ck_S0) ck_E0)) ck_X0 ck_l0 p40x_141_e
set_option maxRecDepth 100000 in
def p40x_145 : ck_Sum := ((2, 0, 0), 245, [.inr (.inr (.inl 226)), .inl ((-2147483648), (-1), none), .inl (0, 299, none)], ([], [], [(227, 1, 1, ck_one 40)]), ([(226, 0, 0)], []), [(.inr (some (.inl (ck_one 0))), 245, ([], [], [(226, 0, 0, ck_one 1)]))])
set_option maxRecDepth 100000 in
theorem p40x_145_e : ck_ok p1_O none [] [(290, [p40x_139]), (283, [p40x_140])] 366 [] 94 p40x_145 = true := by decide +kernel
theorem p40x_145_s {X : Int → Int} {LX : Nat} : ck_Ok p1_O X LX 366 p40x_145 := ck_ok_s (ck_E1 (ck_S1 p40x_139_s ck_S0) (ck_E1 (ck_S1 p40x_140_s ck_S0) ck_E0)) ck_X0 ck_l0 p40x_145_e
set_option maxRecDepth 100000 in
def p40x_148 : ck_Sum := ((2, 0, 0), 245, [.inr (.inr (.inl 226)), .inl ((-2147483648), (-1), none), .inl (300, 2147483647, none)], ([], [], [(227, 1, 1, ck_one 40)]), ([(226, 0, 0)], []), [(.inr (some (.inl (ck_one 0))), 245, ([], [], [(226, 0, 0, ck_one 1)]))])
set_option maxRecDepth 100000 in
theorem p40x_148_e : ck_ok p1_O none [] [(290, [p40x_139]), (283, [p40x_140])] 366 [] 94 p40x_148 = true := by decide +kernel
theorem p40x_148_s {X : Int → Int} {LX : Nat} : ck_Ok p1_O X LX 366 p40x_148 := ck_ok_s (ck_E1 (ck_S1 p40x_139_s ck_S0) (ck_E1 (ck_S1 p40x_140_s ck_S0) ck_E0)) ck_X0 ck_l0 p40x_148_e
set_option maxRecDepth 100000 in
def p40x_154 : ck_Sum := ((0, 0, 0), 245, [.inl (0, 39, none), .inl (ck_one 0), .inl (ck_one 39)], ([], [], []), ([], []), [(.inr (some (.inl (ck_one 1))), 245, ([], [], []))])
set_option maxRecDepth 100000 in
theorem p40x_154_e : ck_ok p1_O none [] [] 287 [] 88 p40x_154 = true := by decide +kernel
theorem p40x_154_s {X : Int → Int} {LX : Nat} : ck_Ok p1_O X LX 287 p40x_154 := ck_ok_s (ck_E0) ck_X0 ck_l0 p40x_154_e
set_option maxRecDepth 100000 in
def p40x_155 : ck_Sum := ((1, 0, 0), 245, [.inr (.inr (.inl 226)), .inl (0, 39, none)], ([], [], [(227, 1, 1, ck_one 40)]), ([], []), [(.inr (some (.inl (ck_one 0))), 245, ([], [], []))])
set_option maxRecDepth 100000 in
theorem p40x_155_e : ck_ok p1_O none [] [(260, [p40x_137]), (287, [p40x_154])] 290 [] 90 p40x_155 = true := by decide +kernel
theorem p40x_155_s {X : Int → Int} {LX : Nat} : ck_Ok p1_O X LX 290 p40x_155 := ck_ok_s (ck_E1 (ck_S1 p40x_137_s ck_S0) (ck_E1 (ck_S1 p40x_154_s ck_S0) ck_E0)) ck_X0 ck_l0 p40x_155_e
set_option maxRecDepth 100000 in
def p40x_156 : ck_Sum := ((0, 0, 0), 245, [.inr (.inr (.inl 226)), .inl (ck_one 0), .inl (ck_one 1)], ([], [], []), ([], []), [(.inr (some (.inl (ck_one 0))), 245, ([], [], []))])
set_option maxRecDepth 100000 in
theorem p40x_156_e : ck_ok p1_O none [] [] 283 [] 78 p40x_156 = true := by decide +kernel
theorem p40x_156_s {X : Int → Int} {LX : Nat} : ck_Ok p1_O X LX 283 p40x_156 := ck_ok_s (ck_E0) ck_X0 ck_l0 p40x_156_e
set_option maxRecDepth 100000 in
def p40x_159 : ck_Sum := ((0, 0, 0), 245, [.inr (.inr (.inl 226)), .inl (ck_one 1), .inl (ck_one 2)], ([], [], []), ([(226, 0, 0)], []), [(.inr (some (.inl (ck_one 1))), 245, ([], [], [(226, 0, 0, ck_one 2)]))])
set_option maxRecDepth 100000 in
theorem p40x_159_e : ck_ok p1_O none [] [] 283 [] 84 p40x_159 = true := by decide +kernel
theorem p40x_159_s {X : Int → Int} {LX : Nat} : ck_Ok p1_O X LX 283 p40x_159 := ck_ok_s (ck_E0) ck_X0 ck_l0 p40x_159_e
set_option maxRecDepth 100000 in
def p40x_157 : ck_Sum := ((0, 0, 0), 245, [.inl ((-2147483648), (-1), none), .inl (ck_one 0), .inl (ck_one 299)], ([], [], []), ([], []), [(.inr (some (.inl (ck_one 0))), 245, ([], [], []))])
set_option maxRecDepth 100000 in
theorem p40x_157_e : ck_ok p1_O none [] [] 287 [] 80 p40x_157 = true := by decide +kernel
theorem p40x_157_s {X : Int → Int} {LX : Nat} : ck_Ok p1_O X LX 287 p40x_157 := ck_ok_s (ck_E0) ck_X0 ck_l0 p40x_157_e
set_option maxRecDepth 100000 in
def p40x_158 : ck_Sum := ((1, 0, 0), 245, [.inl ((-2147483648), (-1), none)], ([], [], []), ([], []), [(.inr (some (.inl (ck_one 1))), 245, ([], [], []))])
set_option maxRecDepth 100000 in
theorem p40x_158_e : ck_ok p1_O none [] [(287, [p40x_157])] 286 [] 86 p40x_158 = true := by decide +kernel
theorem p40x_158_s {X : Int → Int} {LX : Nat} : ck_Ok p1_O X LX 286 p40x_158 := ck_ok_s (ck_E1 (ck_S1 p40x_157_s ck_S0) ck_E0) ck_X0 ck_l0 p40x_158_e
set_option maxRecDepth 100000 in
def p40x_160 : ck_Sum := ((2, 0, 0), 245, [.inr (.inr (.inl 226)), .inl (0, 39, none), .inl ((-2147483648), (-1), none)], ([], [], [(227, 1, 1, ck_one 40)]), ([(226, 0, 0)], []), [(.inr (some (.inl (ck_one 0))), 245, ([], [], [(226, 0, 0, ck_one 2)]))])
set_option maxRecDepth 100000 in
theorem p40x_160_e : ck_ok p1_O none [] [(290, [p40x_155]), (283, [p40x_156, p40x_159]), (286, [p40x_158])] 366 [] 106 p40x_160 = true := by decide +kernel
theorem p40x_160_s {X : Int → Int} {LX : Nat} : ck_Ok p1_O X LX 366 p40x_160 := ck_ok_s (ck_E1 (ck_S1 p40x_155_s ck_S0) (ck_E1 (ck_S1 p40x_156_s (ck_S1 p40x_159_s ck_S0)) (ck_E1 (ck_S1 p40x_158_s ck_S0) ck_E0))) ck_X0 ck_l0 p40x_160_e
set_option maxRecDepth 100000 in
def p40x_576 : ck_Sum := ((0, 0, 0), 245, [.inr (.inr (.inl 226)), .inl (ck_one 0), .inl (ck_one 2)], ([], [], []), ([], []), [(.inr (some (.inl (ck_one 0))), 245, ([], [], []))])
set_option maxRecDepth 100000 in
theorem p40x_576_e : ck_ok p1_O none [] [] 283 [] 78 p40x_576 = true := by decide +kernel
theorem p40x_576_s {X : Int → Int} {LX : Nat} : ck_Ok p1_O X LX 283 p40x_576 := ck_ok_s (ck_E0) ck_X0 ck_l0 p40x_576_e
set_option maxRecDepth 100000 in
def p40x_574 : ck_Sum := ((0, 0, 0), 245, [.inl (0, 299, none), .inl (ck_one 0), .inl (ck_one 299)], ([], [], []), ([], []), [(.inr (some (.inl (ck_one 1))), 245, ([], [], []))])
set_option maxRecDepth 100000 in
theorem p40x_574_e : ck_ok p1_O none [] [] 287 [] 88 p40x_574 = true := by decide +kernel
theorem p40x_574_s {X : Int → Int} {LX : Nat} : ck_Ok p1_O X LX 287 p40x_574 := ck_ok_s (ck_E0) ck_X0 ck_l0 p40x_574_e
set_option maxRecDepth 100000 in
def p40x_575 : ck_Sum := ((1, 0, 0), 245, [.inl (0, 299, none)], ([], [], []), ([], []), [(.inr (some (.inl (ck_one 0))), 245, ([], [], []))])
set_option maxRecDepth 100000 in
theorem p40x_575_e : ck_ok p1_O none [] [(287, [p40x_574])] 286 [] 84 p40x_575 = true := by decide +kernel
theorem p40x_575_s {X : Int → Int} {LX : Nat} : ck_Ok p1_O X LX 286 p40x_575 := ck_ok_s (ck_E1 (ck_S1 p40x_574_s ck_S0) ck_E0) ck_X0 ck_l0 p40x_575_e
set_option maxRecDepth 100000 in
def p40x_577 : ck_Sum := ((0, 0, 0), 245, [.inr (.inr (.inl 226))], ([], [], [(227, 0, 0, ck_one 3)]), ([], []), [(.inr (some (.inl (ck_one 3))), 245, ([], [], []))])
set_option maxRecDepth 100000 in
theorem p40x_577_e : ck_ok p1_O none [] [] 262 [] 80 p40x_577 = true := by decide +kernel
theorem p40x_577_s {X : Int → Int} {LX : Nat} : ck_Ok p1_O X LX 262 p40x_577 := ck_ok_s (ck_E0) ck_X0 ck_l0 p40x_577_e
set_option maxRecDepth 100000 in
def p40x_578 : ck_Sum := ((0, 0, 0), 245, [.inr (.inr (.inl 226)), .inl (0, 2, none)], ([], [], [(226, 26, 26, ((-1), 2, none)), (235, 0, 11999, (0, 1, none))]), ([(226, 26, 26), (235, 0, 29699)], []), [(.inr none, 245, ([], [], [(226, 26, 26, (0, 2, none)), (235, 0, 11999, (0, 1, none))]))])
set_option maxRecDepth 100000 in
theorem p40x_578_e : ck_ok p1_O none [] [] 294 [(16, [some (.inr (.inr (.inl 226))), some (.inl (0, 2, none)), some (.inl (0, 29700, none))], ([], [], [(226, 26, 26, (0, 2, none)), (235, 0, 11999, (0, 1, none))]), 100, .inl 2, true)] 142 p40x_578 = true := by decide +kernel
theorem p40x_578_s {X : Int → Int} {LX : Nat} : ck_Ok p1_O X LX 294 p40x_578 := ck_ok_s (ck_E0) ck_X0 ck_l0 p40x_578_e
set_option maxRecDepth 100000 in
def p40x_579 : ck_Sum := ((0, 0, 0), 245, [.inr (.inr (.inl 226)), .inl (0, 2, none), .inl (0, 39, none)], ([], [], [(227, 2, 9, ck_one 0)]), ([], []), [(.inr (some (.inl (ck_one 0))), 245, ([], [], []))])
set_option maxRecDepth 100000 in
theorem p40x_579_e : ck_ok p1_O none [] [] 291 [(5, [some (.inr (.inr (.inl 226))), some (.inl (0, 2, none)), some (.inl (0, 39, none)), some (.inl (ck_one 0)), some (.inl (ck_one 0))], ([], [], [(227, 2, 9, ck_one 0)]), 100, .inl 3, true)] 122 p40x_579 = true := by decide +kernel
theorem p40x_579_s {X : Int → Int} {LX : Nat} : ck_Ok p1_O X LX 291 p40x_579 := ck_ok_s (ck_E0) ck_X0 ck_l0 p40x_579_e
set_option maxRecDepth 100000 in
def p40x_580 : ck_Sum := ((0, 0, 0), 245, [.inr (.inr (.inl 226)), .inl (ck_one 0)], ([], [], [(227, 2, 9, ck_one 0)]), ([], []), [(.inr (some (.inl (ck_one 0))), 245, ([], [], []))])
set_option maxRecDepth 100000 in
theorem p40x_580_e : ck_ok p1_O none [] [] 295 [(4, [some (.inr (.inr (.inl 226))), some (.inl (ck_one 0)), some (.inl (ck_one 0)), some (.inl (ck_one 0))], ([], [], [(227, 2, 9, ck_one 0)]), 100, .inl 2, true)] 122 p40x_580 = true := by decide +kernel
theorem p40x_580_s {X : Int → Int} {LX : Nat} : ck_Ok p1_O X LX 295 p40x_580 := ck_ok_s (ck_E0) ck_X0 ck_l0 p40x_580_e
set_option maxRecDepth 100000 in
def p40x_581 : ck_Sum := ((0, 0, 0), 245, [.inr (.inr (.inl 226)), .inl (ck_one 1)], ([], [], [(227, 2, 9, ck_one 0)]), ([], []), [(.inr (some (.inl (ck_one 0))), 245, ([], [], []))])
set_option maxRecDepth 100000 in
theorem p40x_581_e : ck_ok p1_O none [] [] 295 [(4, [some (.inr (.inr (.inl 226))), some (.inl (ck_one 1)), some (.inl (ck_one 0)), some (.inl (ck_one 0))], ([], [], [(227, 2, 9, ck_one 0)]), 100, .inl 2, true)] 122 p40x_581 = true := by decide +kernel
theorem p40x_581_s {X : Int → Int} {LX : Nat} : ck_Ok p1_O X LX 295 p40x_581 := ck_ok_s (ck_E0) ck_X0 ck_l0 p40x_581_e
set_option maxRecDepth 100000 in
def p40x_582 : ck_Sum := ((1, 0, 0), 245, [.inr (.inr (.inl 226)), .inl (0, 2, none), .inl (0, 39, none), .inl (0, 299, none)], ([], [], [(226, 26, 26, ((-1), 2, none)), (226, 19, 19, (0, 299, none)), (226, 18, 18, (0, 39, none)), (226, 17, 17, (0, 2, none)), (227, 2, 9, ck_one 0), (226, 20, 20, ck_one 0), (226, 21, 21, ck_one 0), (226, 22, 22, ck_one 0), (226, 23, 23, ck_one 0), (235, 0, 11999, (0, 1, none))]), ([(226, 17, 23), (226, 26, 26), (235, 0, 29699)], []), [(.inr (some (.inl (ck_one 0))), 245, ([], [], [(226, 23, 23, ck_one 0), (226, 22, 22, ck_one 0), (226, 21, 21, ck_one 0), (226, 20, 20, ck_one 0), (226, 19, 19, (0, 299, none)), (226, 18, 18, (0, 39, none)), (226, 17, 17, (0, 2, none)), (226, 26, 26, (0, 2, none)), (235, 0, 11999, (0, 1, none))]))])
def p40x_582_E : List (Nat × List ck_Sum) := [(294, [p40x_578]), (291, [p40x_579]), (295, [p40x_580, p40x_581])]
def p40x_582_L : ck_AL := [some (.inr (.inr (.inl 226))), some (.inl (0, 2, none)), some (.inl (0, 39, none)), some (.inl (0, 299, none)), some (.inl (0, 11999, none)), none]
set_option maxRecDepth 100000 in
def p40x_582_F : ck_F := ([], [], [(226, 26, 26, (0, 2, none)), (235, 0, 11999, (0, 1, none)), (226, 19, 19, (0, 299, none)), (226, 18, 18, (0, 39, none)), (226, 17, 17, (0, 2, none)), (227, 2, 9, ck_one 0), (226, 20, 20, ck_one 0), (226, 21, 21, ck_one 0), (226, 22, 22, ck_one 0), (226, 23, 23, ck_one 0)])
def p40x_582_C : ck_C := (p40x_582_L, p40x_582_F, 0, .inl 4, true)
set_option maxRecDepth 100000 in
theorem p40x_582_a : (decide (p40x_582.2.2.1.length ≤ gm_ml 293) && ck_go p1_O none [] p40x_582_E 293 p40x_582.1.1 p40x_582.2.1 p40x_582.2.2.2.2.1 p40x_582.2.2.2.2.2 [(14, p40x_582_C)] 400 false [(14, p40x_582_C, 0, 0, 245)] p40x_582.1.2.1 p40x_582.1.2.2 0 (p40x_582.2.2.1.map some ++ List.replicate (gm_ml 293 - p40x_582.2.2.1.length) none) [] p40x_582.2.1 p40x_582.2.2.2.1) = true := by decide +kernel
set_option maxRecDepth 100000 in
theorem p40x_582_b : ck_go p1_O none [] p40x_582_E 293 p40x_582.1.1 p40x_582.2.1 p40x_582.2.2.2.2.1 p40x_582.2.2.2.2.2 [] 400 true [] 0 0 34 p40x_582_L [] 245 p40x_582_F = true := by decide +kernel
set_option maxRecDepth 100000 in
theorem p40x_582_f : ck_fi p40x_582_F 235 0 11999 = some (0, 1, none) := by decide +kernel
set_option maxRecDepth 100000 in
theorem p40x_582_g : ck_leF p1_O p40x_582_F (([], [], [(226, 23, 23, ck_one 0), (226, 22, 22, ck_one 0), (226, 21, 21, ck_one 0), (226, 20, 20, ck_one 0), (226, 19, 19, (0, 299, none)), (226, 18, 18, (0, 39, none)), (226, 17, 17, (0, 2, none)), (226, 26, 26, (0, 2, none)), (235, 0, 11999, (0, 1, none))])) = true := by decide +kernel
theorem p40x_582_h {X : Int → Int} {LX : Nat} : ck_OkE p1_O X LX p40x_582_E := ck_E1 (ck_S1 p40x_578_s ck_S0) (ck_E1 (ck_S1 p40x_579_s ck_S0) (ck_E1 (ck_S1 p40x_580_s (ck_S1 p40x_581_s ck_S0)) ck_E0))
theorem p40x_582_s {X : Int → Int} {LX : Nat} : ck_Ok p1_O X LX 293 p40x_582 := by
  refine ck_ok_st (cuts := [(14, p40x_582_C)]) p40x_582_h p40x_582_a (fun h hm => ?_)
  rw [List.mem_singleton.mp hm]
  refine ⟨rfl, fun σ K0 R0 M0 v _ bc bs L K R M hb1 hb2 hS _ => ?_⟩
  obtain ⟨hF, hl, hs, hf, hfr⟩ := hS
  obtain ⟨u0, e0, g0⟩ := hl.2 0 (.inr (.inr (.inl 226))) rfl
  cases g0
  obtain ⟨u4, e4, t, rfl, ht1, ht2, ht3, -⟩ := hl.2 4 (.inl (0, 11999, none)) rfl
  have ht2 : (0 : Int) ≤ t := ht2
  have ht3 : t ≤ (11999 : Int) := ht3
  obtain ⟨-, hM1, hM2, -⟩ := (ck_fi_s hf p40x_582_f).2 t (by omega) (by omega)
  have hM1 : (0 : Int) ≤ M 235 t := hM1
  have hM2 : M 235 t ≤ (1 : Int) := hM2
  refine ck_flow (O := p1_O) hF (k := 226) (fl := 235) (by decide +kernel) (by decide +kernel) (by decide +kernel) e0 e4 ⟨by omega, by omega⟩ ⟨by omega, by omega⟩ (fun hp => ?_) ?_
  · have e : M 235 t - 1 = 0 := by omega
    rw [e]
    exact ⟨hF, hfr, _, List.mem_cons_self, ⟨0, rfl, ⟨by decide, by decide⟩, by decide, by decide, fun _ h => nomatch h⟩, rfl, ck_leF_s hF hf p40x_582_g⟩
  · exact gm_Wp_wk (Nat.le_refl _) hb1 hb2 (ck_go_s (σ0 := σ) (cuts := []) p40x_582_h ck_X0 ck_l0 400 true [] _ _ 34 _ [] _ _ σ L [] K R M (fun _ _ => rfl) (fun _ h => nomatch h) ⟨hF, hl, rfl, hf, hfr⟩ p40x_582_b)
set_option maxRecDepth 100000 in
def p40x_693 : ck_Sum := ((0, 0, 0), 245, [.inr (.inr (.inl 226)), .inl (10, 39, none), .inl (0, 298, none), .inl (ck_one (-1))], ([], [], [(227, 2, 9, ck_one 0)]), ([], []), [(.inr (some (.inl (10, 39, none))), 245, ([], [], []))])
set_option maxRecDepth 100000 in
theorem p40x_693_e : ck_ok p1_O none [] [] 308 [(6, [some (.inr (.inr (.inl 226))), some (.inl (10, 39, none)), some (.inl (0, 298, none)), some (.inl (ck_one (-1))), some (.inl (10, 39, none)), some (.inl (ck_one 0)), none], ([], [], [(227, 2, 9, ck_one 0)]), 100, .inl 4, true)] 122 p40x_693 = true := by decide +kernel
theorem p40x_693_s {X : Int → Int} {LX : Nat} : ck_Ok p1_O X LX 308 p40x_693 := ck_ok_s (ck_E0) ck_X0 ck_l0 p40x_693_e
set_option maxRecDepth 100000 in
def p40x_694 : ck_Sum := ((0, 0, 0), 245, [.inr (.inr (.inl 226)), .inl (0, 9, none), .inl (0, 298, none), .inl (ck_one (-1))], ([], [], [(227, 2, 9, ck_one 0)]), ([], []), [(.inr (some (.inl (0, 9, none))), 245, ([], [], []))])
set_option maxRecDepth 100000 in
theorem p40x_694_e : ck_ok p1_O none [] [] 308 [(6, [some (.inr (.inr (.inl 226))), some (.inl (0, 9, none)), some (.inl (0, 298, none)), some (.inl (ck_one (-1))), some (.inl (0, 9, none)), some (.inl (ck_one 0)), none], ([], [], [(227, 2, 9, ck_one 0)]), 100, .inl 4, true)] 122 p40x_694 = true := by decide +kernel
theorem p40x_694_s {X : Int → Int} {LX : Nat} : ck_Ok p1_O X LX 308 p40x_694 := ck_ok_s (ck_E0) ck_X0 ck_l0 p40x_694_e
set_option maxRecDepth 100000 in
def p40x_699 : ck_Sum := ((2, 0, 0), 245, [.inr (.inr (.inl 226)), .inl (0, 2, none), .inl (0, 39, none), .inl (0, 299, none), .inl (ck_one 0), .inl (ck_one (-1))], ([], [], [(226, 26, 26, ((-1), 2, none)), (227, 11, 11, ck_one 2), (227, 10, 10, ck_one 10), (227, 1, 1, ck_one 40), (227, 2, 9, ck_one 0), (237, 0, 299, ((-1), 99, none)), (236, 0, 299, ((-1), 39, none)), (226, 17, 17, (0, 2, none)), (226, 18, 18, (0, 39, none)), (226, 19, 19, (0, 299, none)), (226, 20, 20, ck_one 0), (226, 21, 21, ck_one 0), (226, 22, 22, ck_one 0), (226, 23, 23, ck_one 0), (226, 29, 29, ((-1), 0, none)), (226, 30, 30, ck_one 0), (235, 0, 11999, (0, 1, none)), (234, 0, 299, (0, 9, none))]), ([(226, 17, 23), (226, 26, 26), (226, 29, 30), (235, 0, 29699), (236, 0, 299), (237, 0, 299)], []), [(.inr none, 245, ([], [], [(226, 30, 30, ck_one 0), (226, 29, 29, ck_one (-1)), (226, 26, 26, ((-1), 2, none)), (226, 17, 17, (0, 2, none)), (226, 18, 18, (0, 39, none)), (226, 19, 19, (0, 299, none)), (226, 20, 20, ck_one 0), (226, 21, 21, ck_one 0), (226, 22, 22, ck_one 0), (226, 23, 23, ck_one 0), (237, 0, 299, ((-1), 99, none)), (236, 0, 299, ((-1), 39, none)), (235, 0, 11999, (0, 1, none))]))])
set_option maxRecDepth 100000 in
theorem p40x_699_e : ck_ok p1_O none [] [(260, [p40x_137]), (293, [p40x_582]), (308, [p40x_693, p40x_694])] 307 [(3, [some (.inr (.inr (.inl 226))), some (.inl (0, 2, none)), some (.inl (0, 39, none)), some (.inl (0, 299, none)), some (.inl (ck_one 0)), some (.inl (ck_one (-1))), some (.inl (0, 299, none)), none, none], ([], [], [(226, 26, 26, ((-1), 2, none)), (227, 11, 11, ck_one 2), (227, 10, 10, ck_one 10), (227, 1, 1, ck_one 40), (227, 2, 9, ck_one 0), (237, 0, 299, ((-1), 99, none)), (236, 0, 299, ((-1), 39, none)), (226, 17, 17, (0, 2, none)), (226, 18, 18, (0, 39, none)), (226, 19, 19, (0, 299, none)), (226, 20, 20, ck_one 0), (226, 21, 21, ck_one 0), (226, 22, 22, ck_one 0), (226, 23, 23, ck_one 0), (226, 29, 29, ((-1), 0, none)), (226, 30, 30, ck_one 0), (235, 0, 11999, (0, 1, none)), (234, 0, 299, (0, 9, none))]), 100, .inl 6, true), (50, [some (.inr (.inr (.inl 226))), some (.inl (0, 2, none)), some (.inl (0, 39, none)), some (.inl (0, 299, none)), some (.inl (ck_one 0)), some (.inl (ck_one (-1))), some (.inl (0, 39, none)), some (.inl (0, 99, none)), some (.inl (0, 300, none))], ([], [], [(226, 30, 30, ck_one 0), (226, 29, 29, ck_one (-1)), (226, 26, 26, ((-1), 2, none)), (227, 11, 11, ck_one 2), (227, 10, 10, ck_one 10), (227, 1, 1, ck_one 40), (227, 2, 9, ck_one 0), (237, 0, 299, ((-1), 99, none)), (236, 0, 299, ((-1), 39, none)), (226, 17, 17, (0, 2, none)), (226, 18, 18, (0, 39, none)), (226, 19, 19, (0, 299, none)), (226, 20, 20, ck_one 0), (226, 21, 21, ck_one 0), (226, 22, 22, ck_one 0), (226, 23, 23, ck_one 0), (235, 0, 11999, (0, 1, none)), (234, 0, 299, (0, 9, none))]), 300, .inl 8, true)] 506 p40x_699 = true := by decide +kernel
theorem p40x_699_s {X : Int → Int} {LX : Nat} : ck_Ok p1_O X LX 307 p40x_699 := ck_ok_s (ck_E1 (ck_S1 p40x_137_s ck_S0) (ck_E1 (ck_S1 p40x_582_s ck_S0) (ck_E1 (ck_S1 p40x_693_s (ck_S1 p40x_694_s ck_S0)) ck_E0))) ck_X0 ck_l0 p40x_699_e
set_option maxRecDepth 100000 in
def p40x_700 : ck_Sum := ((3, 0, 0), 245, [.inr (.inr (.inl 226)), .inl (0, 2, none), .inl (0, 39, none), .inl (0, 299, none)], ([], [], [(226, 26, 26, ((-1), 2, none)), (227, 11, 11, ck_one 2), (227, 10, 10, ck_one 10), (227, 1, 1, ck_one 40), (227, 2, 9, ck_one 0), (237, 0, 299, ((-1), 99, none)), (236, 0, 299, ((-1), 39, none)), (226, 17, 17, (0, 2, none)), (226, 18, 18, (0, 39, none)), (226, 19, 19, (0, 299, none)), (226, 20, 20, ck_one 0), (226, 21, 21, ck_one 0), (226, 22, 22, ck_one 0), (226, 23, 23, ck_one 0), (226, 29, 29, ((-1), 0, none)), (226, 30, 30, ck_one 0), (235, 0, 11999, (0, 1, none)), (234, 0, 299, (0, 9, none))]), ([(226, 17, 23), (226, 26, 26), (226, 29, 30), (235, 0, 29699), (236, 0, 299), (237, 0, 299)], []), [(.inr (some (.inl (ck_one (-1)))), 245, ([], [], [(226, 30, 30, ck_one 0), (226, 29, 29, ck_one (-1)), (226, 26, 26, ((-1), 2, none)), (226, 17, 17, (0, 2, none)), (226, 18, 18, (0, 39, none)), (226, 19, 19, (0, 299, none)), (226, 20, 20, ck_one 0), (226, 21, 21, ck_one 0), (226, 22, 22, ck_one 0), (226, 23, 23, ck_one 0), (237, 0, 299, ((-1), 99, none)), (236, 0, 299, ((-1), 39, none)), (235, 0, 11999, (0, 1, none))]))])
set_option maxRecDepth 100000 in
theorem p40x_700_e : ck_ok p1_O none [] [(307, [p40x_699])] 326 [] 90 p40x_700 = true := by decide +kernel
theorem p40x_700_s {X : Int → Int} {LX : Nat} : ck_Ok p1_O X LX 326 p40x_700 := ck_ok_s (ck_E1 (ck_S1 p40x_699_s ck_S0) ck_E0) ck_X0 ck_l0 p40x_700_e
set_option maxRecDepth 100000 in
def p40x_703 : ck_Sum := ((4, 0, 0), 245, [.inr (.inr (.inl 226)), .inl (0, 39, none), .inl (0, 299, none)], ([], [], [(226, 26, 26, ck_one (-1)), (227, 11, 11, ck_one 2), (227, 10, 10, ck_one 10), (227, 1, 1, ck_one 40), (227, 0, 0, ck_one 3), (227, 2, 9, ck_one 0), (237, 0, 299, ck_one 0), (236, 0, 299, ck_one 0), (226, 0, 0, ck_one 0), (226, 17, 17, ck_one 0), (226, 18, 18, ck_one 0), (226, 19, 19, ck_one 0), (226, 20, 20, ck_one 0), (226, 21, 21, ck_one 0), (226, 22, 22, ck_one 0), (226, 23, 23, ck_one 0), (226, 29, 29, ck_one 0), (226, 30, 30, ck_one 0), (235, 0, 11999, ck_one 0), (234, 0, 299, (0, 9, none))]), ([(226, 0, 0), (226, 17, 23), (226, 26, 26), (226, 29, 30), (235, 0, 29699), (236, 0, 299), (237, 0, 299)], []), [(.inr (some (.inl (ck_one (-1)))), 245, ([], [], [(226, 0, 0, ck_one 0), (226, 26, 26, ((-1), 2, none)), (226, 17, 17, (0, 2, none)), (226, 18, 18, (0, 39, none)), (226, 19, 19, (0, 299, none)), (226, 20, 20, ck_one 0), (226, 21, 21, ck_one 0), (226, 22, 22, ck_one 0), (226, 23, 23, ck_one 0), (226, 29, 29, ((-1), 0, none)), (226, 30, 30, ck_one 0), (237, 0, 299, ((-1), 99, none)), (236, 0, 299, ((-1), 39, none)), (235, 0, 11999, (0, 1, none))]))])
set_option maxRecDepth 100000 in
theorem p40x_703_e : ck_ok p1_O none [] [(290, [p40x_155]), (283, [p40x_156, p40x_576]), (286, [p40x_575]), (262, [p40x_577]), (326, [p40x_700])] 366 [(42, [some (.inr (.inr (.inl 226))), some (.inl (0, 39, none)), some (.inl (0, 299, none)), some (.inl (ck_one (-1))), some (.inl (ck_one 1000)), some (.inl (0, 3, none)), none], ([], [], [(226, 0, 0, ck_one 0), (226, 26, 26, ((-1), 2, none)), (227, 11, 11, ck_one 2), (227, 10, 10, ck_one 10), (227, 1, 1, ck_one 40), (227, 0, 0, ck_one 3), (227, 2, 9, ck_one 0), (237, 0, 299, ((-1), 99, none)), (236, 0, 299, ((-1), 39, none)), (226, 17, 17, (0, 2, none)), (226, 18, 18, (0, 39, none)), (226, 19, 19, (0, 299, none)), (226, 20, 20, ck_one 0), (226, 21, 21, ck_one 0), (226, 22, 22, ck_one 0), (226, 23, 23, ck_one 0), (226, 29, 29, ((-1), 0, none)), (226, 30, 30, ck_one 0), (235, 0, 11999, (0, 1, none)), (234, 0, 299, (0, 9, none))]), 100, .inl 5, true)] 182 p40x_703 = true := by decide +kernel
theorem p40x_703_s {X : Int → Int} {LX : Nat} : ck_Ok p1_O X LX 366 p40x_703 := ck_ok_s (ck_E1 (ck_S1 p40x_155_s ck_S0) (ck_E1 (ck_S1 p40x_156_s (ck_S1 p40x_576_s ck_S0)) (ck_E1 (ck_S1 p40x_575_s ck_S0) (ck_E1 (ck_S1 p40x_577_s ck_S0) (ck_E1 (ck_S1 p40x_700_s ck_S0) ck_E0))))) ck_X0 ck_l0 p40x_703_e
set_option maxRecDepth 100000 in
def p40x_708 : ck_Sum := ((0, 0, 0), 245, [.inl (300, 2147483647, none), .inl (ck_one 0), .inl (ck_one 299)], ([], [], []), ([], []), [(.inr (some (.inl (ck_one 0))), 245, ([], [], []))])
set_option maxRecDepth 100000 in
theorem p40x_708_e : ck_ok p1_O none [] [] 287 [] 86 p40x_708 = true := by decide +kernel
theorem p40x_708_s {X : Int → Int} {LX : Nat} : ck_Ok p1_O X LX 287 p40x_708 := ck_ok_s (ck_E0) ck_X0 ck_l0 p40x_708_e
set_option maxRecDepth 100000 in
def p40x_709 : ck_Sum := ((1, 0, 0), 245, [.inl (300, 2147483647, none)], ([], [], []), ([], []), [(.inr (some (.inl (ck_one 1))), 245, ([], [], []))])
set_option maxRecDepth 100000 in
theorem p40x_709_e : ck_ok p1_O none [] [(287, [p40x_708])] 286 [] 86 p40x_709 = true := by decide +kernel
theorem p40x_709_s {X : Int → Int} {LX : Nat} : ck_Ok p1_O X LX 286 p40x_709 := ck_ok_s (ck_E1 (ck_S1 p40x_708_s ck_S0) ck_E0) ck_X0 ck_l0 p40x_709_e
set_option maxRecDepth 100000 in
def p40x_710 : ck_Sum := ((2, 0, 0), 245, [.inr (.inr (.inl 226)), .inl (0, 39, none), .inl (300, 2147483647, none)], ([], [], [(227, 1, 1, ck_one 40)]), ([(226, 0, 0)], []), [(.inr (some (.inl (ck_one 0))), 245, ([], [], [(226, 0, 0, ck_one 2)]))])
set_option maxRecDepth 100000 in
theorem p40x_710_e : ck_ok p1_O none [] [(290, [p40x_155]), (283, [p40x_156, p40x_159]), (286, [p40x_709])] 366 [] 106 p40x_710 = true := by decide +kernel
theorem p40x_710_s {X : Int → Int} {LX : Nat} : ck_Ok p1_O X LX 366 p40x_710 := ck_ok_s (ck_E1 (ck_S1 p40x_155_s ck_S0) (ck_E1 (ck_S1 p40x_156_s (ck_S1 p40x_159_s ck_S0)) (ck_E1 (ck_S1 p40x_709_s ck_S0) ck_E0))) ck_X0 ck_l0 p40x_710_e
set_option maxRecDepth 100000 in
def p40x_715 : ck_Sum := ((0, 0, 0), 245, [.inl (40, 2147483647, none), .inl (ck_one 0), .inl (ck_one 39)], ([], [], []), ([], []), [(.inr (some (.inl (ck_one 0))), 245, ([], [], []))])
set_option maxRecDepth 100000 in
theorem p40x_715_e : ck_ok p1_O none [] [] 287 [] 86 p40x_715 = true := by decide +kernel
theorem p40x_715_s {X : Int → Int} {LX : Nat} : ck_Ok p1_O X LX 287 p40x_715 := ck_ok_s (ck_E0) ck_X0 ck_l0 p40x_715_e
set_option maxRecDepth 100000 in
def p40x_716 : ck_Sum := ((1, 0, 0), 245, [.inr (.inr (.inl 226)), .inl (40, 2147483647, none)], ([], [], [(227, 1, 1, ck_one 40)]), ([], []), [(.inr (some (.inl (ck_one 1))), 245, ([], [], []))])
set_option maxRecDepth 100000 in
theorem p40x_716_e : ck_ok p1_O none [] [(260, [p40x_137]), (287, [p40x_715])] 290 [] 92 p40x_716 = true := by decide +kernel
theorem p40x_716_s {X : Int → Int} {LX : Nat} : ck_Ok p1_O X LX 290 p40x_716 := ck_ok_s (ck_E1 (ck_S1 p40x_137_s ck_S0) (ck_E1 (ck_S1 p40x_715_s ck_S0) ck_E0)) ck_X0 ck_l0 p40x_716_e
set_option maxRecDepth 100000 in
def p40x_717 : ck_Sum := ((2, 0, 0), 245, [.inr (.inr (.inl 226)), .inl (40, 2147483647, none), .inl ((-2147483648), (-1), none)], ([], [], [(227, 1, 1, ck_one 40)]), ([(226, 0, 0)], []), [(.inr (some (.inl (ck_one 0))), 245, ([], [], [(226, 0, 0, ck_one 1)]))])
set_option maxRecDepth 100000 in
theorem p40x_717_e : ck_ok p1_O none [] [(290, [p40x_716]), (283, [p40x_140])] 366 [] 94 p40x_717 = true := by decide +kernel
theorem p40x_717_s {X : Int → Int} {LX : Nat} : ck_Ok p1_O X LX 366 p40x_717 := ck_ok_s (ck_E1 (ck_S1 p40x_716_s ck_S0) (ck_E1 (ck_S1 p40x_140_s ck_S0) ck_E0)) ck_X0 ck_l0 p40x_717_e
set_option maxRecDepth 100000 in
def p40x_720 : ck_Sum := ((2, 0, 0), 245, [.inr (.inr (.inl 226)), .inl (40, 2147483647, none), .inl (0, 299, none)], ([], [], [(227, 1, 1, ck_one 40)]), ([(226, 0, 0)], []), [(.inr (some (.inl (ck_one 0))), 245, ([], [], [(226, 0, 0, ck_one 1)]))])
set_option maxRecDepth 100000 in
theorem p40x_720_e : ck_ok p1_O none [] [(290, [p40x_716]), (283, [p40x_140])] 366 [] 94 p40x_720 = true := by decide +kernel
theorem p40x_720_s {X : Int → Int} {LX : Nat} : ck_Ok p1_O X LX 366 p40x_720 := ck_ok_s (ck_E1 (ck_S1 p40x_716_s ck_S0) (ck_E1 (ck_S1 p40x_140_s ck_S0) ck_E0)) ck_X0 ck_l0 p40x_720_e
set_option maxRecDepth 100000 in
def p40x_723 : ck_Sum := ((2, 0, 0), 245, [.inr (.inr (.inl 226)), .inl (40, 2147483647, none), .inl (300, 2147483647, none)], ([], [], [(227, 1, 1, ck_one 40)]), ([(226, 0, 0)], []), [(.inr (some (.inl (ck_one 0))), 245, ([], [], [(226, 0, 0, ck_one 1)]))])
set_option maxRecDepth 100000 in
theorem p40x_723_e : ck_ok p1_O none [] [(290, [p40x_716]), (283, [p40x_140])] 366 [] 94 p40x_723 = true := by decide +kernel
theorem p40x_723_s {X : Int → Int} {LX : Nat} : ck_Ok p1_O X LX 366 p40x_723 := ck_ok_s (ck_E1 (ck_S1 p40x_716_s ck_S0) (ck_E1 (ck_S1 p40x_140_s ck_S0) ck_E0)) ck_X0 ck_l0 p40x_723_e
set_option maxRecDepth 100000 in
def p40x_142 : ck_Sum := ((0, 0, 0), 245, [.inr (.inr (.inl 226))], ([], [], [(226, 0, 0, ck_one 1)]), ([], []), [(.inr (some (.inl (ck_one 1))), 245, ([], [], []))])
set_option maxRecDepth 100000 in
theorem p40x_142_e : ck_ok p1_O none [] [] 234 [] 76 p40x_142 = true := by decide +kernel
theorem p40x_142_s {X : Int → Int} {LX : Nat} : ck_Ok p1_O X LX 234 p40x_142 := ck_ok_s (ck_E0) ck_X0 ck_l0 p40x_142_e
set_option maxRecDepth 100000 in
def p40x_161 : ck_Sum := ((0, 0, 0), 245, [.inr (.inr (.inl 226))], ([], [], [(226, 0, 0, ck_one 2)]), ([], []), [(.inr (some (.inl (ck_one 2))), 245, ([], [], []))])
set_option maxRecDepth 100000 in
theorem p40x_161_e : ck_ok p1_O none [] [] 234 [] 76 p40x_161 = true := by decide +kernel
theorem p40x_161_s {X : Int → Int} {LX : Nat} : ck_Ok p1_O X LX 234 p40x_161 := ck_ok_s (ck_E0) ck_X0 ck_l0 p40x_161_e
set_option maxRecDepth 100000 in
def p40x_704 : ck_Sum := ((0, 0, 0), 245, [.inr (.inr (.inl 226))], ([], [], [(226, 0, 0, ck_one 0)]), ([], []), [(.inr (some (.inl (ck_one 0))), 245, ([], [], []))])
set_option maxRecDepth 100000 in
theorem p40x_704_e : ck_ok p1_O none [] [] 234 [] 76 p40x_704 = true := by decide +kernel
theorem p40x_704_s {X : Int → Int} {LX : Nat} : ck_Ok p1_O X LX 234 p40x_704 := ck_ok_s (ck_E0) ck_X0 ck_l0 p40x_704_e
set_option maxRecDepth 100000 in
def p40_F : ck_F := ([], [(3, 8, 0), (16, 8, 0), (29, 8, 0), (44, 8, 0), (57, 8, 0), (70, 8, 0), (83, 8, 0), (96, 8, 0), (109, 8, 0), (122, 8, 0), (135, 8, 0), (148, 8, 0), (161, 8, 0), (174, 8, 0), (187, 8, 0)], [(245, 0, 0, ck_one 0), (226, 26, 26, ck_one (-1)), (227, 11, 11, ck_one 2), (227, 10, 10, ck_one 10), (227, 1, 1, ck_one 40), (227, 0, 0, ck_one 3), (227, 2, 9, ck_one 0), (237, 0, 299, ck_one 0), (236, 0, 299, ck_one 0), (226, 0, 0, ck_one 0), (226, 17, 17, ck_one 0), (226, 18, 18, ck_one 0), (226, 19, 19, ck_one 0), (226, 20, 20, ck_one 0), (226, 21, 21, ck_one 0), (226, 22, 22, ck_one 0), (226, 23, 23, ck_one 0), (226, 29, 29, ck_one 0), (226, 30, 30, ck_one 0), (206, 8, 8, ck_one 0), (206, 7, 7, ck_one 0), (206, 6, 6, ck_one 0), (206, 5, 5, ck_one 0), (206, 4, 4, ck_one (-1)), (206, 3, 3, ck_one 0), (206, 2, 2, ck_one 0), (3, 3, 3, ck_one 2), (3, 2, 2, ck_one 10), (3, 1, 1, ck_one 40), (3, 0, 0, ck_one 3), (203, 0, 299, ck_one 0), (202, 0, 593, ck_one 0), (235, 0, 11999, ck_one 0), (234, 0, 299, (0, 9, none)), (201, 0, 299, (0, 9, none))])
def p40_E : List (Nat × List ck_Sum) := [(228, [p40x_136, p40x_144, p40x_147, p40x_153, p40x_573, p40x_707, p40x_714, p40x_719, p40x_722]), (366, [p40x_141, p40x_145, p40x_148, p40x_160, p40x_703, p40x_710, p40x_717, p40x_720, p40x_723]), (234, [p40x_142, p40x_161, p40x_704])]
theorem p40_h {X : Int → Int} {LX : Nat} : ck_OkE p1_O X LX p40_E := ck_E1 (ck_S1 p40x_136_s (ck_S1 p40x_144_s (ck_S1 p40x_147_s (ck_S1 p40x_153_s (ck_S1 p40x_573_s (ck_S1 p40x_707_s (ck_S1 p40x_714_s (ck_S1 p40x_719_s (ck_S1 p40x_722_s ck_S0))))))))) (ck_E1 (ck_S1 p40x_141_s (ck_S1 p40x_145_s (ck_S1 p40x_148_s (ck_S1 p40x_160_s (ck_S1 p40x_703_s (ck_S1 p40x_710_s (ck_S1 p40x_717_s (ck_S1 p40x_720_s (ck_S1 p40x_723_s ck_S0))))))))) (ck_E1 (ck_S1 p40x_142_s (ck_S1 p40x_161_s (ck_S1 p40x_704_s ck_S0))) ck_E0))
set_option maxRecDepth 100000 in
theorem p40_b : (ck_prod [(1, [((-2147483648), (-1)), (0, 39), (40, 2147483647)]), (2, [((-2147483648), (-1)), (0, 299), (300, 2147483647)])]).all (fun xf => ck_go p1_O (some 6) xf p40_E 370 280 245 p1_W p1_outs [] 152 false [] 1000 2000 2726 p1_L [] 245 p40_F) = true := by decide +kernel
theorem p40_s {X : Int → Int} {LX : Nat} (hLX : 6 = LX) (hX : ∀ j, gm_ir (X j)) {σ : Nat → Int} {L : gm_L} {K0 K : gm_K} {R0 R : gm_R} {M0 M : gm_M} (hS : ck_St p1_O σ p1_W 245 K0 R0 M0 p1_L [] p40_F L [] 245 K R M) : gm_Wp X LX 280 1000 2000 370 2726 L [] 245 K R M (ck_Q p1_O σ p1_W 245 K0 R0 M0 p1_outs) := ck_boxes p40_h hLX hX (by decide +kernel) p40_b hS
