/-! hut, on a new object: laid by wip/am/p1g.py. -/
set_option maxRecDepth 100000 in
def p18x_133 : ck_Sum := ((6, 1, 6), 245, [.inr (.inr (.inl 1)), .inl ((-2147483648), (-1), none), .inl (ck_one 3)], ([], [], []), ([], []), [(.inl 3, 245, ([], [], []))])
set_option maxRecDepth 100000 in
theorem p18x_133_e : ck_ok p1_O none [] [] 133 [] 76 p18x_133 = true := by decide +kernel
theorem p18x_133_s {X : Int → Int} {LX : Nat} : ck_Ok p1_O X LX 133 p18x_133 := ck_ok_s (ck_E0) ck_X0 ck_l0 p18x_133_e
set_option maxRecDepth 100000 in
def p18x_134 : ck_Sum := ((7, 1, 6), 245, [.inr (.inr (.inl 1)), .inl ((-2147483648), (-1), none)], ([], [], [(3, 0, 0, ck_one 3)]), ([], []), [(.inl 3, 245, ([], [], []))])
set_option maxRecDepth 100000 in
theorem p18x_134_e : ck_ok p1_O none [] [(133, [p18x_133])] 132 [] 82 p18x_134 = true := by decide +kernel
theorem p18x_134_s {X : Int → Int} {LX : Nat} : ck_Ok p1_O X LX 132 p18x_134 := ck_ok_s (ck_E1 (ck_S1 p18x_133_s ck_S0) ck_E0) ck_X0 ck_l0 p18x_134_e
set_option maxRecDepth 100000 in
def p18x_135 : ck_Sum := ((8, 1, 6), 245, [.inr (.inr (.inl 1)), .inl ((-2147483648), (-1), none), .inl ((-2147483648), 0, none)], ([], [], [(3, 0, 0, ck_one 3)]), ([], []), [(.inl 3, 245, ([], [], []))])
set_option maxRecDepth 100000 in
theorem p18x_135_e : ck_ok p1_O none [] [(132, [p18x_134])] 172 [] 76 p18x_135 = true := by decide +kernel
theorem p18x_135_s {X : Int → Int} {LX : Nat} : ck_Ok p1_O X LX 172 p18x_135 := ck_ok_s (ck_E1 (ck_S1 p18x_134_s ck_S0) ck_E0) ck_X0 ck_l0 p18x_135_e
set_option maxRecDepth 100000 in
def p18x_136 : ck_Sum := ((9, 1, 6), 245, [.inr (.inr (.inl 1)), .inl ((-2147483648), (-1), none), .inl ((-2147483648), 0, none), .inr (.inr (.inl 245))], ([], [], [(3, 0, 0, ck_one 3)]), ([], []), [(.inr (some (.inl (ck_one 1))), 245, ([], [], []))])
set_option maxRecDepth 100000 in
theorem p18x_136_e : ck_ok p1_O none [] [(172, [p18x_135])] 171 [] 88 p18x_136 = true := by decide +kernel
theorem p18x_136_s {X : Int → Int} {LX : Nat} : ck_Ok p1_O X LX 171 p18x_136 := ck_ok_s (ck_E1 (ck_S1 p18x_135_s ck_S0) ck_E0) ck_X0 ck_l0 p18x_136_e
set_option maxRecDepth 100000 in
def p18x_143 : ck_Sum := ((8, 1, 6), 245, [.inr (.inr (.inl 1)), .inl ((-2147483648), (-1), none), .inl (1, 299, none)], ([], [], [(3, 0, 0, ck_one 3)]), ([], []), [(.inl 3, 245, ([], [], []))])
set_option maxRecDepth 100000 in
theorem p18x_143_e : ck_ok p1_O none [] [(132, [p18x_134])] 172 [] 76 p18x_143 = true := by decide +kernel
theorem p18x_143_s {X : Int → Int} {LX : Nat} : ck_Ok p1_O X LX 172 p18x_143 := ck_ok_s (ck_E1 (ck_S1 p18x_134_s ck_S0) ck_E0) ck_X0 ck_l0 p18x_143_e
set_option maxRecDepth 100000 in
def p18x_144 : ck_Sum := ((9, 1, 6), 245, [.inr (.inr (.inl 1)), .inl ((-2147483648), (-1), none), .inl (1, 299, none), .inr (.inr (.inl 245))], ([], [], [(3, 0, 0, ck_one 3)]), ([], []), [(.inr (some (.inl (ck_one 1))), 245, ([], [], []))])
set_option maxRecDepth 100000 in
theorem p18x_144_e : ck_ok p1_O none [] [(172, [p18x_143])] 171 [] 88 p18x_144 = true := by decide +kernel
theorem p18x_144_s {X : Int → Int} {LX : Nat} : ck_Ok p1_O X LX 171 p18x_144 := ck_ok_s (ck_E1 (ck_S1 p18x_143_s ck_S0) ck_E0) ck_X0 ck_l0 p18x_144_e
set_option maxRecDepth 100000 in
def p18x_146 : ck_Sum := ((8, 1, 6), 245, [.inr (.inr (.inl 1)), .inl ((-2147483648), (-1), none), .inl (300, 2147483647, none)], ([], [], [(3, 0, 0, ck_one 3)]), ([], []), [(.inl 3, 245, ([], [], []))])
set_option maxRecDepth 100000 in
theorem p18x_146_e : ck_ok p1_O none [] [(132, [p18x_134])] 172 [] 76 p18x_146 = true := by decide +kernel
theorem p18x_146_s {X : Int → Int} {LX : Nat} : ck_Ok p1_O X LX 172 p18x_146 := ck_ok_s (ck_E1 (ck_S1 p18x_134_s ck_S0) ck_E0) ck_X0 ck_l0 p18x_146_e
set_option maxRecDepth 100000 in
def p18x_147 : ck_Sum := ((9, 1, 6), 245, [.inr (.inr (.inl 1)), .inl ((-2147483648), (-1), none), .inl (300, 2147483647, none), .inr (.inr (.inl 245))], ([], [], [(3, 0, 0, ck_one 3)]), ([], []), [(.inr (some (.inl (ck_one 1))), 245, ([], [], []))])
set_option maxRecDepth 100000 in
theorem p18x_147_e : ck_ok p1_O none [] [(172, [p18x_146])] 171 [] 88 p18x_147 = true := by decide +kernel
theorem p18x_147_s {X : Int → Int} {LX : Nat} : ck_Ok p1_O X LX 171 p18x_147 := ck_ok_s (ck_E1 (ck_S1 p18x_146_s ck_S0) ck_E0) ck_X0 ck_l0 p18x_147_e
set_option maxRecDepth 100000 in
def p18x_149 : ck_Sum := ((0, 0, 0), 245, [.inr (.inr (.inl 1)), .inl (0, 2, none), .inl (ck_one 3)], ([], [], []), ([], []), [(.inr none, 245, ([], [], []))])
set_option maxRecDepth 100000 in
theorem p18x_149_e : ck_ok p1_O none [] [] 133 [] 82 p18x_149 = true := by decide +kernel
theorem p18x_149_s {X : Int → Int} {LX : Nat} : ck_Ok p1_O X LX 133 p18x_149 := ck_ok_s (ck_E0) ck_X0 ck_l0 p18x_149_e
set_option maxRecDepth 100000 in
def p18x_150 : ck_Sum := ((1, 0, 0), 245, [.inr (.inr (.inl 1)), .inl (0, 2, none)], ([], [], [(3, 0, 0, ck_one 3)]), ([], []), [(.inr none, 245, ([], [], []))])
set_option maxRecDepth 100000 in
theorem p18x_150_e : ck_ok p1_O none [] [(133, [p18x_149])] 132 [] 84 p18x_150 = true := by decide +kernel
theorem p18x_150_s {X : Int → Int} {LX : Nat} : ck_Ok p1_O X LX 132 p18x_150 := ck_ok_s (ck_E1 (ck_S1 p18x_149_s ck_S0) ck_E0) ck_X0 ck_l0 p18x_150_e
set_option maxRecDepth 100000 in
def p18x_151 : ck_Sum := ((6, 1, 6), 245, [.inr (.inr (.inl 1)), .inl (0, 2, none), .inl ((-2147483648), 0, none)], ([], [], [(3, 0, 0, ck_one 3)]), ([], []), [(.inl 0, 245, ([], [], []))])
set_option maxRecDepth 100000 in
theorem p18x_151_e : ck_ok p1_O none [] [(132, [p18x_150])] 172 [] 84 p18x_151 = true := by decide +kernel
theorem p18x_151_s {X : Int → Int} {LX : Nat} : ck_Ok p1_O X LX 172 p18x_151 := ck_ok_s (ck_E1 (ck_S1 p18x_150_s ck_S0) ck_E0) ck_X0 ck_l0 p18x_151_e
set_option maxRecDepth 100000 in
def p18x_152 : ck_Sum := ((7, 1, 6), 245, [.inr (.inr (.inl 1)), .inl (0, 2, none), .inl ((-2147483648), 0, none), .inr (.inr (.inl 245))], ([], [], [(3, 0, 0, ck_one 3)]), ([], []), [(.inr (some (.inl (ck_one 2))), 245, ([], [], []))])
set_option maxRecDepth 100000 in
theorem p18x_152_e : ck_ok p1_O none [] [(172, [p18x_151])] 171 [] 88 p18x_152 = true := by decide +kernel
theorem p18x_152_s {X : Int → Int} {LX : Nat} : ck_Ok p1_O X LX 171 p18x_152 := ck_ok_s (ck_E1 (ck_S1 p18x_151_s ck_S0) ck_E0) ck_X0 ck_l0 p18x_152_e
set_option maxRecDepth 100000 in
def p18x_6949 : ck_Sum := ((0, 0, 0), 245, [.inr (.inr (.inl 206)), .inl (0, 2, none), .inl (0, 39, none), .inl (ck_one 0), .inl (ck_one 0)], ([], [], []), ([(206, 2, 8)], []), [(.inr none, 245, ([], [], [(206, 8, 8, ck_one 0), (206, 6, 6, ck_one 0), (206, 4, 4, ck_one (-1)), (206, 3, 3, ck_one 0), (206, 7, 7, ck_one 0), (206, 5, 5, (0, 39, none)), (206, 2, 2, (0, 2, none))]))])
set_option maxRecDepth 100000 in
theorem p18x_6949_e : ck_ok p1_O none [] [] 29 [] 114 p18x_6949 = true := by decide +kernel
theorem p18x_6949_s {X : Int → Int} {LX : Nat} : ck_Ok p1_O X LX 29 p18x_6949 := ck_ok_s (ck_E0) ck_X0 ck_l0 p18x_6949_e
set_option maxRecDepth 100000 in
def p18x_6950 : ck_Sum := ((0, 0, 0), 245, [.inr (.inr (.inl 206))], ([], [], [(206, 5, 5, (0, 39, none)), (3, 1, 1, ck_one 40)]), ([], []), [(.inr (some (.inl (ck_one 0))), 245, ([], [], []))])
set_option maxRecDepth 100000 in
theorem p18x_6950_e : ck_ok p1_O none [] [] 31 [] 86 p18x_6950 = true := by decide +kernel
theorem p18x_6950_s {X : Int → Int} {LX : Nat} : ck_Ok p1_O X LX 31 p18x_6950 := ck_ok_s (ck_E0) ck_X0 ck_l0 p18x_6950_e
set_option maxRecDepth 100000 in
def p18x_2722 : ck_Sum := ((0, 0, 0), 245, [.inr (.inr (.inl 200)), .inl ((-2147483648), 2147483647, none)], ([], [], [(201, 0, 299, (0, 9, none))]), ([], []), [(.inr (some (.inl (0, 9, none))), 245, ([], [], []))])
set_option maxRecDepth 100000 in
theorem p18x_2722_e : ck_ok p1_O none [] [] 34 [] 92 p18x_2722 = true := by decide +kernel
theorem p18x_2722_s {X : Int → Int} {LX : Nat} : ck_Ok p1_O X LX 34 p18x_2722 := ck_ok_s (ck_E0) ck_X0 ck_l0 p18x_2722_e
set_option maxRecDepth 100000 in
def p18x_7202 : ck_Sum := ((1, 0, 0), 245, [.inr (.inr (.inl 206))], ([], [], [(206, 6, 6, (0, 167, none)), (206, 3, 3, ck_one 0), (206, 5, 5, (0, 39, none)), (3, 3, 3, ck_one 2), (3, 2, 2, ck_one 10), (201, 0, 299, (0, 9, none))]), ([], []), [(.inr (some (.inl (0, 167, none))), 245, ([], [], []))])
set_option maxRecDepth 100000 in
theorem p18x_7202_e : ck_ok p1_O none [] [(34, [p18x_2722])] 33 [] 110 p18x_7202 = true := by decide +kernel
theorem p18x_7202_s {X : Int → Int} {LX : Nat} : ck_Ok p1_O X LX 33 p18x_7202 := ck_ok_s (ck_E1 (ck_S1 p18x_2722_s ck_S0) ck_E0) ck_X0 ck_l0 p18x_7202_e
set_option maxRecDepth 100000 in
def p18x_6956 : ck_Sum := ((0, 0, 0), 245, [.inr (.inr (.inl 200)), .inl (0, 2, none), .inl (0, 39, none)], ([], [], [(202, 0, 593, ck_one 0)]), ([], []), [(.inr (some (.inl (ck_one 0))), 245, ([], [], []))])
set_option maxRecDepth 100000 in
theorem p18x_6956_e : ck_ok p1_O none [] [] 36 [] 108 p18x_6956 = true := by decide +kernel
theorem p18x_6956_s {X : Int → Int} {LX : Nat} : ck_Ok p1_O X LX 36 p18x_6956 := ck_ok_s (ck_E0) ck_X0 ck_l0 p18x_6956_e
set_option maxRecDepth 100000 in
def p18x_7203 : ck_Sum := ((1, 0, 0), 245, [.inr (.inr (.inl 200)), .inl (0, 2, none), .inl (0, 39, none), .inl ((-2147483648), 2147483647, none)], ([], [(3, 8, 0)], [(202, 0, 593, ck_one 0)]), ([], []), [(.inr (some (.inl (ck_one 0))), 245, ([], [], []))])
set_option maxRecDepth 100000 in
theorem p18x_7203_e : ck_ok p1_O none [] [(36, [p18x_6956])] 35 [] 92 p18x_7203 = true := by decide +kernel
theorem p18x_7203_s {X : Int → Int} {LX : Nat} : ck_Ok p1_O X LX 35 p18x_7203 := ck_ok_s (ck_E1 (ck_S1 p18x_6956_s ck_S0) ck_E0) ck_X0 ck_l0 p18x_7203_e
set_option maxRecDepth 100000 in
def p18x_515 : ck_Sum := ((0, 0, 0), 245, [.inr (.inr (.inl 200)), .inl ((-2147483648), 2147483647, none)], ([], [], [(203, 0, 299, ck_one 0)]), ([], []), [(.inr (some (.inl (ck_one 0))), 245, ([], [], []))])
set_option maxRecDepth 100000 in
theorem p18x_515_e : ck_ok p1_O none [] [] 44 [] 92 p18x_515 = true := by decide +kernel
theorem p18x_515_s {X : Int → Int} {LX : Nat} : ck_Ok p1_O X LX 44 p18x_515 := ck_ok_s (ck_E0) ck_X0 ck_l0 p18x_515_e
set_option maxRecDepth 100000 in
def p18x_516 : ck_Sum := ((1, 0, 0), 245, [.inr (.inr (.inl 206))], ([], [], [(203, 0, 299, ck_one 0)]), ([], []), [(.inr none, 245, ([], [], []))])
set_option maxRecDepth 100000 in
theorem p18x_516_e : ck_ok p1_O none [] [(44, [p18x_515])] 43 [(22, [some (.inr (.inr (.inl 206))), some (.inr (.inr (.inl 6))), some (.inl (ck_one 0)), some (.inl (ck_one 0)), none], ([], [], [(203, 0, 299, ck_one 0)]), 100, .inl 3, true)] 142 p18x_516 = true := by decide +kernel
theorem p18x_516_s {X : Int → Int} {LX : Nat} : ck_Ok p1_O X LX 43 p18x_516 := ck_ok_s (ck_E1 (ck_S1 p18x_515_s ck_S0) ck_E0) ck_X0 ck_l0 p18x_516_e
set_option maxRecDepth 100000 in
def p18x_7204 : ck_Sum := ((2, 0, 0), 245, [.inr (.inr (.inl 206))], ([], [(3, 8, 0)], [(206, 6, 6, (0, 167, none)), (206, 3, 3, ck_one 0), (206, 5, 5, (0, 39, none)), (206, 2, 2, (0, 2, none)), (3, 3, 3, ck_one 2), (3, 2, 2, ck_one 10), (3, 1, 1, ck_one 40), (203, 0, 299, ck_one 0), (202, 0, 593, ck_one 0), (201, 0, 299, (0, 9, none))]), ([(206, 5, 7)], []), [(.inr none, 245, ([], [], [(206, 6, 6, (0, 167, none)), (206, 5, 5, (0, 39, none))]))])
set_option maxRecDepth 100000 in
theorem p18x_7204_e : ck_ok p1_O none [] [(31, [p18x_6950]), (33, [p18x_7202]), (35, [p18x_7203]), (43, [p18x_516])] 32 [] 134 p18x_7204 = true := by decide +kernel
theorem p18x_7204_s {X : Int → Int} {LX : Nat} : ck_Ok p1_O X LX 32 p18x_7204 := ck_ok_s (ck_E1 (ck_S1 p18x_6950_s ck_S0) (ck_E1 (ck_S1 p18x_7202_s ck_S0) (ck_E1 (ck_S1 p18x_7203_s ck_S0) (ck_E1 (ck_S1 p18x_516_s ck_S0) ck_E0)))) ck_X0 ck_l0 p18x_7204_e
set_option maxRecDepth 100000 in
def p18x_7229 : ck_Sum := ((3, 0, 0), 245, [.inr (.inr (.inl 206)), .inl (1, 299, none)], ([], [(3, 8, 0)], [(206, 6, 6, ck_one 0), (206, 3, 3, ck_one 0), (206, 7, 7, ck_one 0), (206, 5, 5, (0, 39, none)), (206, 2, 2, (0, 2, none)), (3, 3, 3, ck_one 2), (3, 2, 2, ck_one 10), (3, 1, 1, ck_one 40), (203, 0, 299, ck_one 0), (202, 0, 593, ck_one 0), (201, 0, 299, (0, 9, none))]), ([(206, 5, 7)], []), [(.inr (some (.inl (ck_one (-1)))), 245, ([], [], [(206, 6, 6, (0, 167, none)), (206, 5, 5, (0, 39, none))]))])
set_option maxRecDepth 100000 in
theorem p18x_7229_e : ck_ok p1_O none [] [(31, [p18x_6950]), (32, [p18x_7204])] 30 [(5, [some (.inr (.inr (.inl 206))), some (.inl (1, 299, none)), some (.inl (0, 300, none))], ([], [(3, 8, 0)], [(206, 6, 6, (0, 167, none)), (206, 3, 3, ck_one 0), (206, 5, 5, (0, 39, none)), (206, 2, 2, (0, 2, none)), (3, 3, 3, ck_one 2), (3, 2, 2, ck_one 10), (3, 1, 1, ck_one 40), (203, 0, 299, ck_one 0), (202, 0, 593, ck_one 0), (201, 0, 299, (0, 9, none))]), 100, .inl 2, true)] 134 p18x_7229 = true := by decide +kernel
theorem p18x_7229_s {X : Int → Int} {LX : Nat} : ck_Ok p1_O X LX 30 p18x_7229 := ck_ok_s (ck_E1 (ck_S1 p18x_6950_s ck_S0) (ck_E1 (ck_S1 p18x_7204_s ck_S0) ck_E0)) ck_X0 ck_l0 p18x_7229_e
set_option maxRecDepth 100000 in
def p18x_7230 : ck_Sum := ((4, 0, 0), 245, [.inr (.inr (.inl 1)), .inl (0, 2, none), .inl (1, 299, none)], ([], [(3, 8, 0)], [(206, 8, 8, ck_one 0), (206, 7, 7, ck_one 0), (206, 6, 6, ck_one 0), (206, 5, 5, ck_one 0), (206, 4, 4, ck_one (-1)), (206, 3, 3, ck_one 0), (206, 2, 2, ck_one 0), (3, 6, 6, ck_one 0), (3, 3, 3, ck_one 2), (3, 2, 2, ck_one 10), (3, 1, 1, ck_one 40), (3, 0, 0, ck_one 3), (203, 0, 299, ck_one 0), (202, 0, 593, ck_one 0), (201, 0, 299, (0, 9, none))]), ([(206, 2, 8)], []), [(.inr (some (.inl (ck_one (-1)))), 245, ([], [], [(206, 8, 8, ck_one 0), (206, 6, 6, (0, 167, none)), (206, 5, 5, (0, 39, none)), (206, 4, 4, ck_one (-1)), (206, 3, 3, ck_one 0), (206, 2, 2, (0, 2, none))]))])
set_option maxRecDepth 100000 in
theorem p18x_7230_e : ck_ok p1_O none [] [(132, [p18x_150]), (29, [p18x_6949]), (30, [p18x_7229])] 172 [(47, [some (.inr (.inr (.inl 1))), some (.inl (0, 2, none)), some (.inl (1, 299, none)), some (.inl (1, 299, none)), some (.inl (0, 40, none))], ([], [(3, 8, 0)], [(206, 8, 8, ck_one 0), (206, 6, 6, (0, 167, none)), (206, 5, 5, (0, 39, none)), (206, 4, 4, ck_one (-1)), (206, 3, 3, ck_one 0), (206, 2, 2, (0, 2, none)), (3, 6, 6, ck_one 0), (3, 3, 3, ck_one 2), (3, 2, 2, ck_one 10), (3, 1, 1, ck_one 40), (3, 0, 0, ck_one 3), (203, 0, 299, ck_one 0), (202, 0, 593, ck_one 0), (201, 0, 299, (0, 9, none))]), 100, .inl 4, true)] 182 p18x_7230 = true := by decide +kernel
theorem p18x_7230_s {X : Int → Int} {LX : Nat} : ck_Ok p1_O X LX 172 p18x_7230 := ck_ok_s (ck_E1 (ck_S1 p18x_150_s ck_S0) (ck_E1 (ck_S1 p18x_6949_s ck_S0) (ck_E1 (ck_S1 p18x_7229_s ck_S0) ck_E0))) ck_X0 ck_l0 p18x_7230_e
set_option maxRecDepth 100000 in
def p18x_7231 : ck_Sum := ((5, 0, 0), 245, [.inr (.inr (.inl 1)), .inl (0, 2, none), .inl (1, 299, none), .inr (.inr (.inl 245))], ([], [(3, 8, 0)], [(206, 8, 8, ck_one 0), (206, 7, 7, ck_one 0), (206, 6, 6, ck_one 0), (206, 5, 5, ck_one 0), (206, 4, 4, ck_one (-1)), (206, 3, 3, ck_one 0), (206, 2, 2, ck_one 0), (3, 6, 6, ck_one 0), (3, 3, 3, ck_one 2), (3, 2, 2, ck_one 10), (3, 1, 1, ck_one 40), (3, 0, 0, ck_one 3), (203, 0, 299, ck_one 0), (202, 0, 593, ck_one 0), (201, 0, 299, (0, 9, none))]), ([(206, 2, 8), (245, 0, 0)], []), [(.inr (some (.inl (ck_one 0))), 245, ([], [], [(245, 0, 0, ck_one (-1)), (206, 8, 8, ck_one 0), (206, 6, 6, (0, 167, none)), (206, 5, 5, (0, 39, none)), (206, 4, 4, ck_one (-1)), (206, 3, 3, ck_one 0), (206, 2, 2, (0, 2, none))]))])
set_option maxRecDepth 100000 in
theorem p18x_7231_e : ck_ok p1_O none [] [(172, [p18x_7230])] 171 [] 92 p18x_7231 = true := by decide +kernel
theorem p18x_7231_s {X : Int → Int} {LX : Nat} : ck_Ok p1_O X LX 171 p18x_7231 := ck_ok_s (ck_E1 (ck_S1 p18x_7230_s ck_S0) ck_E0) ck_X0 ck_l0 p18x_7231_e
set_option maxRecDepth 100000 in
def p18x_8896 : ck_Sum := ((6, 1, 6), 245, [.inr (.inr (.inl 1)), .inl (0, 2, none), .inl (300, 2147483647, none)], ([], [], [(3, 0, 0, ck_one 3)]), ([], []), [(.inl 0, 245, ([], [], []))])
set_option maxRecDepth 100000 in
theorem p18x_8896_e : ck_ok p1_O none [] [(132, [p18x_150])] 172 [] 90 p18x_8896 = true := by decide +kernel
theorem p18x_8896_s {X : Int → Int} {LX : Nat} : ck_Ok p1_O X LX 172 p18x_8896 := ck_ok_s (ck_E1 (ck_S1 p18x_150_s ck_S0) ck_E0) ck_X0 ck_l0 p18x_8896_e
set_option maxRecDepth 100000 in
def p18x_8897 : ck_Sum := ((7, 1, 6), 245, [.inr (.inr (.inl 1)), .inl (0, 2, none), .inl (300, 2147483647, none), .inr (.inr (.inl 245))], ([], [], [(3, 0, 0, ck_one 3)]), ([], []), [(.inr (some (.inl (ck_one 2))), 245, ([], [], []))])
set_option maxRecDepth 100000 in
theorem p18x_8897_e : ck_ok p1_O none [] [(172, [p18x_8896])] 171 [] 88 p18x_8897 = true := by decide +kernel
theorem p18x_8897_s {X : Int → Int} {LX : Nat} : ck_Ok p1_O X LX 171 p18x_8897 := ck_ok_s (ck_E1 (ck_S1 p18x_8896_s ck_S0) ck_E0) ck_X0 ck_l0 p18x_8897_e
set_option maxRecDepth 100000 in
def p18x_8900 : ck_Sum := ((6, 1, 6), 245, [.inr (.inr (.inl 1)), .inl (3, 2147483647, none), .inl (ck_one 3)], ([], [], []), ([], []), [(.inl 3, 245, ([], [], []))])
set_option maxRecDepth 100000 in
theorem p18x_8900_e : ck_ok p1_O none [] [] 133 [] 82 p18x_8900 = true := by decide +kernel
theorem p18x_8900_s {X : Int → Int} {LX : Nat} : ck_Ok p1_O X LX 133 p18x_8900 := ck_ok_s (ck_E0) ck_X0 ck_l0 p18x_8900_e
set_option maxRecDepth 100000 in
def p18x_8901 : ck_Sum := ((7, 1, 6), 245, [.inr (.inr (.inl 1)), .inl (3, 2147483647, none)], ([], [], [(3, 0, 0, ck_one 3)]), ([], []), [(.inl 3, 245, ([], [], []))])
set_option maxRecDepth 100000 in
theorem p18x_8901_e : ck_ok p1_O none [] [(133, [p18x_8900])] 132 [] 82 p18x_8901 = true := by decide +kernel
theorem p18x_8901_s {X : Int → Int} {LX : Nat} : ck_Ok p1_O X LX 132 p18x_8901 := ck_ok_s (ck_E1 (ck_S1 p18x_8900_s ck_S0) ck_E0) ck_X0 ck_l0 p18x_8901_e
set_option maxRecDepth 100000 in
def p18x_8902 : ck_Sum := ((8, 1, 6), 245, [.inr (.inr (.inl 1)), .inl (3, 2147483647, none), .inl ((-2147483648), 0, none)], ([], [], [(3, 0, 0, ck_one 3)]), ([], []), [(.inl 3, 245, ([], [], []))])
set_option maxRecDepth 100000 in
theorem p18x_8902_e : ck_ok p1_O none [] [(132, [p18x_8901])] 172 [] 76 p18x_8902 = true := by decide +kernel
theorem p18x_8902_s {X : Int → Int} {LX : Nat} : ck_Ok p1_O X LX 172 p18x_8902 := ck_ok_s (ck_E1 (ck_S1 p18x_8901_s ck_S0) ck_E0) ck_X0 ck_l0 p18x_8902_e
set_option maxRecDepth 100000 in
def p18x_8903 : ck_Sum := ((9, 1, 6), 245, [.inr (.inr (.inl 1)), .inl (3, 2147483647, none), .inl ((-2147483648), 0, none), .inr (.inr (.inl 245))], ([], [], [(3, 0, 0, ck_one 3)]), ([], []), [(.inr (some (.inl (ck_one 1))), 245, ([], [], []))])
set_option maxRecDepth 100000 in
theorem p18x_8903_e : ck_ok p1_O none [] [(172, [p18x_8902])] 171 [] 88 p18x_8903 = true := by decide +kernel
theorem p18x_8903_s {X : Int → Int} {LX : Nat} : ck_Ok p1_O X LX 171 p18x_8903 := ck_ok_s (ck_E1 (ck_S1 p18x_8902_s ck_S0) ck_E0) ck_X0 ck_l0 p18x_8903_e
set_option maxRecDepth 100000 in
def p18x_8907 : ck_Sum := ((8, 1, 6), 245, [.inr (.inr (.inl 1)), .inl (3, 2147483647, none), .inl (1, 299, none)], ([], [], [(3, 0, 0, ck_one 3)]), ([], []), [(.inl 3, 245, ([], [], []))])
set_option maxRecDepth 100000 in
theorem p18x_8907_e : ck_ok p1_O none [] [(132, [p18x_8901])] 172 [] 76 p18x_8907 = true := by decide +kernel
theorem p18x_8907_s {X : Int → Int} {LX : Nat} : ck_Ok p1_O X LX 172 p18x_8907 := ck_ok_s (ck_E1 (ck_S1 p18x_8901_s ck_S0) ck_E0) ck_X0 ck_l0 p18x_8907_e
set_option maxRecDepth 100000 in
def p18x_8908 : ck_Sum := ((9, 1, 6), 245, [.inr (.inr (.inl 1)), .inl (3, 2147483647, none), .inl (1, 299, none), .inr (.inr (.inl 245))], ([], [], [(3, 0, 0, ck_one 3)]), ([], []), [(.inr (some (.inl (ck_one 1))), 245, ([], [], []))])
set_option maxRecDepth 100000 in
theorem p18x_8908_e : ck_ok p1_O none [] [(172, [p18x_8907])] 171 [] 88 p18x_8908 = true := by decide +kernel
theorem p18x_8908_s {X : Int → Int} {LX : Nat} : ck_Ok p1_O X LX 171 p18x_8908 := ck_ok_s (ck_E1 (ck_S1 p18x_8907_s ck_S0) ck_E0) ck_X0 ck_l0 p18x_8908_e
set_option maxRecDepth 100000 in
def p18x_8910 : ck_Sum := ((8, 1, 6), 245, [.inr (.inr (.inl 1)), .inl (3, 2147483647, none), .inl (300, 2147483647, none)], ([], [], [(3, 0, 0, ck_one 3)]), ([], []), [(.inl 3, 245, ([], [], []))])
set_option maxRecDepth 100000 in
theorem p18x_8910_e : ck_ok p1_O none [] [(132, [p18x_8901])] 172 [] 76 p18x_8910 = true := by decide +kernel
theorem p18x_8910_s {X : Int → Int} {LX : Nat} : ck_Ok p1_O X LX 172 p18x_8910 := ck_ok_s (ck_E1 (ck_S1 p18x_8901_s ck_S0) ck_E0) ck_X0 ck_l0 p18x_8910_e
set_option maxRecDepth 100000 in
def p18x_8911 : ck_Sum := ((9, 1, 6), 245, [.inr (.inr (.inl 1)), .inl (3, 2147483647, none), .inl (300, 2147483647, none), .inr (.inr (.inl 245))], ([], [], [(3, 0, 0, ck_one 3)]), ([], []), [(.inr (some (.inl (ck_one 1))), 245, ([], [], []))])
set_option maxRecDepth 100000 in
theorem p18x_8911_e : ck_ok p1_O none [] [(172, [p18x_8910])] 171 [] 88 p18x_8911 = true := by decide +kernel
theorem p18x_8911_s {X : Int → Int} {LX : Nat} : ck_Ok p1_O X LX 171 p18x_8911 := ck_ok_s (ck_E1 (ck_S1 p18x_8910_s ck_S0) ck_E0) ck_X0 ck_l0 p18x_8911_e
set_option maxRecDepth 100000 in
def p18x_137 : ck_Sum := ((0, 0, 0), 245, [.inr (.inr (.inl 226))], ([], [], [(227, 0, 0, ck_one 3)]), ([], []), [(.inr (some (.inl (ck_one 3))), 245, ([], [], []))])
set_option maxRecDepth 100000 in
theorem p18x_137_e : ck_ok p1_O none [] [] 262 [] 80 p18x_137 = true := by decide +kernel
theorem p18x_137_s {X : Int → Int} {LX : Nat} : ck_Ok p1_O X LX 262 p18x_137 := ck_ok_s (ck_E0) ck_X0 ck_l0 p18x_137_e
set_option maxRecDepth 100000 in
def p18x_138 : ck_Sum := ((0, 0, 0), 245, [.inl ((-2147483648), (-1), none), .inl (ck_one 0), .inl (ck_one 2)], ([], [], []), ([], []), [(.inr (some (.inl (ck_one 0))), 245, ([], [], []))])
set_option maxRecDepth 100000 in
theorem p18x_138_e : ck_ok p1_O none [] [] 287 [] 80 p18x_138 = true := by decide +kernel
theorem p18x_138_s {X : Int → Int} {LX : Nat} : ck_Ok p1_O X LX 287 p18x_138 := ck_ok_s (ck_E0) ck_X0 ck_l0 p18x_138_e
set_option maxRecDepth 100000 in
def p18x_139 : ck_Sum := ((1, 0, 0), 245, [.inr (.inr (.inl 226)), .inl ((-2147483648), (-1), none)], ([], [], [(227, 0, 0, ck_one 3)]), ([], []), [(.inr (some (.inl (ck_one 1))), 245, ([], [], []))])
set_option maxRecDepth 100000 in
theorem p18x_139_e : ck_ok p1_O none [] [(262, [p18x_137]), (287, [p18x_138])] 289 [] 92 p18x_139 = true := by decide +kernel
theorem p18x_139_s {X : Int → Int} {LX : Nat} : ck_Ok p1_O X LX 289 p18x_139 := ck_ok_s (ck_E1 (ck_S1 p18x_137_s ck_S0) (ck_E1 (ck_S1 p18x_138_s ck_S0) ck_E0)) ck_X0 ck_l0 p18x_139_e
set_option maxRecDepth 100000 in
def p18x_140 : ck_Sum := ((0, 0, 0), 245, [.inr (.inr (.inl 226)), .inl (ck_one 1), .inl (ck_one 1)], ([], [], []), ([(226, 0, 0)], []), [(.inr (some (.inl (ck_one 1))), 245, ([], [], [(226, 0, 0, ck_one 1)]))])
set_option maxRecDepth 100000 in
theorem p18x_140_e : ck_ok p1_O none [] [] 283 [] 84 p18x_140 = true := by decide +kernel
theorem p18x_140_s {X : Int → Int} {LX : Nat} : ck_Ok p1_O X LX 283 p18x_140 := ck_ok_s (ck_E0) ck_X0 ck_l0 p18x_140_e
set_option maxRecDepth 100000 in
def p18x_141 : ck_Sum := ((2, 0, 0), 245, [.inr (.inr (.inl 226)), .inl ((-2147483648), (-1), none), .inl ((-2147483648), 0, none)], ([], [], [(227, 0, 0, ck_one 3)]), ([(226, 0, 0)], []), [(.inr (some (.inl (ck_one 0))), 245, ([], [], [(226, 0, 0, ck_one 1)]))])
set_option maxRecDepth 100000 in
theorem p18x_141_e : ck_ok p1_O none [] [(289, [p18x_139]), (283, [p18x_140])] 328 [] 94 p18x_141 = true := by decide +kernel
theorem p18x_141_s {X : Int → Int} {LX : Nat} : ck_Ok p1_O X LX 328 p18x_141 := ck_ok_s (ck_E1 (ck_S1 p18x_139_s ck_S0) (ck_E1 (ck_S1 p18x_140_s ck_S0) ck_E0)) ck_X0 ck_l0 p18x_141_e
set_option maxRecDepth 100000 in
def p18x_145 : ck_Sum := ((2, 0, 0), 245, [.inr (.inr (.inl 226)), .inl ((-2147483648), (-1), none), .inl (1, 299, none)], ([], [], [(227, 0, 0, ck_one 3)]), ([(226, 0, 0)], []), [(.inr (some (.inl (ck_one 0))), 245, ([], [], [(226, 0, 0, ck_one 1)]))])
set_option maxRecDepth 100000 in
theorem p18x_145_e : ck_ok p1_O none [] [(289, [p18x_139]), (283, [p18x_140])] 328 [] 94 p18x_145 = true := by decide +kernel
theorem p18x_145_s {X : Int → Int} {LX : Nat} : ck_Ok p1_O X LX 328 p18x_145 := ck_ok_s (ck_E1 (ck_S1 p18x_139_s ck_S0) (ck_E1 (ck_S1 p18x_140_s ck_S0) ck_E0)) ck_X0 ck_l0 p18x_145_e
set_option maxRecDepth 100000 in
def p18x_148 : ck_Sum := ((2, 0, 0), 245, [.inr (.inr (.inl 226)), .inl ((-2147483648), (-1), none), .inl (300, 2147483647, none)], ([], [], [(227, 0, 0, ck_one 3)]), ([(226, 0, 0)], []), [(.inr (some (.inl (ck_one 0))), 245, ([], [], [(226, 0, 0, ck_one 1)]))])
set_option maxRecDepth 100000 in
theorem p18x_148_e : ck_ok p1_O none [] [(289, [p18x_139]), (283, [p18x_140])] 328 [] 94 p18x_148 = true := by decide +kernel
theorem p18x_148_s {X : Int → Int} {LX : Nat} : ck_Ok p1_O X LX 328 p18x_148 := ck_ok_s (ck_E1 (ck_S1 p18x_139_s ck_S0) (ck_E1 (ck_S1 p18x_140_s ck_S0) ck_E0)) ck_X0 ck_l0 p18x_148_e
set_option maxRecDepth 100000 in
def p18x_153 : ck_Sum := ((0, 0, 0), 245, [.inl (0, 2, none), .inl (ck_one 0), .inl (ck_one 2)], ([], [], []), ([], []), [(.inr (some (.inl (ck_one 1))), 245, ([], [], []))])
set_option maxRecDepth 100000 in
theorem p18x_153_e : ck_ok p1_O none [] [] 287 [] 88 p18x_153 = true := by decide +kernel
theorem p18x_153_s {X : Int → Int} {LX : Nat} : ck_Ok p1_O X LX 287 p18x_153 := ck_ok_s (ck_E0) ck_X0 ck_l0 p18x_153_e
set_option maxRecDepth 100000 in
def p18x_154 : ck_Sum := ((1, 0, 0), 245, [.inr (.inr (.inl 226)), .inl (0, 2, none)], ([], [], [(227, 0, 0, ck_one 3)]), ([], []), [(.inr (some (.inl (ck_one 0))), 245, ([], [], []))])
set_option maxRecDepth 100000 in
theorem p18x_154_e : ck_ok p1_O none [] [(262, [p18x_137]), (287, [p18x_153])] 289 [] 90 p18x_154 = true := by decide +kernel
theorem p18x_154_s {X : Int → Int} {LX : Nat} : ck_Ok p1_O X LX 289 p18x_154 := ck_ok_s (ck_E1 (ck_S1 p18x_137_s ck_S0) (ck_E1 (ck_S1 p18x_153_s ck_S0) ck_E0)) ck_X0 ck_l0 p18x_154_e
set_option maxRecDepth 100000 in
def p18x_155 : ck_Sum := ((0, 0, 0), 245, [.inr (.inr (.inl 226)), .inl (ck_one 0), .inl (ck_one 1)], ([], [], []), ([], []), [(.inr (some (.inl (ck_one 0))), 245, ([], [], []))])
set_option maxRecDepth 100000 in
theorem p18x_155_e : ck_ok p1_O none [] [] 283 [] 78 p18x_155 = true := by decide +kernel
theorem p18x_155_s {X : Int → Int} {LX : Nat} : ck_Ok p1_O X LX 283 p18x_155 := ck_ok_s (ck_E0) ck_X0 ck_l0 p18x_155_e
set_option maxRecDepth 100000 in
def p18x_157 : ck_Sum := ((0, 0, 0), 245, [.inr (.inr (.inl 226)), .inl (ck_one 1), .inl (ck_one 2)], ([], [], []), ([(226, 0, 0)], []), [(.inr (some (.inl (ck_one 1))), 245, ([], [], [(226, 0, 0, ck_one 2)]))])
set_option maxRecDepth 100000 in
theorem p18x_157_e : ck_ok p1_O none [] [] 283 [] 84 p18x_157 = true := by decide +kernel
theorem p18x_157_s {X : Int → Int} {LX : Nat} : ck_Ok p1_O X LX 283 p18x_157 := ck_ok_s (ck_E0) ck_X0 ck_l0 p18x_157_e
set_option maxRecDepth 100000 in
def p18x_156 : ck_Sum := ((0, 0, 0), 245, [.inl ((-2147483648), 0, none), .inl (ck_one 1), .inl (ck_one 299)], ([], [], []), ([], []), [(.inr (some (.inl (ck_one 0))), 245, ([], [], []))])
set_option maxRecDepth 100000 in
theorem p18x_156_e : ck_ok p1_O none [] [] 287 [] 80 p18x_156 = true := by decide +kernel
theorem p18x_156_s {X : Int → Int} {LX : Nat} : ck_Ok p1_O X LX 287 p18x_156 := ck_ok_s (ck_E0) ck_X0 ck_l0 p18x_156_e
set_option maxRecDepth 100000 in
def p18x_158 : ck_Sum := ((2, 0, 0), 245, [.inr (.inr (.inl 226)), .inl (0, 2, none), .inl ((-2147483648), 0, none)], ([], [], [(227, 0, 0, ck_one 3)]), ([(226, 0, 0)], []), [(.inr (some (.inl (ck_one 0))), 245, ([], [], [(226, 0, 0, ck_one 2)]))])
set_option maxRecDepth 100000 in
theorem p18x_158_e : ck_ok p1_O none [] [(289, [p18x_154]), (283, [p18x_155, p18x_157]), (287, [p18x_156])] 328 [] 116 p18x_158 = true := by decide +kernel
theorem p18x_158_s {X : Int → Int} {LX : Nat} : ck_Ok p1_O X LX 328 p18x_158 := ck_ok_s (ck_E1 (ck_S1 p18x_154_s ck_S0) (ck_E1 (ck_S1 p18x_155_s (ck_S1 p18x_157_s ck_S0)) (ck_E1 (ck_S1 p18x_156_s ck_S0) ck_E0))) ck_X0 ck_l0 p18x_158_e
set_option maxRecDepth 100000 in
def p18x_7233 : ck_Sum := ((0, 0, 0), 245, [.inr (.inr (.inl 226)), .inl (ck_one 0), .inl (ck_one 2)], ([], [], []), ([], []), [(.inr (some (.inl (ck_one 0))), 245, ([], [], []))])
set_option maxRecDepth 100000 in
theorem p18x_7233_e : ck_ok p1_O none [] [] 283 [] 78 p18x_7233 = true := by decide +kernel
theorem p18x_7233_s {X : Int → Int} {LX : Nat} : ck_Ok p1_O X LX 283 p18x_7233 := ck_ok_s (ck_E0) ck_X0 ck_l0 p18x_7233_e
set_option maxRecDepth 100000 in
def p18x_7232 : ck_Sum := ((0, 0, 0), 245, [.inl (1, 299, none), .inl (ck_one 1), .inl (ck_one 299)], ([], [], []), ([], []), [(.inr (some (.inl (ck_one 1))), 245, ([], [], []))])
set_option maxRecDepth 100000 in
theorem p18x_7232_e : ck_ok p1_O none [] [] 287 [] 88 p18x_7232 = true := by decide +kernel
theorem p18x_7232_s {X : Int → Int} {LX : Nat} : ck_Ok p1_O X LX 287 p18x_7232 := ck_ok_s (ck_E0) ck_X0 ck_l0 p18x_7232_e
set_option maxRecDepth 100000 in
def p18x_7234 : ck_Sum := ((0, 0, 0), 245, [.inr (.inr (.inl 226))], ([], [], [(227, 1, 1, ck_one 40)]), ([], []), [(.inr (some (.inl (ck_one 40))), 245, ([], [], []))])
set_option maxRecDepth 100000 in
theorem p18x_7234_e : ck_ok p1_O none [] [] 260 [] 80 p18x_7234 = true := by decide +kernel
theorem p18x_7234_s {X : Int → Int} {LX : Nat} : ck_Ok p1_O X LX 260 p18x_7234 := ck_ok_s (ck_E0) ck_X0 ck_l0 p18x_7234_e
set_option maxRecDepth 100000 in
def p18x_7235 : ck_Sum := ((0, 0, 0), 245, [.inr (.inr (.inl 226))], ([], [], [(227, 2, 9, ck_one 0)]), ([], []), [(.inr (some (.inl (ck_one 0))), 245, ([], [], []))])
set_option maxRecDepth 100000 in
theorem p18x_7235_e : ck_ok p1_O none [] [] 267 [] 80 p18x_7235 = true := by decide +kernel
theorem p18x_7235_s {X : Int → Int} {LX : Nat} : ck_Ok p1_O X LX 267 p18x_7235 := ck_ok_s (ck_E0) ck_X0 ck_l0 p18x_7235_e
set_option maxRecDepth 100000 in
def p18x_7236 : ck_Sum := ((0, 0, 0), 245, [.inr (.inr (.inl 226)), .inl (0, 2, none)], ([], [], [(226, 26, 26, ((-1), 2, none)), (235, 0, 11999, (0, 1, none))]), ([(226, 26, 26), (235, 0, 29699)], []), [(.inr none, 245, ([], [], [(226, 26, 26, (0, 2, none)), (235, 0, 11999, (0, 1, none))]))])
set_option maxRecDepth 100000 in
theorem p18x_7236_e : ck_ok p1_O none [] [] 294 [(16, [some (.inr (.inr (.inl 226))), some (.inl (0, 2, none)), some (.inl (0, 29700, none))], ([], [], [(226, 26, 26, (0, 2, none)), (235, 0, 11999, (0, 1, none))]), 100, .inl 2, true)] 142 p18x_7236 = true := by decide +kernel
theorem p18x_7236_s {X : Int → Int} {LX : Nat} : ck_Ok p1_O X LX 294 p18x_7236 := ck_ok_s (ck_E0) ck_X0 ck_l0 p18x_7236_e
set_option maxRecDepth 100000 in
def p18x_7237 : ck_Sum := ((0, 0, 0), 245, [.inr (.inr (.inl 226)), .inl (0, 2, none), .inl (0, 39, none)], ([], [], [(227, 2, 9, ck_one 0)]), ([], []), [(.inr (some (.inl (ck_one 0))), 245, ([], [], []))])
set_option maxRecDepth 100000 in
theorem p18x_7237_e : ck_ok p1_O none [] [] 291 [(5, [some (.inr (.inr (.inl 226))), some (.inl (0, 2, none)), some (.inl (0, 39, none)), some (.inl (ck_one 0)), some (.inl (ck_one 0))], ([], [], [(227, 2, 9, ck_one 0)]), 100, .inl 3, true)] 122 p18x_7237 = true := by decide +kernel
theorem p18x_7237_s {X : Int → Int} {LX : Nat} : ck_Ok p1_O X LX 291 p18x_7237 := ck_ok_s (ck_E0) ck_X0 ck_l0 p18x_7237_e
set_option maxRecDepth 100000 in
def p18x_7238 : ck_Sum := ((0, 0, 0), 245, [.inr (.inr (.inl 226)), .inl (ck_one 0)], ([], [], [(227, 2, 9, ck_one 0)]), ([], []), [(.inr (some (.inl (ck_one 0))), 245, ([], [], []))])
set_option maxRecDepth 100000 in
theorem p18x_7238_e : ck_ok p1_O none [] [] 295 [(4, [some (.inr (.inr (.inl 226))), some (.inl (ck_one 0)), some (.inl (ck_one 0)), some (.inl (ck_one 0))], ([], [], [(227, 2, 9, ck_one 0)]), 100, .inl 2, true)] 122 p18x_7238 = true := by decide +kernel
theorem p18x_7238_s {X : Int → Int} {LX : Nat} : ck_Ok p1_O X LX 295 p18x_7238 := ck_ok_s (ck_E0) ck_X0 ck_l0 p18x_7238_e
set_option maxRecDepth 100000 in
def p18x_7239 : ck_Sum := ((0, 0, 0), 245, [.inr (.inr (.inl 226)), .inl (ck_one 1)], ([], [], [(227, 2, 9, ck_one 0)]), ([], []), [(.inr (some (.inl (ck_one 0))), 245, ([], [], []))])
set_option maxRecDepth 100000 in
theorem p18x_7239_e : ck_ok p1_O none [] [] 295 [(4, [some (.inr (.inr (.inl 226))), some (.inl (ck_one 1)), some (.inl (ck_one 0)), some (.inl (ck_one 0))], ([], [], [(227, 2, 9, ck_one 0)]), 100, .inl 2, true)] 122 p18x_7239 = true := by decide +kernel
theorem p18x_7239_s {X : Int → Int} {LX : Nat} : ck_Ok p1_O X LX 295 p18x_7239 := ck_ok_s (ck_E0) ck_X0 ck_l0 p18x_7239_e
set_option maxRecDepth 100000 in
def p18x_7240 : ck_Sum := ((1, 0, 0), 245, [.inr (.inr (.inl 226)), .inl (0, 2, none), .inl (0, 39, none), .inl (0, 299, none)], ([], [], [(226, 26, 26, ((-1), 2, none)), (226, 19, 19, (0, 299, none)), (226, 18, 18, (0, 39, none)), (226, 17, 17, (0, 2, none)), (227, 2, 9, ck_one 0), (226, 20, 20, ck_one 0), (226, 21, 21, ck_one 0), (226, 22, 22, ck_one 0), (226, 23, 23, ck_one 0), (235, 0, 11999, (0, 1, none))]), ([(226, 17, 23), (226, 26, 26), (235, 0, 29699)], []), [(.inr (some (.inl (ck_one 0))), 245, ([], [], [(226, 23, 23, ck_one 0), (226, 22, 22, ck_one 0), (226, 21, 21, ck_one 0), (226, 20, 20, ck_one 0), (226, 19, 19, (0, 299, none)), (226, 18, 18, (0, 39, none)), (226, 17, 17, (0, 2, none)), (226, 26, 26, (0, 2, none)), (235, 0, 11999, (0, 1, none))]))])
def p18x_7240_E : List (Nat × List ck_Sum) := [(294, [p18x_7236]), (291, [p18x_7237]), (295, [p18x_7238, p18x_7239])]
def p18x_7240_L : ck_AL := [some (.inr (.inr (.inl 226))), some (.inl (0, 2, none)), some (.inl (0, 39, none)), some (.inl (0, 299, none)), some (.inl (0, 11999, none)), none]
set_option maxRecDepth 100000 in
def p18x_7240_F : ck_F := ([], [], [(226, 26, 26, (0, 2, none)), (235, 0, 11999, (0, 1, none)), (226, 19, 19, (0, 299, none)), (226, 18, 18, (0, 39, none)), (226, 17, 17, (0, 2, none)), (227, 2, 9, ck_one 0), (226, 20, 20, ck_one 0), (226, 21, 21, ck_one 0), (226, 22, 22, ck_one 0), (226, 23, 23, ck_one 0)])
def p18x_7240_C : ck_C := (p18x_7240_L, p18x_7240_F, 0, .inl 4, true)
set_option maxRecDepth 100000 in
theorem p18x_7240_a : (decide (p18x_7240.2.2.1.length ≤ gm_ml 293) && ck_go p1_O none [] p18x_7240_E 293 p18x_7240.1.1 p18x_7240.2.1 p18x_7240.2.2.2.2.1 p18x_7240.2.2.2.2.2 [(14, p18x_7240_C)] 400 false [(14, p18x_7240_C, 0, 0, 245)] p18x_7240.1.2.1 p18x_7240.1.2.2 0 (p18x_7240.2.2.1.map some ++ List.replicate (gm_ml 293 - p18x_7240.2.2.1.length) none) [] p18x_7240.2.1 p18x_7240.2.2.2.1) = true := by decide +kernel
set_option maxRecDepth 100000 in
theorem p18x_7240_b : ck_go p1_O none [] p18x_7240_E 293 p18x_7240.1.1 p18x_7240.2.1 p18x_7240.2.2.2.2.1 p18x_7240.2.2.2.2.2 [] 400 true [] 0 0 34 p18x_7240_L [] 245 p18x_7240_F = true := by decide +kernel
set_option maxRecDepth 100000 in
theorem p18x_7240_f : ck_fi p18x_7240_F 235 0 11999 = some (0, 1, none) := by decide +kernel
set_option maxRecDepth 100000 in
theorem p18x_7240_g : ck_leF p1_O p18x_7240_F (([], [], [(226, 23, 23, ck_one 0), (226, 22, 22, ck_one 0), (226, 21, 21, ck_one 0), (226, 20, 20, ck_one 0), (226, 19, 19, (0, 299, none)), (226, 18, 18, (0, 39, none)), (226, 17, 17, (0, 2, none)), (226, 26, 26, (0, 2, none)), (235, 0, 11999, (0, 1, none))])) = true := by decide +kernel
theorem p18x_7240_h {X : Int → Int} {LX : Nat} : ck_OkE p1_O X LX p18x_7240_E := ck_E1 (ck_S1 p18x_7236_s ck_S0) (ck_E1 (ck_S1 p18x_7237_s ck_S0) (ck_E1 (ck_S1 p18x_7238_s (ck_S1 p18x_7239_s ck_S0)) ck_E0))
theorem p18x_7240_s {X : Int → Int} {LX : Nat} : ck_Ok p1_O X LX 293 p18x_7240 := by
  refine ck_ok_st (cuts := [(14, p18x_7240_C)]) p18x_7240_h p18x_7240_a (fun h hm => ?_)
  rw [List.mem_singleton.mp hm]
  refine ⟨rfl, fun σ K0 R0 M0 v _ bc bs L K R M hb1 hb2 hS _ => ?_⟩
  obtain ⟨hF, hl, hs, hf, hfr⟩ := hS
  obtain ⟨u0, e0, g0⟩ := hl.2 0 (.inr (.inr (.inl 226))) rfl
  cases g0
  obtain ⟨u4, e4, t, rfl, ht1, ht2, ht3, -⟩ := hl.2 4 (.inl (0, 11999, none)) rfl
  have ht2 : (0 : Int) ≤ t := ht2
  have ht3 : t ≤ (11999 : Int) := ht3
  obtain ⟨-, hM1, hM2, -⟩ := (ck_fi_s hf p18x_7240_f).2 t (by omega) (by omega)
  have hM1 : (0 : Int) ≤ M 235 t := hM1
  have hM2 : M 235 t ≤ (1 : Int) := hM2
  refine ck_flow (O := p1_O) hF (k := 226) (fl := 235) (by decide +kernel) (by decide +kernel) (by decide +kernel) e0 e4 ⟨by omega, by omega⟩ ⟨by omega, by omega⟩ (fun hp => ?_) ?_
  · have e : M 235 t - 1 = 0 := by omega
    rw [e]
    exact ⟨hF, hfr, _, List.mem_cons_self, ⟨0, rfl, ⟨by decide, by decide⟩, by decide, by decide, fun _ h => nomatch h⟩, rfl, ck_leF_s hF hf p18x_7240_g⟩
  · exact gm_Wp_wk (Nat.le_refl _) hb1 hb2 (ck_go_s (σ0 := σ) (cuts := []) p18x_7240_h ck_X0 ck_l0 400 true [] _ _ 34 _ [] _ _ σ L [] K R M (fun _ _ => rfl) (fun _ h => nomatch h) ⟨hF, hl, rfl, hf, hfr⟩ p18x_7240_b)
set_option maxRecDepth 100000 in
def p18x_8880 : ck_Sum := ((0, 0, 0), 245, [.inr (.inr (.inl 226)), .inl (10, 39, none), .inl (0, 298, none), .inl (ck_one (-1))], ([], [], [(227, 2, 9, ck_one 0)]), ([], []), [(.inr (some (.inl (10, 39, none))), 245, ([], [], []))])
set_option maxRecDepth 100000 in
theorem p18x_8880_e : ck_ok p1_O none [] [] 308 [(6, [some (.inr (.inr (.inl 226))), some (.inl (10, 39, none)), some (.inl (0, 298, none)), some (.inl (ck_one (-1))), some (.inl (10, 39, none)), some (.inl (ck_one 0)), none], ([], [], [(227, 2, 9, ck_one 0)]), 100, .inl 4, true)] 122 p18x_8880 = true := by decide +kernel
theorem p18x_8880_s {X : Int → Int} {LX : Nat} : ck_Ok p1_O X LX 308 p18x_8880 := ck_ok_s (ck_E0) ck_X0 ck_l0 p18x_8880_e
set_option maxRecDepth 100000 in
def p18x_7818 : ck_Sum := ((0, 0, 0), 245, [.inr (.inr (.inl 226)), .inl (0, 9, none), .inl (0, 298, none), .inl (ck_one (-1))], ([], [], [(227, 2, 9, ck_one 0)]), ([], []), [(.inr (some (.inl (0, 9, none))), 245, ([], [], []))])
set_option maxRecDepth 100000 in
theorem p18x_7818_e : ck_ok p1_O none [] [] 308 [(6, [some (.inr (.inr (.inl 226))), some (.inl (0, 9, none)), some (.inl (0, 298, none)), some (.inl (ck_one (-1))), some (.inl (0, 9, none)), some (.inl (ck_one 0)), none], ([], [], [(227, 2, 9, ck_one 0)]), 100, .inl 4, true)] 122 p18x_7818 = true := by decide +kernel
theorem p18x_7818_s {X : Int → Int} {LX : Nat} : ck_Ok p1_O X LX 308 p18x_7818 := ck_ok_s (ck_E0) ck_X0 ck_l0 p18x_7818_e
set_option maxRecDepth 100000 in
def p18x_8883 : ck_Sum := ((2, 0, 0), 245, [.inr (.inr (.inl 226)), .inl (0, 2, none), .inl (0, 39, none), .inl (ck_one 0), .inl (ck_one 0), .inl (ck_one (-1))], ([], [], [(226, 26, 26, ((-1), 2, none)), (227, 11, 11, ck_one 2), (227, 10, 10, ck_one 10), (227, 1, 1, ck_one 40), (227, 2, 9, ck_one 0), (237, 0, 299, (0, 99, none)), (236, 0, 299, (0, 39, none)), (226, 17, 17, (0, 2, none)), (226, 18, 18, (0, 39, none)), (226, 19, 19, (0, 299, none)), (226, 20, 20, ck_one 0), (226, 21, 21, ck_one 0), (226, 22, 22, ck_one 0), (226, 23, 23, ck_one 0), (226, 29, 29, ((-1), 0, none)), (226, 30, 30, ck_one 0), (235, 0, 11999, (0, 1, none)), (234, 0, 299, (0, 9, none))]), ([(226, 17, 23), (226, 26, 26), (226, 29, 30), (235, 0, 29699), (236, 0, 299), (237, 0, 299)], []), [(.inr none, 245, ([], [], [(226, 30, 30, ck_one 0), (226, 29, 29, ck_one (-1)), (226, 26, 26, ((-1), 2, none)), (226, 17, 17, (0, 2, none)), (226, 18, 18, (0, 39, none)), (226, 19, 19, (0, 299, none)), (226, 20, 20, ck_one 0), (226, 21, 21, ck_one 0), (226, 22, 22, ck_one 0), (226, 23, 23, ck_one 0), (237, 0, 299, (0, 99, none)), (236, 0, 299, (0, 39, none)), (235, 0, 11999, (0, 1, none))]))])
set_option maxRecDepth 100000 in
theorem p18x_8883_e : ck_ok p1_O none [] [(260, [p18x_7234]), (293, [p18x_7240]), (308, [p18x_8880, p18x_7818])] 307 [(3, [some (.inr (.inr (.inl 226))), some (.inl (0, 2, none)), some (.inl (0, 39, none)), some (.inl (ck_one 0)), some (.inl (ck_one 0)), some (.inl (ck_one (-1))), some (.inl (ck_one 0)), none, none], ([], [], [(226, 26, 26, ((-1), 2, none)), (227, 11, 11, ck_one 2), (227, 10, 10, ck_one 10), (227, 1, 1, ck_one 40), (227, 2, 9, ck_one 0), (237, 0, 299, (0, 99, none)), (236, 0, 299, (0, 39, none)), (226, 17, 17, (0, 2, none)), (226, 18, 18, (0, 39, none)), (226, 19, 19, (0, 299, none)), (226, 20, 20, ck_one 0), (226, 21, 21, ck_one 0), (226, 22, 22, ck_one 0), (226, 23, 23, ck_one 0), (226, 29, 29, ((-1), 0, none)), (226, 30, 30, ck_one 0), (235, 0, 11999, (0, 1, none)), (234, 0, 299, (0, 9, none))]), 100, .inl 6, true), (50, [some (.inr (.inr (.inl 226))), some (.inl (0, 2, none)), some (.inl (0, 39, none)), some (.inl (ck_one 0)), some (.inl (ck_one 0)), some (.inl (ck_one (-1))), some (.inl (0, 39, none)), some (.inl (0, 99, none)), some (.inl (0, 300, none))], ([], [], [(226, 30, 30, ck_one 0), (226, 29, 29, ck_one (-1)), (226, 26, 26, ((-1), 2, none)), (227, 11, 11, ck_one 2), (227, 10, 10, ck_one 10), (227, 1, 1, ck_one 40), (227, 2, 9, ck_one 0), (237, 0, 299, (0, 99, none)), (236, 0, 299, (0, 39, none)), (226, 17, 17, (0, 2, none)), (226, 18, 18, (0, 39, none)), (226, 19, 19, (0, 299, none)), (226, 20, 20, ck_one 0), (226, 21, 21, ck_one 0), (226, 22, 22, ck_one 0), (226, 23, 23, ck_one 0), (235, 0, 11999, (0, 1, none)), (234, 0, 299, (0, 9, none))]), 300, .inl 8, true)] 506 p18x_8883 = true := by decide +kernel
theorem p18x_8883_s {X : Int → Int} {LX : Nat} : ck_Ok p1_O X LX 307 p18x_8883 := ck_ok_s (ck_E1 (ck_S1 p18x_7234_s ck_S0) (ck_E1 (ck_S1 p18x_7240_s ck_S0) (ck_E1 (ck_S1 p18x_8880_s (ck_S1 p18x_7818_s ck_S0)) ck_E0))) ck_X0 ck_l0 p18x_8883_e
set_option maxRecDepth 100000 in
def p18x_8884 : ck_Sum := ((3, 0, 0), 245, [.inr (.inr (.inl 226)), .inl (0, 2, none), .inl (0, 39, none), .inl (ck_one 0)], ([], [], [(226, 26, 26, ((-1), 2, none)), (227, 11, 11, ck_one 2), (227, 10, 10, ck_one 10), (227, 1, 1, ck_one 40), (227, 2, 9, ck_one 0), (237, 0, 299, (0, 99, none)), (236, 0, 299, (0, 39, none)), (226, 17, 17, (0, 2, none)), (226, 18, 18, (0, 39, none)), (226, 19, 19, (0, 299, none)), (226, 20, 20, ck_one 0), (226, 21, 21, ck_one 0), (226, 22, 22, ck_one 0), (226, 23, 23, ck_one 0), (226, 29, 29, ((-1), 0, none)), (226, 30, 30, ck_one 0), (235, 0, 11999, (0, 1, none)), (234, 0, 299, (0, 9, none))]), ([(226, 17, 23), (226, 26, 26), (226, 29, 30), (235, 0, 29699), (236, 0, 299), (237, 0, 299)], []), [(.inr (some (.inl (ck_one (-1)))), 245, ([], [], [(226, 30, 30, ck_one 0), (226, 29, 29, ck_one (-1)), (226, 26, 26, ((-1), 2, none)), (226, 17, 17, (0, 2, none)), (226, 18, 18, (0, 39, none)), (226, 19, 19, (0, 299, none)), (226, 20, 20, ck_one 0), (226, 21, 21, ck_one 0), (226, 22, 22, ck_one 0), (226, 23, 23, ck_one 0), (237, 0, 299, (0, 99, none)), (236, 0, 299, (0, 39, none)), (235, 0, 11999, (0, 1, none))]))])
set_option maxRecDepth 100000 in
theorem p18x_8884_e : ck_ok p1_O none [] [(307, [p18x_8883])] 326 [] 90 p18x_8884 = true := by decide +kernel
theorem p18x_8884_s {X : Int → Int} {LX : Nat} : ck_Ok p1_O X LX 326 p18x_8884 := ck_ok_s (ck_E1 (ck_S1 p18x_8883_s ck_S0) ck_E0) ck_X0 ck_l0 p18x_8884_e
set_option maxRecDepth 100000 in
def p18x_8894 : ck_Sum := ((4, 0, 0), 245, [.inr (.inr (.inl 226)), .inl (0, 2, none), .inl (1, 299, none)], ([], [], [(226, 26, 26, ck_one (-1)), (227, 11, 11, ck_one 2), (227, 10, 10, ck_one 10), (227, 1, 1, ck_one 40), (227, 0, 0, ck_one 3), (227, 2, 9, ck_one 0), (237, 0, 299, ck_one 0), (236, 0, 299, ck_one 0), (226, 0, 0, ck_one 0), (226, 17, 17, ck_one 0), (226, 18, 18, ck_one 0), (226, 19, 19, ck_one 0), (226, 20, 20, ck_one 0), (226, 21, 21, ck_one 0), (226, 22, 22, ck_one 0), (226, 23, 23, ck_one 0), (226, 29, 29, ck_one 0), (226, 30, 30, ck_one 0), (235, 0, 11999, ck_one 0), (234, 0, 299, (0, 9, none))]), ([(226, 0, 0), (226, 17, 23), (226, 26, 26), (226, 29, 30), (235, 0, 29699), (236, 0, 299), (237, 0, 299)], []), [(.inr (some (.inl (ck_one (-1)))), 245, ([], [], [(226, 0, 0, ck_one 0), (226, 26, 26, ((-1), 2, none)), (226, 17, 17, (0, 2, none)), (226, 18, 18, (0, 39, none)), (226, 19, 19, (0, 299, none)), (226, 20, 20, ck_one 0), (226, 21, 21, ck_one 0), (226, 22, 22, ck_one 0), (226, 23, 23, ck_one 0), (226, 29, 29, ((-1), 0, none)), (226, 30, 30, ck_one 0), (237, 0, 299, (0, 99, none)), (236, 0, 299, (0, 39, none)), (235, 0, 11999, (0, 1, none))]))])
set_option maxRecDepth 100000 in
theorem p18x_8894_e : ck_ok p1_O none [] [(289, [p18x_154]), (283, [p18x_155, p18x_7233]), (287, [p18x_7232]), (260, [p18x_7234]), (267, [p18x_7235]), (326, [p18x_8884])] 328 [(46, [some (.inr (.inr (.inl 226))), some (.inl (0, 2, none)), some (.inl (1, 299, none)), some (.inl (0, 40, none)), none], ([], [], [(226, 0, 0, ck_one 0), (226, 26, 26, ((-1), 2, none)), (227, 11, 11, ck_one 2), (227, 10, 10, ck_one 10), (227, 1, 1, ck_one 40), (227, 0, 0, ck_one 3), (227, 2, 9, ck_one 0), (237, 0, 299, (0, 99, none)), (236, 0, 299, (0, 39, none)), (226, 17, 17, (0, 2, none)), (226, 18, 18, (0, 39, none)), (226, 19, 19, (0, 299, none)), (226, 20, 20, ck_one 0), (226, 21, 21, ck_one 0), (226, 22, 22, ck_one 0), (226, 23, 23, ck_one 0), (226, 29, 29, ((-1), 0, none)), (226, 30, 30, ck_one 0), (235, 0, 11999, (0, 1, none)), (234, 0, 299, (0, 9, none))]), 100, .inl 3, true)] 182 p18x_8894 = true := by decide +kernel
theorem p18x_8894_s {X : Int → Int} {LX : Nat} : ck_Ok p1_O X LX 328 p18x_8894 := ck_ok_s (ck_E1 (ck_S1 p18x_154_s ck_S0) (ck_E1 (ck_S1 p18x_155_s (ck_S1 p18x_7233_s ck_S0)) (ck_E1 (ck_S1 p18x_7232_s ck_S0) (ck_E1 (ck_S1 p18x_7234_s ck_S0) (ck_E1 (ck_S1 p18x_7235_s ck_S0) (ck_E1 (ck_S1 p18x_8884_s ck_S0) ck_E0)))))) ck_X0 ck_l0 p18x_8894_e
set_option maxRecDepth 100000 in
def p18x_8898 : ck_Sum := ((0, 0, 0), 245, [.inl (300, 2147483647, none), .inl (ck_one 1), .inl (ck_one 299)], ([], [], []), ([], []), [(.inr (some (.inl (ck_one 0))), 245, ([], [], []))])
set_option maxRecDepth 100000 in
theorem p18x_8898_e : ck_ok p1_O none [] [] 287 [] 86 p18x_8898 = true := by decide +kernel
theorem p18x_8898_s {X : Int → Int} {LX : Nat} : ck_Ok p1_O X LX 287 p18x_8898 := ck_ok_s (ck_E0) ck_X0 ck_l0 p18x_8898_e
set_option maxRecDepth 100000 in
def p18x_8899 : ck_Sum := ((2, 0, 0), 245, [.inr (.inr (.inl 226)), .inl (0, 2, none), .inl (300, 2147483647, none)], ([], [], [(227, 0, 0, ck_one 3)]), ([(226, 0, 0)], []), [(.inr (some (.inl (ck_one 0))), 245, ([], [], [(226, 0, 0, ck_one 2)]))])
set_option maxRecDepth 100000 in
theorem p18x_8899_e : ck_ok p1_O none [] [(289, [p18x_154]), (283, [p18x_155, p18x_157]), (287, [p18x_8898])] 328 [] 116 p18x_8899 = true := by decide +kernel
theorem p18x_8899_s {X : Int → Int} {LX : Nat} : ck_Ok p1_O X LX 328 p18x_8899 := ck_ok_s (ck_E1 (ck_S1 p18x_154_s ck_S0) (ck_E1 (ck_S1 p18x_155_s (ck_S1 p18x_157_s ck_S0)) (ck_E1 (ck_S1 p18x_8898_s ck_S0) ck_E0))) ck_X0 ck_l0 p18x_8899_e
set_option maxRecDepth 100000 in
def p18x_8904 : ck_Sum := ((0, 0, 0), 245, [.inl (3, 2147483647, none), .inl (ck_one 0), .inl (ck_one 2)], ([], [], []), ([], []), [(.inr (some (.inl (ck_one 0))), 245, ([], [], []))])
set_option maxRecDepth 100000 in
theorem p18x_8904_e : ck_ok p1_O none [] [] 287 [] 86 p18x_8904 = true := by decide +kernel
theorem p18x_8904_s {X : Int → Int} {LX : Nat} : ck_Ok p1_O X LX 287 p18x_8904 := ck_ok_s (ck_E0) ck_X0 ck_l0 p18x_8904_e
set_option maxRecDepth 100000 in
def p18x_8905 : ck_Sum := ((1, 0, 0), 245, [.inr (.inr (.inl 226)), .inl (3, 2147483647, none)], ([], [], [(227, 0, 0, ck_one 3)]), ([], []), [(.inr (some (.inl (ck_one 1))), 245, ([], [], []))])
set_option maxRecDepth 100000 in
theorem p18x_8905_e : ck_ok p1_O none [] [(262, [p18x_137]), (287, [p18x_8904])] 289 [] 92 p18x_8905 = true := by decide +kernel
theorem p18x_8905_s {X : Int → Int} {LX : Nat} : ck_Ok p1_O X LX 289 p18x_8905 := ck_ok_s (ck_E1 (ck_S1 p18x_137_s ck_S0) (ck_E1 (ck_S1 p18x_8904_s ck_S0) ck_E0)) ck_X0 ck_l0 p18x_8905_e
set_option maxRecDepth 100000 in
def p18x_8906 : ck_Sum := ((2, 0, 0), 245, [.inr (.inr (.inl 226)), .inl (3, 2147483647, none), .inl ((-2147483648), 0, none)], ([], [], [(227, 0, 0, ck_one 3)]), ([(226, 0, 0)], []), [(.inr (some (.inl (ck_one 0))), 245, ([], [], [(226, 0, 0, ck_one 1)]))])
set_option maxRecDepth 100000 in
theorem p18x_8906_e : ck_ok p1_O none [] [(289, [p18x_8905]), (283, [p18x_140])] 328 [] 94 p18x_8906 = true := by decide +kernel
theorem p18x_8906_s {X : Int → Int} {LX : Nat} : ck_Ok p1_O X LX 328 p18x_8906 := ck_ok_s (ck_E1 (ck_S1 p18x_8905_s ck_S0) (ck_E1 (ck_S1 p18x_140_s ck_S0) ck_E0)) ck_X0 ck_l0 p18x_8906_e
set_option maxRecDepth 100000 in
def p18x_8909 : ck_Sum := ((2, 0, 0), 245, [.inr (.inr (.inl 226)), .inl (3, 2147483647, none), .inl (1, 299, none)], ([], [], [(227, 0, 0, ck_one 3)]), ([(226, 0, 0)], []), [(.inr (some (.inl (ck_one 0))), 245, ([], [], [(226, 0, 0, ck_one 1)]))])
set_option maxRecDepth 100000 in
theorem p18x_8909_e : ck_ok p1_O none [] [(289, [p18x_8905]), (283, [p18x_140])] 328 [] 94 p18x_8909 = true := by decide +kernel
theorem p18x_8909_s {X : Int → Int} {LX : Nat} : ck_Ok p1_O X LX 328 p18x_8909 := ck_ok_s (ck_E1 (ck_S1 p18x_8905_s ck_S0) (ck_E1 (ck_S1 p18x_140_s ck_S0) ck_E0)) ck_X0 ck_l0 p18x_8909_e
set_option maxRecDepth 100000 in
def p18x_8912 : ck_Sum := ((2, 0, 0), 245, [.inr (.inr (.inl 226)), .inl (3, 2147483647, none), .inl (300, 2147483647, none)], ([], [], [(227, 0, 0, ck_one 3)]), ([(226, 0, 0)], []), [(.inr (some (.inl (ck_one 0))), 245, ([], [], [(226, 0, 0, ck_one 1)]))])
set_option maxRecDepth 100000 in
theorem p18x_8912_e : ck_ok p1_O none [] [(289, [p18x_8905]), (283, [p18x_140])] 328 [] 94 p18x_8912 = true := by decide +kernel
theorem p18x_8912_s {X : Int → Int} {LX : Nat} : ck_Ok p1_O X LX 328 p18x_8912 := ck_ok_s (ck_E1 (ck_S1 p18x_8905_s ck_S0) (ck_E1 (ck_S1 p18x_140_s ck_S0) ck_E0)) ck_X0 ck_l0 p18x_8912_e
set_option maxRecDepth 100000 in
def p18x_142 : ck_Sum := ((0, 0, 0), 245, [.inr (.inr (.inl 226))], ([], [], [(226, 0, 0, ck_one 1)]), ([], []), [(.inr (some (.inl (ck_one 1))), 245, ([], [], []))])
set_option maxRecDepth 100000 in
theorem p18x_142_e : ck_ok p1_O none [] [] 234 [] 76 p18x_142 = true := by decide +kernel
theorem p18x_142_s {X : Int → Int} {LX : Nat} : ck_Ok p1_O X LX 234 p18x_142 := ck_ok_s (ck_E0) ck_X0 ck_l0 p18x_142_e
set_option maxRecDepth 100000 in
def p18x_159 : ck_Sum := ((0, 0, 0), 245, [.inr (.inr (.inl 226))], ([], [], [(226, 0, 0, ck_one 2)]), ([], []), [(.inr (some (.inl (ck_one 2))), 245, ([], [], []))])
set_option maxRecDepth 100000 in
theorem p18x_159_e : ck_ok p1_O none [] [] 234 [] 76 p18x_159 = true := by decide +kernel
theorem p18x_159_s {X : Int → Int} {LX : Nat} : ck_Ok p1_O X LX 234 p18x_159 := ck_ok_s (ck_E0) ck_X0 ck_l0 p18x_159_e
set_option maxRecDepth 100000 in
def p18x_8895 : ck_Sum := ((0, 0, 0), 245, [.inr (.inr (.inl 226))], ([], [], [(226, 0, 0, ck_one 0)]), ([], []), [(.inr (some (.inl (ck_one 0))), 245, ([], [], []))])
set_option maxRecDepth 100000 in
theorem p18x_8895_e : ck_ok p1_O none [] [] 234 [] 76 p18x_8895 = true := by decide +kernel
theorem p18x_8895_s {X : Int → Int} {LX : Nat} : ck_Ok p1_O X LX 234 p18x_8895 := ck_ok_s (ck_E0) ck_X0 ck_l0 p18x_8895_e
set_option maxRecDepth 100000 in
def p18_F : ck_F := ([], [(3, 8, 0), (16, 8, 0), (29, 8, 0), (44, 8, 0), (57, 8, 0), (70, 8, 0), (83, 8, 0), (96, 8, 0), (109, 8, 0), (122, 8, 0), (135, 8, 0), (148, 8, 0), (161, 8, 0), (174, 8, 0), (187, 8, 0)], [(245, 0, 0, ck_one 0), (226, 26, 26, ck_one (-1)), (227, 11, 11, ck_one 2), (227, 10, 10, ck_one 10), (227, 1, 1, ck_one 40), (227, 0, 0, ck_one 3), (227, 2, 9, ck_one 0), (237, 0, 299, ck_one 0), (236, 0, 299, ck_one 0), (226, 0, 0, ck_one 0), (226, 17, 17, ck_one 0), (226, 18, 18, ck_one 0), (226, 19, 19, ck_one 0), (226, 20, 20, ck_one 0), (226, 21, 21, ck_one 0), (226, 22, 22, ck_one 0), (226, 23, 23, ck_one 0), (226, 29, 29, ck_one 0), (226, 30, 30, ck_one 0), (206, 8, 8, ck_one 0), (206, 7, 7, ck_one 0), (206, 6, 6, ck_one 0), (206, 5, 5, ck_one 0), (206, 4, 4, ck_one (-1)), (206, 3, 3, ck_one 0), (206, 2, 2, ck_one 0), (3, 6, 6, ck_one 0), (3, 3, 3, ck_one 2), (3, 2, 2, ck_one 10), (3, 1, 1, ck_one 40), (3, 0, 0, ck_one 3), (203, 0, 299, ck_one 0), (202, 0, 593, ck_one 0), (235, 0, 11999, ck_one 0), (234, 0, 299, (0, 9, none)), (201, 0, 299, (0, 9, none))])
def p18_E : List (Nat × List ck_Sum) := [(171, [p18x_136, p18x_144, p18x_147, p18x_152, p18x_7231, p18x_8897, p18x_8903, p18x_8908, p18x_8911]), (328, [p18x_141, p18x_145, p18x_148, p18x_158, p18x_8894, p18x_8899, p18x_8906, p18x_8909, p18x_8912]), (234, [p18x_142, p18x_159, p18x_8895])]
theorem p18_h {X : Int → Int} {LX : Nat} : ck_OkE p1_O X LX p18_E := ck_E1 (ck_S1 p18x_136_s (ck_S1 p18x_144_s (ck_S1 p18x_147_s (ck_S1 p18x_152_s (ck_S1 p18x_7231_s (ck_S1 p18x_8897_s (ck_S1 p18x_8903_s (ck_S1 p18x_8908_s (ck_S1 p18x_8911_s ck_S0))))))))) (ck_E1 (ck_S1 p18x_141_s (ck_S1 p18x_145_s (ck_S1 p18x_148_s (ck_S1 p18x_158_s (ck_S1 p18x_8894_s (ck_S1 p18x_8899_s (ck_S1 p18x_8906_s (ck_S1 p18x_8909_s (ck_S1 p18x_8912_s ck_S0))))))))) (ck_E1 (ck_S1 p18x_142_s (ck_S1 p18x_159_s (ck_S1 p18x_8895_s ck_S0))) ck_E0))
set_option maxRecDepth 100000 in
theorem p18_b : (ck_prod [(1, [((-2147483648), (-1)), (0, 2), (3, 2147483647)]), (2, [((-2147483648), 0), (1, 299), (300, 2147483647)])]).all (fun xf => ck_go p1_O (some 6) xf p18_E 370 280 245 p1_W p1_outs [] 152 false [] 1000 2000 1327 p1_L [] 245 p18_F) = true := by decide +kernel
theorem p18_s {X : Int → Int} {LX : Nat} (hLX : 6 = LX) (hX : ∀ j, gm_ir (X j)) {σ : Nat → Int} {L : gm_L} {K0 K : gm_K} {R0 R : gm_R} {M0 M : gm_M} (hS : ck_St p1_O σ p1_W 245 K0 R0 M0 p1_L [] p18_F L [] 245 K R M) : gm_Wp X LX 280 1000 2000 370 1327 L [] 245 K R M (ck_Q p1_O σ p1_W 245 K0 R0 M0 p1_outs) := ck_boxes p18_h hLX hX (by decide +kernel) p18_b hS
