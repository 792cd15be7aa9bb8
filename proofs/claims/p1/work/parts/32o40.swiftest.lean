/-! swiftest, on a new object: laid by wip/am/p1g.py. -/
set_option maxRecDepth 100000 in
def p40x_133 : ck_Sum := ((6, 1, 6), 245, [.inr (.inr (.inl 1)), .inl ((-2147483648), (-1), none), .inl (ck_one 40)], ([], [], []), ([], []), [(.inl 3, 245, ([], [], []))])
set_option maxRecDepth 100000 in
theorem p40x_133_e : ck_ok p1_O none [] [] 133 [] 76 p40x_133 = true := by decide +kernel
theorem p40x_133_s {X : Int → Int} {LX : Nat} : ck_Ok p1_O X LX 133 p40x_133 := ck_ok_s (ck_E0) ck_X0 ck_l0 p40x_133_e
set_option maxRecDepth 100000 in
def p40x_134 : ck_Sum := ((7, 1, 6), 245, [.inr (.inr (.inl 1)), .inl ((-2147483648), (-1), none)], ([], [], [(3, 1, 1, ck_one 40)]), ([], []), [(.inl 3, 245, ([], [], []))])
set_option maxRecDepth 100000 in
theorem p40x_134_e : ck_ok p1_O none [] [(133, [p40x_133])] 134 [] 82 p40x_134 = true := by decide +kernel
theorem p40x_134_s {X : Int → Int} {LX : Nat} : ck_Ok p1_O X LX 134 p40x_134 := ck_ok_s (ck_E1 (ck_S1 p40x_133_s ck_S0) ck_E0) ck_X0 ck_l0 p40x_134_e
set_option maxRecDepth 100000 in
def p40x_135 : ck_Sum := ((8, 1, 6), 245, [.inr (.inr (.inl 1)), .inl ((-2147483648), (-1), none), .inl ((-2147483648), (-1), none)], ([], [], [(3, 1, 1, ck_one 40)]), ([], []), [(.inl 3, 245, ([], [], []))])
set_option maxRecDepth 100000 in
theorem p40x_135_e : ck_ok p1_O none [] [(134, [p40x_134])] 229 [] 76 p40x_135 = true := by decide +kernel
theorem p40x_135_s {X : Int → Int} {LX : Nat} : ck_Ok p1_O X LX 229 p40x_135 := ck_ok_s (ck_E1 (ck_S1 p40x_134_s ck_S0) ck_E0) ck_X0 ck_l0 p40x_135_e
set_option maxRecDepth 100000 in
def p40x_136 : ck_Sum := ((9, 1, 6), 245, [.inr (.inr (.inl 1)), .inl ((-2147483648), (-1), none), .inl ((-2147483648), (-1), none), .inr (.inr (.inl 245))], ([], [], [(3, 1, 1, ck_one 40)]), ([], []), [(.inr (some (.inl (ck_one 1))), 245, ([], [], []))])
set_option maxRecDepth 100000 in
theorem p40x_136_e : ck_ok p1_O none [] [(229, [p40x_135])] 228 [] 88 p40x_136 = true := by decide +kernel
theorem p40x_136_s {X : Int → Int} {LX : Nat} : ck_Ok p1_O X LX 228 p40x_136 := ck_ok_s (ck_E1 (ck_S1 p40x_135_s ck_S0) ck_E0) ck_X0 ck_l0 p40x_136_e
set_option maxRecDepth 100000 in
def p40x_143 : ck_Sum := ((8, 1, 6), 245, [.inr (.inr (.inl 1)), .inl ((-2147483648), (-1), none), .inl (0, 299, none)], ([], [], [(3, 1, 1, ck_one 40)]), ([], []), [(.inl 3, 245, ([], [], []))])
set_option maxRecDepth 100000 in
theorem p40x_143_e : ck_ok p1_O none [] [(134, [p40x_134])] 229 [] 76 p40x_143 = true := by decide +kernel
theorem p40x_143_s {X : Int → Int} {LX : Nat} : ck_Ok p1_O X LX 229 p40x_143 := ck_ok_s (ck_E1 (ck_S1 p40x_134_s ck_S0) ck_E0) ck_X0 ck_l0 p40x_143_e
set_option maxRecDepth 100000 in
def p40x_144 : ck_Sum := ((9, 1, 6), 245, [.inr (.inr (.inl 1)), .inl ((-2147483648), (-1), none), .inl (0, 299, none), .inr (.inr (.inl 245))], ([], [], [(3, 1, 1, ck_one 40)]), ([], []), [(.inr (some (.inl (ck_one 1))), 245, ([], [], []))])
set_option maxRecDepth 100000 in
theorem p40x_144_e : ck_ok p1_O none [] [(229, [p40x_143])] 228 [] 88 p40x_144 = true := by decide +kernel
theorem p40x_144_s {X : Int → Int} {LX : Nat} : ck_Ok p1_O X LX 228 p40x_144 := ck_ok_s (ck_E1 (ck_S1 p40x_143_s ck_S0) ck_E0) ck_X0 ck_l0 p40x_144_e
set_option maxRecDepth 100000 in
def p40x_146 : ck_Sum := ((8, 1, 6), 245, [.inr (.inr (.inl 1)), .inl ((-2147483648), (-1), none), .inl (300, 2147483647, none)], ([], [], [(3, 1, 1, ck_one 40)]), ([], []), [(.inl 3, 245, ([], [], []))])
set_option maxRecDepth 100000 in
theorem p40x_146_e : ck_ok p1_O none [] [(134, [p40x_134])] 229 [] 76 p40x_146 = true := by decide +kernel
theorem p40x_146_s {X : Int → Int} {LX : Nat} : ck_Ok p1_O X LX 229 p40x_146 := ck_ok_s (ck_E1 (ck_S1 p40x_134_s ck_S0) ck_E0) ck_X0 ck_l0 p40x_146_e
set_option maxRecDepth 100000 in
def p40x_147 : ck_Sum := ((9, 1, 6), 245, [.inr (.inr (.inl 1)), .inl ((-2147483648), (-1), none), .inl (300, 2147483647, none), .inr (.inr (.inl 245))], ([], [], [(3, 1, 1, ck_one 40)]), ([], []), [(.inr (some (.inl (ck_one 1))), 245, ([], [], []))])
set_option maxRecDepth 100000 in
theorem p40x_147_e : ck_ok p1_O none [] [(229, [p40x_146])] 228 [] 88 p40x_147 = true := by decide +kernel
theorem p40x_147_s {X : Int → Int} {LX : Nat} : ck_Ok p1_O X LX 228 p40x_147 := ck_ok_s (ck_E1 (ck_S1 p40x_146_s ck_S0) ck_E0) ck_X0 ck_l0 p40x_147_e
set_option maxRecDepth 100000 in
def p40x_149 : ck_Sum := ((0, 0, 0), 245, [.inr (.inr (.inl 1)), .inl (0, 39, none), .inl (ck_one 40)], ([], [], []), ([], []), [(.inr none, 245, ([], [], []))])
set_option maxRecDepth 100000 in
theorem p40x_149_e : ck_ok p1_O none [] [] 133 [] 82 p40x_149 = true := by decide +kernel
theorem p40x_149_s {X : Int → Int} {LX : Nat} : ck_Ok p1_O X LX 133 p40x_149 := ck_ok_s (ck_E0) ck_X0 ck_l0 p40x_149_e
set_option maxRecDepth 100000 in
def p40x_150 : ck_Sum := ((1, 0, 0), 245, [.inr (.inr (.inl 1)), .inl (0, 39, none)], ([], [], [(3, 1, 1, ck_one 40)]), ([], []), [(.inr none, 245, ([], [], []))])
set_option maxRecDepth 100000 in
theorem p40x_150_e : ck_ok p1_O none [] [(133, [p40x_149])] 134 [] 84 p40x_150 = true := by decide +kernel
theorem p40x_150_s {X : Int → Int} {LX : Nat} : ck_Ok p1_O X LX 134 p40x_150 := ck_ok_s (ck_E1 (ck_S1 p40x_149_s ck_S0) ck_E0) ck_X0 ck_l0 p40x_150_e
set_option maxRecDepth 100000 in
def p40x_151 : ck_Sum := ((6, 1, 6), 245, [.inr (.inr (.inl 1)), .inl ((-2147483648), (-1), none)], ([], [], []), ([], []), [(.inl 0, 245, ([], [], []))])
set_option maxRecDepth 100000 in
theorem p40x_151_e : ck_ok p1_O none [] [] 129 [] 76 p40x_151 = true := by decide +kernel
theorem p40x_151_s {X : Int → Int} {LX : Nat} : ck_Ok p1_O X LX 129 p40x_151 := ck_ok_s (ck_E0) ck_X0 ck_l0 p40x_151_e
set_option maxRecDepth 100000 in
def p40x_152 : ck_Sum := ((7, 1, 6), 245, [.inr (.inr (.inl 1)), .inl (0, 39, none), .inl ((-2147483648), (-1), none)], ([], [], [(3, 1, 1, ck_one 40)]), ([], []), [(.inl 0, 245, ([], [], []))])
set_option maxRecDepth 100000 in
theorem p40x_152_e : ck_ok p1_O none [] [(134, [p40x_150]), (129, [p40x_151])] 229 [] 82 p40x_152 = true := by decide +kernel
theorem p40x_152_s {X : Int → Int} {LX : Nat} : ck_Ok p1_O X LX 229 p40x_152 := ck_ok_s (ck_E1 (ck_S1 p40x_150_s ck_S0) (ck_E1 (ck_S1 p40x_151_s ck_S0) ck_E0)) ck_X0 ck_l0 p40x_152_e
set_option maxRecDepth 100000 in
def p40x_153 : ck_Sum := ((8, 1, 6), 245, [.inr (.inr (.inl 1)), .inl (0, 39, none), .inl ((-2147483648), (-1), none), .inr (.inr (.inl 245))], ([], [], [(3, 1, 1, ck_one 40)]), ([], []), [(.inr (some (.inl (ck_one 2))), 245, ([], [], []))])
set_option maxRecDepth 100000 in
theorem p40x_153_e : ck_ok p1_O none [] [(229, [p40x_152])] 228 [] 88 p40x_153 = true := by decide +kernel
theorem p40x_153_s {X : Int → Int} {LX : Nat} : ck_Ok p1_O X LX 228 p40x_153 := ck_ok_s (ck_E1 (ck_S1 p40x_152_s ck_S0) ck_E0) ck_X0 ck_l0 p40x_153_e
set_option maxRecDepth 100000 in
def p40x_162 : ck_Sum := ((0, 0, 0), 245, [.inr (.inr (.inl 1)), .inl (0, 299, none)], ([], [], []), ([], []), [(.inr none, 245, ([], [], []))])
set_option maxRecDepth 100000 in
theorem p40x_162_e : ck_ok p1_O none [] [] 129 [] 82 p40x_162 = true := by decide +kernel
theorem p40x_162_s {X : Int → Int} {LX : Nat} : ck_Ok p1_O X LX 129 p40x_162 := ck_ok_s (ck_E0) ck_X0 ck_l0 p40x_162_e
set_option maxRecDepth 100000 in
def p40x_440 : ck_Sum := ((0, 0, 0), 245, [.inr (.inr (.inl 206)), .inl (0, 2, none), .inl (0, 39, none), .inl (0, 299, none), .inl (ck_one 0)], ([], [], []), ([(206, 2, 8)], []), [(.inr none, 245, ([], [], [(206, 8, 8, ck_one 0), (206, 6, 6, ck_one 0), (206, 4, 4, ck_one (-1)), (206, 3, 3, ck_one 0), (206, 7, 7, (0, 299, none)), (206, 5, 5, (0, 39, none)), (206, 2, 2, (0, 2, none))]))])
set_option maxRecDepth 100000 in
theorem p40x_440_e : ck_ok p1_O none [] [] 29 [] 114 p40x_440 = true := by decide +kernel
theorem p40x_440_s {X : Int → Int} {LX : Nat} : ck_Ok p1_O X LX 29 p40x_440 := ck_ok_s (ck_E0) ck_X0 ck_l0 p40x_440_e
set_option maxRecDepth 100000 in
def p40x_164 : ck_Sum := ((0, 0, 0), 245, [.inr (.inr (.inl 206))], ([], [], [(206, 5, 5, (0, 39, none)), (3, 1, 1, ck_one 40)]), ([], []), [(.inr (some (.inl (ck_one 0))), 245, ([], [], []))])
set_option maxRecDepth 100000 in
theorem p40x_164_e : ck_ok p1_O none [] [] 31 [] 86 p40x_164 = true := by decide +kernel
theorem p40x_164_s {X : Int → Int} {LX : Nat} : ck_Ok p1_O X LX 31 p40x_164 := ck_ok_s (ck_E0) ck_X0 ck_l0 p40x_164_e
set_option maxRecDepth 100000 in
def p40x_358 : ck_Sum := ((0, 0, 0), 245, [.inr (.inr (.inl 200)), .inl ((-2147483648), 2147483647, none)], ([], [], []), ([], []), [(.inr (some (.inl ((-2147483648), 2147483647, none))), 245, ([], [], []))])
set_option maxRecDepth 100000 in
theorem p40x_358_e : ck_ok p1_O none [] [] 34 [] 92 p40x_358 = true := by decide +kernel
theorem p40x_358_s {X : Int → Int} {LX : Nat} : ck_Ok p1_O X LX 34 p40x_358 := ck_ok_s (ck_E0) ck_X0 ck_l0 p40x_358_e
set_option maxRecDepth 100000 in
def p40x_359 : ck_Sum := ((1, 0, 0), 245, [.inr (.inr (.inl 206))], ([], [], [(206, 3, 3, ck_one 0), (206, 5, 5, (0, 39, none)), (3, 3, 3, ck_one 2), (3, 2, 2, ck_one 10)]), ([], []), [(.inr (some (.inl ((-2147483648), 2147483647, none))), 245, ([], [], []))])
set_option maxRecDepth 100000 in
theorem p40x_359_e : ck_ok p1_O none [] [(34, [p40x_358])] 33 [] 110 p40x_359 = true := by decide +kernel
theorem p40x_359_s {X : Int → Int} {LX : Nat} : ck_Ok p1_O X LX 33 p40x_359 := ck_ok_s (ck_E1 (ck_S1 p40x_358_s ck_S0) ck_E0) ck_X0 ck_l0 p40x_359_e
set_option maxRecDepth 100000 in
def p40x_441 : ck_Sum := ((0, 0, 0), 245, [.inr (.inr (.inl 200)), .inl (0, 2, none), .inl (0, 39, none)], ([], [], [(202, 0, 593, ck_one 0)]), ([], []), [(.inr (some (.inl (ck_one 0))), 245, ([], [], []))])
set_option maxRecDepth 100000 in
theorem p40x_441_e : ck_ok p1_O none [] [] 36 [] 108 p40x_441 = true := by decide +kernel
theorem p40x_441_s {X : Int → Int} {LX : Nat} : ck_Ok p1_O X LX 36 p40x_441 := ck_ok_s (ck_E0) ck_X0 ck_l0 p40x_441_e
set_option maxRecDepth 100000 in
def p40x_506 : ck_Sum := ((1, 0, 0), 245, [.inr (.inr (.inl 200)), .inl (0, 2, none), .inl (0, 39, none), .inl ((-2147483648), 2147483647, none)], ([], [(3, 8, 0)], [(202, 0, 593, ck_one 0)]), ([], []), [(.inr (some (.inl (ck_one 0))), 245, ([], [], []))])
set_option maxRecDepth 100000 in
theorem p40x_506_e : ck_ok p1_O none [] [(36, [p40x_441])] 35 [] 92 p40x_506 = true := by decide +kernel
theorem p40x_506_s {X : Int → Int} {LX : Nat} : ck_Ok p1_O X LX 35 p40x_506 := ck_ok_s (ck_E1 (ck_S1 p40x_441_s ck_S0) ck_E0) ck_X0 ck_l0 p40x_506_e
set_option maxRecDepth 100000 in
def p40x_361 : ck_Sum := ((0, 0, 0), 245, [.inr (.inr (.inl 200)), .inl ((-2147483648), 2147483647, none)], ([], [], [(203, 0, 299, ck_one 0)]), ([], []), [(.inr (some (.inl (ck_one 0))), 245, ([], [], []))])
set_option maxRecDepth 100000 in
theorem p40x_361_e : ck_ok p1_O none [] [] 44 [] 92 p40x_361 = true := by decide +kernel
theorem p40x_361_s {X : Int → Int} {LX : Nat} : ck_Ok p1_O X LX 44 p40x_361 := ck_ok_s (ck_E0) ck_X0 ck_l0 p40x_361_e
set_option maxRecDepth 100000 in
def p40x_362 : ck_Sum := ((1, 0, 0), 245, [.inr (.inr (.inl 206))], ([], [], [(203, 0, 299, ck_one 0)]), ([], []), [(.inr none, 245, ([], [], []))])
set_option maxRecDepth 100000 in
theorem p40x_362_e : ck_ok p1_O none [] [(44, [p40x_361])] 43 [(22, [some (.inr (.inr (.inl 206))), some (.inr (.inr (.inl 6))), some (.inl (ck_one 0)), some (.inl (ck_one 0)), none], ([], [], [(203, 0, 299, ck_one 0)]), 100, .inl 3, true)] 142 p40x_362 = true := by decide +kernel
theorem p40x_362_s {X : Int → Int} {LX : Nat} : ck_Ok p1_O X LX 43 p40x_362 := ck_ok_s (ck_E1 (ck_S1 p40x_361_s ck_S0) ck_E0) ck_X0 ck_l0 p40x_362_e
set_option maxRecDepth 100000 in
def p40x_507 : ck_Sum := ((2, 0, 0), 245, [.inr (.inr (.inl 206))], ([], [(3, 8, 0)], [(206, 3, 3, ck_one 0), (206, 5, 5, (0, 39, none)), (206, 2, 2, (0, 2, none)), (3, 3, 3, ck_one 2), (3, 2, 2, ck_one 10), (3, 1, 1, ck_one 40), (203, 0, 299, ck_one 0), (202, 0, 593, ck_one 0)]), ([(206, 5, 7)], []), [(.inr none, 245, ([], [], [(206, 5, 5, (0, 39, none))]))])
set_option maxRecDepth 100000 in
theorem p40x_507_e : ck_ok p1_O none [] [(31, [p40x_164]), (33, [p40x_359]), (35, [p40x_506]), (43, [p40x_362])] 32 [] 134 p40x_507 = true := by decide +kernel
theorem p40x_507_s {X : Int → Int} {LX : Nat} : ck_Ok p1_O X LX 32 p40x_507 := ck_ok_s (ck_E1 (ck_S1 p40x_164_s ck_S0) (ck_E1 (ck_S1 p40x_359_s ck_S0) (ck_E1 (ck_S1 p40x_506_s ck_S0) (ck_E1 (ck_S1 p40x_362_s ck_S0) ck_E0)))) ck_X0 ck_l0 p40x_507_e
set_option maxRecDepth 100000 in
def p40x_510 : ck_Sum := ((3, 0, 0), 245, [.inr (.inr (.inl 206)), .inl (ck_one 299)], ([], [(3, 8, 0)], [(206, 3, 3, ck_one 0), (206, 7, 7, (0, 299, none)), (206, 5, 5, (0, 39, none)), (206, 2, 2, (0, 2, none)), (3, 3, 3, ck_one 2), (3, 2, 2, ck_one 10), (3, 1, 1, ck_one 40), (203, 0, 299, ck_one 0), (202, 0, 593, ck_one 0)]), ([(206, 5, 7)], []), [(.inr (some (.inl (ck_one (-1)))), 245, ([], [], [(206, 5, 5, (0, 39, none))]))])
set_option maxRecDepth 100000 in
theorem p40x_510_e : ck_ok p1_O none [] [(31, [p40x_164]), (32, [p40x_507])] 30 [(5, [some (.inr (.inr (.inl 206))), some (.inl (ck_one 299)), some (.inl (0, 300, none))], ([], [(3, 8, 0)], [(206, 3, 3, ck_one 0), (206, 5, 5, (0, 39, none)), (206, 2, 2, (0, 2, none)), (3, 3, 3, ck_one 2), (3, 2, 2, ck_one 10), (3, 1, 1, ck_one 40), (203, 0, 299, ck_one 0), (202, 0, 593, ck_one 0)]), 100, .inl 2, true)] 134 p40x_510 = true := by decide +kernel
theorem p40x_510_s {X : Int → Int} {LX : Nat} : ck_Ok p1_O X LX 30 p40x_510 := ck_ok_s (ck_E1 (ck_S1 p40x_164_s ck_S0) (ck_E1 (ck_S1 p40x_507_s ck_S0) ck_E0)) ck_X0 ck_l0 p40x_510_e
set_option maxRecDepth 100000 in
def p40x_511 : ck_Sum := ((4, 0, 0), 245, [.inr (.inr (.inl 1)), .inl (0, 39, none), .inl (0, 299, none)], ([], [(3, 8, 0)], [(206, 8, 8, ck_one 0), (206, 7, 7, ck_one 0), (206, 5, 5, ck_one 0), (206, 4, 4, ck_one (-1)), (206, 3, 3, ck_one 0), (206, 2, 2, ck_one 0), (3, 3, 3, ck_one 2), (3, 2, 2, ck_one 10), (3, 1, 1, ck_one 40), (3, 0, 0, ck_one 3), (203, 0, 299, ck_one 0), (202, 0, 593, ck_one 0)]), ([(206, 2, 8)], []), [(.inr (some (.inl (ck_one (-1)))), 245, ([], [], [(206, 8, 8, ck_one 0), (206, 5, 5, (0, 39, none)), (206, 4, 4, ck_one (-1)), (206, 3, 3, ck_one 0), (206, 2, 2, (0, 2, none))]))])
set_option maxRecDepth 100000 in
theorem p40x_511_e : ck_ok p1_O none [] [(134, [p40x_150]), (129, [p40x_162]), (29, [p40x_440]), (30, [p40x_510])] 229 [(20, [some (.inr (.inr (.inl 1))), some (.inl (0, 39, none)), some (.inl (0, 299, none)), some (.inl (ck_one (-1))), some (.inl (ck_one 300)), some (.inl (0, 3, none)), none], ([], [(3, 8, 0)], [(206, 8, 8, ck_one 0), (206, 5, 5, (0, 39, none)), (206, 4, 4, ck_one (-1)), (206, 3, 3, ck_one 0), (206, 2, 2, (0, 2, none)), (3, 3, 3, ck_one 2), (3, 2, 2, ck_one 10), (3, 1, 1, ck_one 40), (3, 0, 0, ck_one 3), (203, 0, 299, ck_one 0), (202, 0, 593, ck_one 0)]), 100, .inl 5, true)] 182 p40x_511 = true := by decide +kernel
theorem p40x_511_s {X : Int → Int} {LX : Nat} : ck_Ok p1_O X LX 229 p40x_511 := ck_ok_s (ck_E1 (ck_S1 p40x_150_s ck_S0) (ck_E1 (ck_S1 p40x_162_s ck_S0) (ck_E1 (ck_S1 p40x_440_s ck_S0) (ck_E1 (ck_S1 p40x_510_s ck_S0) ck_E0)))) ck_X0 ck_l0 p40x_511_e
set_option maxRecDepth 100000 in
def p40x_512 : ck_Sum := ((5, 0, 0), 245, [.inr (.inr (.inl 1)), .inl (0, 39, none), .inl (0, 299, none), .inr (.inr (.inl 245))], ([], [(3, 8, 0)], [(206, 8, 8, ck_one 0), (206, 7, 7, ck_one 0), (206, 5, 5, ck_one 0), (206, 4, 4, ck_one (-1)), (206, 3, 3, ck_one 0), (206, 2, 2, ck_one 0), (3, 3, 3, ck_one 2), (3, 2, 2, ck_one 10), (3, 1, 1, ck_one 40), (3, 0, 0, ck_one 3), (203, 0, 299, ck_one 0), (202, 0, 593, ck_one 0)]), ([(206, 2, 8), (245, 0, 0)], []), [(.inr (some (.inl (ck_one 0))), 245, ([], [], [(245, 0, 0, ck_one (-1)), (206, 8, 8, ck_one 0), (206, 5, 5, (0, 39, none)), (206, 4, 4, ck_one (-1)), (206, 3, 3, ck_one 0), (206, 2, 2, (0, 2, none))]))])
set_option maxRecDepth 100000 in
theorem p40x_512_e : ck_ok p1_O none [] [(229, [p40x_511])] 228 [] 92 p40x_512 = true := by decide +kernel
theorem p40x_512_s {X : Int → Int} {LX : Nat} : ck_Ok p1_O X LX 228 p40x_512 := ck_ok_s (ck_E1 (ck_S1 p40x_511_s ck_S0) ck_E0) ck_X0 ck_l0 p40x_512_e
set_option maxRecDepth 100000 in
def p40x_642 : ck_Sum := ((6, 1, 6), 245, [.inr (.inr (.inl 1)), .inl (300, 2147483647, none)], ([], [], []), ([], []), [(.inl 0, 245, ([], [], []))])
set_option maxRecDepth 100000 in
theorem p40x_642_e : ck_ok p1_O none [] [] 129 [] 82 p40x_642 = true := by decide +kernel
theorem p40x_642_s {X : Int → Int} {LX : Nat} : ck_Ok p1_O X LX 129 p40x_642 := ck_ok_s (ck_E0) ck_X0 ck_l0 p40x_642_e
set_option maxRecDepth 100000 in
def p40x_643 : ck_Sum := ((7, 1, 6), 245, [.inr (.inr (.inl 1)), .inl (0, 39, none), .inl (300, 2147483647, none)], ([], [], [(3, 1, 1, ck_one 40)]), ([], []), [(.inl 0, 245, ([], [], []))])
set_option maxRecDepth 100000 in
theorem p40x_643_e : ck_ok p1_O none [] [(134, [p40x_150]), (129, [p40x_642])] 229 [] 82 p40x_643 = true := by decide +kernel
theorem p40x_643_s {X : Int → Int} {LX : Nat} : ck_Ok p1_O X LX 229 p40x_643 := ck_ok_s (ck_E1 (ck_S1 p40x_150_s ck_S0) (ck_E1 (ck_S1 p40x_642_s ck_S0) ck_E0)) ck_X0 ck_l0 p40x_643_e
set_option maxRecDepth 100000 in
def p40x_644 : ck_Sum := ((8, 1, 6), 245, [.inr (.inr (.inl 1)), .inl (0, 39, none), .inl (300, 2147483647, none), .inr (.inr (.inl 245))], ([], [], [(3, 1, 1, ck_one 40)]), ([], []), [(.inr (some (.inl (ck_one 2))), 245, ([], [], []))])
set_option maxRecDepth 100000 in
theorem p40x_644_e : ck_ok p1_O none [] [(229, [p40x_643])] 228 [] 88 p40x_644 = true := by decide +kernel
theorem p40x_644_s {X : Int → Int} {LX : Nat} : ck_Ok p1_O X LX 228 p40x_644 := ck_ok_s (ck_E1 (ck_S1 p40x_643_s ck_S0) ck_E0) ck_X0 ck_l0 p40x_644_e
set_option maxRecDepth 100000 in
def p40x_648 : ck_Sum := ((6, 1, 6), 245, [.inr (.inr (.inl 1)), .inl (40, 2147483647, none), .inl (ck_one 40)], ([], [], []), ([], []), [(.inl 3, 245, ([], [], []))])
set_option maxRecDepth 100000 in
theorem p40x_648_e : ck_ok p1_O none [] [] 133 [] 82 p40x_648 = true := by decide +kernel
theorem p40x_648_s {X : Int → Int} {LX : Nat} : ck_Ok p1_O X LX 133 p40x_648 := ck_ok_s (ck_E0) ck_X0 ck_l0 p40x_648_e
set_option maxRecDepth 100000 in
def p40x_649 : ck_Sum := ((7, 1, 6), 245, [.inr (.inr (.inl 1)), .inl (40, 2147483647, none)], ([], [], [(3, 1, 1, ck_one 40)]), ([], []), [(.inl 3, 245, ([], [], []))])
set_option maxRecDepth 100000 in
theorem p40x_649_e : ck_ok p1_O none [] [(133, [p40x_648])] 134 [] 82 p40x_649 = true := by decide +kernel
theorem p40x_649_s {X : Int → Int} {LX : Nat} : ck_Ok p1_O X LX 134 p40x_649 := ck_ok_s (ck_E1 (ck_S1 p40x_648_s ck_S0) ck_E0) ck_X0 ck_l0 p40x_649_e
set_option maxRecDepth 100000 in
def p40x_650 : ck_Sum := ((8, 1, 6), 245, [.inr (.inr (.inl 1)), .inl (40, 2147483647, none), .inl ((-2147483648), (-1), none)], ([], [], [(3, 1, 1, ck_one 40)]), ([], []), [(.inl 3, 245, ([], [], []))])
set_option maxRecDepth 100000 in
theorem p40x_650_e : ck_ok p1_O none [] [(134, [p40x_649])] 229 [] 76 p40x_650 = true := by decide +kernel
theorem p40x_650_s {X : Int → Int} {LX : Nat} : ck_Ok p1_O X LX 229 p40x_650 := ck_ok_s (ck_E1 (ck_S1 p40x_649_s ck_S0) ck_E0) ck_X0 ck_l0 p40x_650_e
set_option maxRecDepth 100000 in
def p40x_651 : ck_Sum := ((9, 1, 6), 245, [.inr (.inr (.inl 1)), .inl (40, 2147483647, none), .inl ((-2147483648), (-1), none), .inr (.inr (.inl 245))], ([], [], [(3, 1, 1, ck_one 40)]), ([], []), [(.inr (some (.inl (ck_one 1))), 245, ([], [], []))])
set_option maxRecDepth 100000 in
theorem p40x_651_e : ck_ok p1_O none [] [(229, [p40x_650])] 228 [] 88 p40x_651 = true := by decide +kernel
theorem p40x_651_s {X : Int → Int} {LX : Nat} : ck_Ok p1_O X LX 228 p40x_651 := ck_ok_s (ck_E1 (ck_S1 p40x_650_s ck_S0) ck_E0) ck_X0 ck_l0 p40x_651_e
set_option maxRecDepth 100000 in
def p40x_655 : ck_Sum := ((8, 1, 6), 245, [.inr (.inr (.inl 1)), .inl (40, 2147483647, none), .inl (0, 299, none)], ([], [], [(3, 1, 1, ck_one 40)]), ([], []), [(.inl 3, 245, ([], [], []))])
set_option maxRecDepth 100000 in
theorem p40x_655_e : ck_ok p1_O none [] [(134, [p40x_649])] 229 [] 76 p40x_655 = true := by decide +kernel
theorem p40x_655_s {X : Int → Int} {LX : Nat} : ck_Ok p1_O X LX 229 p40x_655 := ck_ok_s (ck_E1 (ck_S1 p40x_649_s ck_S0) ck_E0) ck_X0 ck_l0 p40x_655_e
set_option maxRecDepth 100000 in
def p40x_656 : ck_Sum := ((9, 1, 6), 245, [.inr (.inr (.inl 1)), .inl (40, 2147483647, none), .inl (0, 299, none), .inr (.inr (.inl 245))], ([], [], [(3, 1, 1, ck_one 40)]), ([], []), [(.inr (some (.inl (ck_one 1))), 245, ([], [], []))])
set_option maxRecDepth 100000 in
theorem p40x_656_e : ck_ok p1_O none [] [(229, [p40x_655])] 228 [] 88 p40x_656 = true := by decide +kernel
theorem p40x_656_s {X : Int → Int} {LX : Nat} : ck_Ok p1_O X LX 228 p40x_656 := ck_ok_s (ck_E1 (ck_S1 p40x_655_s ck_S0) ck_E0) ck_X0 ck_l0 p40x_656_e
set_option maxRecDepth 100000 in
def p40x_658 : ck_Sum := ((8, 1, 6), 245, [.inr (.inr (.inl 1)), .inl (40, 2147483647, none), .inl (300, 2147483647, none)], ([], [], [(3, 1, 1, ck_one 40)]), ([], []), [(.inl 3, 245, ([], [], []))])
set_option maxRecDepth 100000 in
theorem p40x_658_e : ck_ok p1_O none [] [(134, [p40x_649])] 229 [] 76 p40x_658 = true := by decide +kernel
theorem p40x_658_s {X : Int → Int} {LX : Nat} : ck_Ok p1_O X LX 229 p40x_658 := ck_ok_s (ck_E1 (ck_S1 p40x_649_s ck_S0) ck_E0) ck_X0 ck_l0 p40x_658_e
set_option maxRecDepth 100000 in
def p40x_659 : ck_Sum := ((9, 1, 6), 245, [.inr (.inr (.inl 1)), .inl (40, 2147483647, none), .inl (300, 2147483647, none), .inr (.inr (.inl 245))], ([], [], [(3, 1, 1, ck_one 40)]), ([], []), [(.inr (some (.inl (ck_one 1))), 245, ([], [], []))])
set_option maxRecDepth 100000 in
theorem p40x_659_e : ck_ok p1_O none [] [(229, [p40x_658])] 228 [] 88 p40x_659 = true := by decide +kernel
theorem p40x_659_s {X : Int → Int} {LX : Nat} : ck_Ok p1_O X LX 228 p40x_659 := ck_ok_s (ck_E1 (ck_S1 p40x_658_s ck_S0) ck_E0) ck_X0 ck_l0 p40x_659_e
set_option maxRecDepth 100000 in
def p40x_137 : ck_Sum := ((0, 0, 0), 245, [.inr (.inr (.inl 226))], ([], [], [(227, 1, 1, ck_one 40)]), ([], []), [(.inr (some (.inl (ck_one 40))), 245, ([], [], []))])
set_option maxRecDepth 100000 in
theorem p40x_137_e : ck_ok p1_O none [] [] 260 [] 80 p40x_137 = true := by decide +kernel
theorem p40x_137_s {X : Int → Int} {LX : Nat} : ck_Ok p1_O X LX 260 p40x_137 := ck_ok_s (ck_E0) ck_X0 ck_l0 p40x_137_e
set_option maxRecDepth 100000 in
def p40x_138 : ck_Sum := ((0, 0, 0), 245, [.inl ((-2147483648), (-1), none), .inl (ck_one 0), .inl (ck_one 39)], ([], [], []), ([], []), [(.inr (some (.inl (ck_one 0))), 245, ([], [], []))])
set_option maxRecDepth 100000 in
theorem p40x_138_e : ck_ok p1_O none [] [] 287 [] 80 p40x_138 = true := by decide +kernel
theorem p40x_138_s {X : Int → Int} {LX : Nat} : ck_Ok p1_O X LX 287 p40x_138 := ck_ok_s (ck_E0) ck_X0 ck_l0 p40x_138_e
set_option maxRecDepth 100000 in
def p40x_139 : ck_Sum := ((1, 0, 0), 245, [.inr (.inr (.inl 226)), .inl ((-2147483648), (-1), none)], ([], [], [(227, 1, 1, ck_one 40)]), ([], []), [(.inr (some (.inl (ck_one 1))), 245, ([], [], []))])
set_option maxRecDepth 100000 in
theorem p40x_139_e : ck_ok p1_O none [] [(260, [p40x_137]), (287, [p40x_138])] 290 [] 92 p40x_139 = true := by decide +kernel
theorem p40x_139_s {X : Int → Int} {LX : Nat} : ck_Ok p1_O X LX 290 p40x_139 := ck_ok_s (ck_E1 (ck_S1 p40x_137_s ck_S0) (ck_E1 (ck_S1 p40x_138_s ck_S0) ck_E0)) ck_X0 ck_l0 p40x_139_e
set_option maxRecDepth 100000 in
def p40x_140 : ck_Sum := ((0, 0, 0), 245, [.inr (.inr (.inl 226)), .inl (ck_one 1), .inl (ck_one 1)], ([], [], []), ([(226, 0, 0)], []), [(.inr (some (.inl (ck_one 1))), 245, ([], [], [(226, 0, 0, ck_one 1)]))])
set_option maxRecDepth 100000 in
theorem p40x_140_e : ck_ok p1_O none [] [] 283 [] 84 p40x_140 = true := by decide +kernel
theorem p40x_140_s {X : Int → Int} {LX : Nat} : ck_Ok p1_O X LX 283 p40x_140 := ck_ok_s (ck_E0) ck_X0 ck_l0 p40x_140_e
set_option maxRecDepth 100000 in
def p40x_141 : ck_Sum := ((2, 0, 0), 245, [.inr (.inr (.inl 226)), .inl ((-2147483648), (-1), none), .inl ((-2147483648), (-1), none)], ([], [], [(227, 1, 1, ck_one 40)]), ([(226, 0, 0)], []), [(.inr (some (.inl (ck_one 0))), 245, ([], [], [(226, 0, 0, ck_one 1)]))])
set_option maxRecDepth 100000 in
theorem p40x_141_e : ck_ok p1_O none [] [(290, [p40x_139]), (283, [p40x_140])] 366 [] 94 p40x_141 = true := by decide +kernel
theorem p40x_141_s {X : Int → Int} {LX : Nat} : ck_Ok p1_O X LX 366 p40x_141 := ck_ok_s (ck_E1 (ck_S1 p40x_139_s ck_S0) (ck_E1 (ck_S1 p40x_140_s ck_S0) ck_E0)) ck_X0 ck_l0 p40x_141_e
set_option maxRecDepth 100000 in
def p40x_145 : ck_Sum := ((2, 0, 0), 245, [.inr (.inr (.inl 226)), .inl ((-2147483648), (-1), none), .inl (0, 299, none)], ([], [], [(227, 1, 1, ck_one 40)]), ([(226, 0, 0)], []), [(.inr (some (.inl (ck_one 0))), 245, ([], [], [(226, 0, 0, ck_one 1)]))])
set_option maxRecDepth 100000 in
theorem p40x_145_e : ck_ok p1_O none [] [(290, [p40x_139]), (283, [p40x_140])] 366 [] 94 p40x_145 = true := by decide +kernel
theorem p40x_145_s {X : Int → Int} {LX : Nat} : ck_Ok p1_O X LX 366 p40x_145 := ck_ok_s (ck_E1 (ck_S1 p40x_139_s ck_S0) (ck_E1 (ck_S1 p40x_140_s ck_S0) ck_E0)) ck_X0 ck_l0 p40x_145_e
set_option maxRecDepth 100000 in
def p40x_148 : ck_Sum := ((2, 0, 0), 245, [.inr (.inr (.inl 226)), .inl ((-2147483648), (-1), none), .inl (300, 2147483647, none)], ([], [], [(227, 1, 1, ck_one 40)]), ([(226, 0, 0)], []), [(.inr (some (.inl (ck_one 0))), 245, ([], [], [(226, 0, 0, ck_one 1)]))])
set_option maxRecDepth 100000 in
theorem p40x_148_e : ck_ok p1_O none [] [(290, [p40x_139]), (283, [p40x_140])] 366 [] 94 p40x_148 = true := by decide +kernel
theorem p40x_148_s {X : Int → Int} {LX : Nat} : ck_Ok p1_O X LX 366 p40x_148 := ck_ok_s (ck_E1 (ck_S1 p40x_139_s ck_S0) (ck_E1 (ck_S1 p40x_140_s ck_S0) ck_E0)) ck_X0 ck_l0 p40x_148_e
set_option maxRecDepth 100000 in
def p40x_154 : ck_Sum := ((0, 0, 0), 245, [.inl (0, 39, none), .inl (ck_one 0), .inl (ck_one 39)], ([], [], []), ([], []), [(.inr (some (.inl (ck_one 1))), 245, ([], [], []))])
set_option maxRecDepth 100000 in
theorem p40x_154_e : ck_ok p1_O none [] [] 287 [] 88 p40x_154 = true := by decide +kernel
theorem p40x_154_s {X : Int → Int} {LX : Nat} : ck_Ok p1_O X LX 287 p40x_154 := ck_ok_s (ck_E0) ck_X0 ck_l0 p40x_154_e
set_option maxRecDepth 100000 in
def p40x_155 : ck_Sum := ((1, 0, 0), 245, [.inr (.inr (.inl 226)), .inl (0, 39, none)], ([], [], [(227, 1, 1, ck_one 40)]), ([], []), [(.inr (some (.inl (ck_one 0))), 245, ([], [], []))])
set_option maxRecDepth 100000 in
theorem p40x_155_e : ck_ok p1_O none [] [(260, [p40x_137]), (287, [p40x_154])] 290 [] 90 p40x_155 = true := by decide +kernel
theorem p40x_155_s {X : Int → Int} {LX : Nat} : ck_Ok p1_O X LX 290 p40x_155 := ck_ok_s (ck_E1 (ck_S1 p40x_137_s ck_S0) (ck_E1 (ck_S1 p40x_154_s ck_S0) ck_E0)) ck_X0 ck_l0 p40x_155_e
set_option maxRecDepth 100000 in
def p40x_156 : ck_Sum := ((0, 0, 0), 245, [.inr (.inr (.inl 226)), .inl (ck_one 0), .inl (ck_one 1)], ([], [], []), ([], []), [(.inr (some (.inl (ck_one 0))), 245, ([], [], []))])
set_option maxRecDepth 100000 in
theorem p40x_156_e : ck_ok p1_O none [] [] 283 [] 78 p40x_156 = true := by decide +kernel
theorem p40x_156_s {X : Int → Int} {LX : Nat} : ck_Ok p1_O X LX 283 p40x_156 := ck_ok_s (ck_E0) ck_X0 ck_l0 p40x_156_e
set_option maxRecDepth 100000 in
def p40x_159 : ck_Sum := ((0, 0, 0), 245, [.inr (.inr (.inl 226)), .inl (ck_one 1), .inl (ck_one 2)], ([], [], []), ([(226, 0, 0)], []), [(.inr (some (.inl (ck_one 1))), 245, ([], [], [(226, 0, 0, ck_one 2)]))])
set_option maxRecDepth 100000 in
theorem p40x_159_e : ck_ok p1_O none [] [] 283 [] 84 p40x_159 = true := by decide +kernel
theorem p40x_159_s {X : Int → Int} {LX : Nat} : ck_Ok p1_O X LX 283 p40x_159 := ck_ok_s (ck_E0) ck_X0 ck_l0 p40x_159_e
set_option maxRecDepth 100000 in
def p40x_157 : ck_Sum := ((0, 0, 0), 245, [.inl ((-2147483648), (-1), none), .inl (ck_one 0), .inl (ck_one 299)], ([], [], []), ([], []), [(.inr (some (.inl (ck_one 0))), 245, ([], [], []))])
set_option maxRecDepth 100000 in
theorem p40x_157_e : ck_ok p1_O none [] [] 287 [] 80 p40x_157 = true := by decide +kernel
theorem p40x_157_s {X : Int → Int} {LX : Nat} : ck_Ok p1_O X LX 287 p40x_157 := ck_ok_s (ck_E0) ck_X0 ck_l0 p40x_157_e
set_option maxRecDepth 100000 in
def p40x_158 : ck_Sum := ((1, 0, 0), 245, [.inl ((-2147483648), (-1), none)], ([], [], []), ([], []), [(.inr (some (.inl (ck_one 1))), 245, ([], [], []))])
set_option maxRecDepth 100000 in
theorem p40x_158_e : ck_ok p1_O none [] [(287, [p40x_157])] 286 [] 86 p40x_158 = true := by decide +kernel
theorem p40x_158_s {X : Int → Int} {LX : Nat} : ck_Ok p1_O X LX 286 p40x_158 := ck_ok_s (ck_E1 (ck_S1 p40x_157_s ck_S0) ck_E0) ck_X0 ck_l0 p40x_158_e
set_option maxRecDepth 100000 in
def p40x_160 : ck_Sum := ((2, 0, 0), 245, [.inr (.inr (.inl 226)), .inl (0, 39, none), .inl ((-2147483648), (-1), none)], ([], [], [(227, 1, 1, ck_one 40)]), ([(226, 0, 0)], []), [(.inr (some (.inl (ck_one 0))), 245, ([], [], [(226, 0, 0, ck_one 2)]))])
set_option maxRecDepth 100000 in
theorem p40x_160_e : ck_ok p1_O none [] [(290, [p40x_155]), (283, [p40x_156, p40x_159]), (286, [p40x_158])] 366 [] 106 p40x_160 = true := by decide +kernel
theorem p40x_160_s {X : Int → Int} {LX : Nat} : ck_Ok p1_O X LX 366 p40x_160 := ck_ok_s (ck_E1 (ck_S1 p40x_155_s ck_S0) (ck_E1 (ck_S1 p40x_156_s (ck_S1 p40x_159_s ck_S0)) (ck_E1 (ck_S1 p40x_158_s ck_S0) ck_E0))) ck_X0 ck_l0 p40x_160_e
set_option maxRecDepth 100000 in
def p40x_515 : ck_Sum := ((0, 0, 0), 245, [.inr (.inr (.inl 226)), .inl (ck_one 0), .inl (ck_one 2)], ([], [], []), ([], []), [(.inr (some (.inl (ck_one 0))), 245, ([], [], []))])
set_option maxRecDepth 100000 in
theorem p40x_515_e : ck_ok p1_O none [] [] 283 [] 78 p40x_515 = true := by decide +kernel
theorem p40x_515_s {X : Int → Int} {LX : Nat} : ck_Ok p1_O X LX 283 p40x_515 := ck_ok_s (ck_E0) ck_X0 ck_l0 p40x_515_e
set_option maxRecDepth 100000 in
def p40x_513 : ck_Sum := ((0, 0, 0), 245, [.inl (0, 299, none), .inl (ck_one 0), .inl (ck_one 299)], ([], [], []), ([], []), [(.inr (some (.inl (ck_one 1))), 245, ([], [], []))])
set_option maxRecDepth 100000 in
theorem p40x_513_e : ck_ok p1_O none [] [] 287 [] 88 p40x_513 = true := by decide +kernel
theorem p40x_513_s {X : Int → Int} {LX : Nat} : ck_Ok p1_O X LX 287 p40x_513 := ck_ok_s (ck_E0) ck_X0 ck_l0 p40x_513_e
set_option maxRecDepth 100000 in
def p40x_514 : ck_Sum := ((1, 0, 0), 245, [.inl (0, 299, none)], ([], [], []), ([], []), [(.inr (some (.inl (ck_one 0))), 245, ([], [], []))])
set_option maxRecDepth 100000 in
theorem p40x_514_e : ck_ok p1_O none [] [(287, [p40x_513])] 286 [] 84 p40x_514 = true := by decide +kernel
theorem p40x_514_s {X : Int → Int} {LX : Nat} : ck_Ok p1_O X LX 286 p40x_514 := ck_ok_s (ck_E1 (ck_S1 p40x_513_s ck_S0) ck_E0) ck_X0 ck_l0 p40x_514_e
set_option maxRecDepth 100000 in
def p40x_516 : ck_Sum := ((0, 0, 0), 245, [.inr (.inr (.inl 226))], ([], [], [(227, 0, 0, ck_one 3)]), ([], []), [(.inr (some (.inl (ck_one 3))), 245, ([], [], []))])
set_option maxRecDepth 100000 in
theorem p40x_516_e : ck_ok p1_O none [] [] 262 [] 80 p40x_516 = true := by decide +kernel
theorem p40x_516_s {X : Int → Int} {LX : Nat} : ck_Ok p1_O X LX 262 p40x_516 := ck_ok_s (ck_E0) ck_X0 ck_l0 p40x_516_e
set_option maxRecDepth 100000 in
def p40x_517 : ck_Sum := ((0, 0, 0), 245, [.inr (.inr (.inl 226)), .inl (0, 2, none)], ([], [], [(226, 26, 26, ((-1), 2, none)), (235, 0, 11999, (0, 1, none))]), ([(226, 26, 26), (235, 0, 29699)], []), [(.inr none, 245, ([], [], [(226, 26, 26, (0, 2, none)), (235, 0, 11999, (0, 1, none))]))])
set_option maxRecDepth 100000 in
theorem p40x_517_e : ck_ok p1_O none [] [] 294 [(16, [some (.inr (.inr (.inl 226))), some (.inl (0, 2, none)), some (.inl (0, 29700, none))], ([], [], [(226, 26, 26, (0, 2, none)), (235, 0, 11999, (0, 1, none))]), 100, .inl 2, true)] 142 p40x_517 = true := by decide +kernel
theorem p40x_517_s {X : Int → Int} {LX : Nat} : ck_Ok p1_O X LX 294 p40x_517 := ck_ok_s (ck_E0) ck_X0 ck_l0 p40x_517_e
set_option maxRecDepth 100000 in
def p40x_518 : ck_Sum := ((0, 0, 0), 245, [.inr (.inr (.inl 226)), .inl (0, 2, none), .inl (0, 39, none)], ([], [], [(227, 2, 9, ck_one 0)]), ([], []), [(.inr (some (.inl (ck_one 0))), 245, ([], [], []))])
set_option maxRecDepth 100000 in
theorem p40x_518_e : ck_ok p1_O none [] [] 291 [(5, [some (.inr (.inr (.inl 226))), some (.inl (0, 2, none)), some (.inl (0, 39, none)), some (.inl (ck_one 0)), some (.inl (ck_one 0))], ([], [], [(227, 2, 9, ck_one 0)]), 100, .inl 3, true)] 122 p40x_518 = true := by decide +kernel
theorem p40x_518_s {X : Int → Int} {LX : Nat} : ck_Ok p1_O X LX 291 p40x_518 := ck_ok_s (ck_E0) ck_X0 ck_l0 p40x_518_e
set_option maxRecDepth 100000 in
def p40x_519 : ck_Sum := ((0, 0, 0), 245, [.inr (.inr (.inl 226)), .inl (ck_one 0)], ([], [], [(227, 2, 9, ck_one 0)]), ([], []), [(.inr (some (.inl (ck_one 0))), 245, ([], [], []))])
set_option maxRecDepth 100000 in
theorem p40x_519_e : ck_ok p1_O none [] [] 295 [(4, [some (.inr (.inr (.inl 226))), some (.inl (ck_one 0)), some (.inl (ck_one 0)), some (.inl (ck_one 0))], ([], [], [(227, 2, 9, ck_one 0)]), 100, .inl 2, true)] 122 p40x_519 = true := by decide +kernel
theorem p40x_519_s {X : Int → Int} {LX : Nat} : ck_Ok p1_O X LX 295 p40x_519 := ck_ok_s (ck_E0) ck_X0 ck_l0 p40x_519_e
set_option maxRecDepth 100000 in
def p40x_520 : ck_Sum := ((0, 0, 0), 245, [.inr (.inr (.inl 226)), .inl (ck_one 1)], ([], [], [(227, 2, 9, ck_one 0)]), ([], []), [(.inr (some (.inl (ck_one 0))), 245, ([], [], []))])
set_option maxRecDepth 100000 in
theorem p40x_520_e : ck_ok p1_O none [] [] 295 [(4, [some (.inr (.inr (.inl 226))), some (.inl (ck_one 1)), some (.inl (ck_one 0)), some (.inl (ck_one 0))], ([], [], [(227, 2, 9, ck_one 0)]), 100, .inl 2, true)] 122 p40x_520 = true := by decide +kernel
theorem p40x_520_s {X : Int → Int} {LX : Nat} : ck_Ok p1_O X LX 295 p40x_520 := ck_ok_s (ck_E0) ck_X0 ck_l0 p40x_520_e
set_option maxRecDepth 100000 in
def p40x_521 : ck_Sum := ((1, 0, 0), 245, [.inr (.inr (.inl 226)), .inl (0, 2, none), .inl (0, 39, none), .inl (0, 299, none)], ([], [], [(226, 26, 26, ((-1), 2, none)), (226, 19, 19, (0, 299, none)), (226, 18, 18, (0, 39, none)), (226, 17, 17, (0, 2, none)), (227, 2, 9, ck_one 0), (226, 20, 20, ck_one 0), (226, 21, 21, ck_one 0), (226, 22, 22, ck_one 0), (226, 23, 23, ck_one 0), (235, 0, 11999, (0, 1, none))]), ([(226, 17, 23), (226, 26, 26), (235, 0, 29699)], []), [(.inr (some (.inl (ck_one 0))), 245, ([], [], [(226, 23, 23, ck_one 0), (226, 22, 22, ck_one 0), (226, 21, 21, ck_one 0), (226, 20, 20, ck_one 0), (226, 19, 19, (0, 299, none)), (226, 18, 18, (0, 39, none)), (226, 17, 17, (0, 2, none)), (226, 26, 26, (0, 2, none)), (235, 0, 11999, (0, 1, none))]))])
def p40x_521_E : List (Nat × List ck_Sum) := [(294, [p40x_517]), (291, [p40x_518]), (295, [p40x_519, p40x_520])]
def p40x_521_L : ck_AL := [some (.inr (.inr (.inl 226))), some (.inl (0, 2, none)), some (.inl (0, 39, none)), some (.inl (0, 299, none)), some (.inl (0, 11999, none)), none]
set_option maxRecDepth 100000 in
def p40x_521_F : ck_F := ([], [], [(226, 26, 26, (0, 2, none)), (235, 0, 11999, (0, 1, none)), (226, 19, 19, (0, 299, none)), (226, 18, 18, (0, 39, none)), (226, 17, 17, (0, 2, none)), (227, 2, 9, ck_one 0), (226, 20, 20, ck_one 0), (226, 21, 21, ck_one 0), (226, 22, 22, ck_one 0), (226, 23, 23, ck_one 0)])
def p40x_521_C : ck_C := (p40x_521_L, p40x_521_F, 0, .inl 4, true)
set_option maxRecDepth 100000 in
theorem p40x_521_a : (decide (p40x_521.2.2.1.length ≤ gm_ml 293) && ck_go p1_O none [] p40x_521_E 293 p40x_521.1.1 p40x_521.2.1 p40x_521.2.2.2.2.1 p40x_521.2.2.2.2.2 [(14, p40x_521_C)] 400 false [(14, p40x_521_C, 0, 0, 245)] p40x_521.1.2.1 p40x_521.1.2.2 0 (p40x_521.2.2.1.map some ++ List.replicate (gm_ml 293 - p40x_521.2.2.1.length) none) [] p40x_521.2.1 p40x_521.2.2.2.1) = true := by decide +kernel
set_option maxRecDepth 100000 in
theorem p40x_521_b : ck_go p1_O none [] p40x_521_E 293 p40x_521.1.1 p40x_521.2.1 p40x_521.2.2.2.2.1 p40x_521.2.2.2.2.2 [] 400 true [] 0 0 34 p40x_521_L [] 245 p40x_521_F = true := by decide +kernel
set_option maxRecDepth 100000 in
theorem p40x_521_f : ck_fi p40x_521_F 235 0 11999 = some (0, 1, none) := by decide +kernel
set_option maxRecDepth 100000 in
theorem p40x_521_g : ck_leF p1_O p40x_521_F (([], [], [(226, 23, 23, ck_one 0), (226, 22, 22, ck_one 0), (226, 21, 21, ck_one 0), (226, 20, 20, ck_one 0), (226, 19, 19, (0, 299, none)), (226, 18, 18, (0, 39, none)), (226, 17, 17, (0, 2, none)), (226, 26, 26, (0, 2, none)), (235, 0, 11999, (0, 1, none))])) = true := by decide +kernel
theorem p40x_521_h {X : Int → Int} {LX : Nat} : ck_OkE p1_O X LX p40x_521_E := ck_E1 (ck_S1 p40x_517_s ck_S0) (ck_E1 (ck_S1 p40x_518_s ck_S0) (ck_E1 (ck_S1 p40x_519_s (ck_S1 p40x_520_s ck_S0)) ck_E0))
theorem p40x_521_s {X : Int → Int} {LX : Nat} : ck_Ok p1_O X LX 293 p40x_521 := by
  refine ck_ok_st (cuts := [(14, p40x_521_C)]) p40x_521_h p40x_521_a (fun h hm => ?_)
  rw [List.mem_singleton.mp hm]
  refine ⟨rfl, fun σ K0 R0 M0 v _ bc bs L K R M hb1 hb2 hS _ => ?_⟩
  obtain ⟨hF, hl, hs, hf, hfr⟩ := hS
  obtain ⟨u0, e0, g0⟩ := hl.2 0 (.inr (.inr (.inl 226))) rfl
  cases g0
  obtain ⟨u4, e4, t, rfl, ht1, ht2, ht3, -⟩ := hl.2 4 (.inl (0, 11999, none)) rfl
  have ht2 : (0 : Int) ≤ t := ht2
  have ht3 : t ≤ (11999 : Int) := ht3
  obtain ⟨-, hM1, hM2, -⟩ := (ck_fi_s hf p40x_521_f).2 t (by omega) (by omega)
  have hM1 : (0 : Int) ≤ M 235 t := hM1
  have hM2 : M 235 t ≤ (1 : Int) := hM2
  refine ck_flow (O := p1_O) hF (k := 226) (fl := 235) (by decide +kernel) (by decide +kernel) (by decide +kernel) e0 e4 ⟨by omega, by omega⟩ ⟨by omega, by omega⟩ (fun hp => ?_) ?_
  · have e : M 235 t - 1 = 0 := by omega
    rw [e]
    exact ⟨hF, hfr, _, List.mem_cons_self, ⟨0, rfl, ⟨by decide, by decide⟩, by decide, by decide, fun _ h => nomatch h⟩, rfl, ck_leF_s hF hf p40x_521_g⟩
  · exact gm_Wp_wk (Nat.le_refl _) hb1 hb2 (ck_go_s (σ0 := σ) (cuts := []) p40x_521_h ck_X0 ck_l0 400 true [] _ _ 34 _ [] _ _ σ L [] K R M (fun _ _ => rfl) (fun _ h => nomatch h) ⟨hF, hl, rfl, hf, hfr⟩ p40x_521_b)
set_option maxRecDepth 100000 in
def p40x_630 : ck_Sum := ((0, 0, 0), 245, [.inr (.inr (.inl 226)), .inl (10, 39, none), .inl (0, 298, none), .inl (ck_one (-1))], ([], [], [(227, 2, 9, ck_one 0)]), ([], []), [(.inr (some (.inl (10, 39, none))), 245, ([], [], []))])
set_option maxRecDepth 100000 in
theorem p40x_630_e : ck_ok p1_O none [] [] 308 [(6, [some (.inr (.inr (.inl 226))), some (.inl (10, 39, none)), some (.inl (0, 298, none)), some (.inl (ck_one (-1))), some (.inl (10, 39, none)), some (.inl (ck_one 0)), none], ([], [], [(227, 2, 9, ck_one 0)]), 100, .inl 4, true)] 122 p40x_630 = true := by decide +kernel
theorem p40x_630_s {X : Int → Int} {LX : Nat} : ck_Ok p1_O X LX 308 p40x_630 := ck_ok_s (ck_E0) ck_X0 ck_l0 p40x_630_e
set_option maxRecDepth 100000 in
def p40x_631 : ck_Sum := ((0, 0, 0), 245, [.inr (.inr (.inl 226)), .inl (0, 9, none), .inl (0, 298, none), .inl (ck_one (-1))], ([], [], [(227, 2, 9, ck_one 0)]), ([], []), [(.inr (some (.inl (0, 9, none))), 245, ([], [], []))])
set_option maxRecDepth 100000 in
theorem p40x_631_e : ck_ok p1_O none [] [] 308 [(6, [some (.inr (.inr (.inl 226))), some (.inl (0, 9, none)), some (.inl (0, 298, none)), some (.inl (ck_one (-1))), some (.inl (0, 9, none)), some (.inl (ck_one 0)), none], ([], [], [(227, 2, 9, ck_one 0)]), 100, .inl 4, true)] 122 p40x_631 = true := by decide +kernel
theorem p40x_631_s {X : Int → Int} {LX : Nat} : ck_Ok p1_O X LX 308 p40x_631 := ck_ok_s (ck_E0) ck_X0 ck_l0 p40x_631_e
set_option maxRecDepth 100000 in
def p40x_636 : ck_Sum := ((2, 0, 0), 245, [.inr (.inr (.inl 226)), .inl (0, 2, none), .inl (0, 39, none), .inl (0, 299, none), .inl (ck_one 0), .inl (ck_one (-1))], ([], [], [(226, 26, 26, ((-1), 2, none)), (227, 11, 11, ck_one 2), (227, 10, 10, ck_one 10), (227, 1, 1, ck_one 40), (227, 2, 9, ck_one 0), (236, 0, 299, ((-1), 39, none)), (226, 17, 17, (0, 2, none)), (226, 18, 18, (0, 39, none)), (226, 19, 19, (0, 299, none)), (226, 20, 20, ck_one 0), (226, 21, 21, ck_one 0), (226, 22, 22, ck_one 0), (226, 23, 23, ck_one 0), (226, 29, 29, ((-1), 0, none)), (226, 30, 30, ck_one 0), (235, 0, 11999, (0, 1, none))]), ([(226, 17, 23), (226, 26, 26), (226, 29, 30), (235, 0, 29699), (236, 0, 299), (237, 0, 299)], []), [(.inr none, 245, ([], [], [(226, 30, 30, ck_one 0), (226, 29, 29, ck_one (-1)), (226, 26, 26, ((-1), 2, none)), (226, 17, 17, (0, 2, none)), (226, 18, 18, (0, 39, none)), (226, 19, 19, (0, 299, none)), (226, 20, 20, ck_one 0), (226, 21, 21, ck_one 0), (226, 22, 22, ck_one 0), (226, 23, 23, ck_one 0), (236, 0, 299, ((-1), 39, none)), (235, 0, 11999, (0, 1, none))]))])
set_option maxRecDepth 100000 in
theorem p40x_636_e : ck_ok p1_O none [] [(260, [p40x_137]), (293, [p40x_521]), (308, [p40x_630, p40x_631])] 307 [(3, [some (.inr (.inr (.inl 226))), some (.inl (0, 2, none)), some (.inl (0, 39, none)), some (.inl (0, 299, none)), some (.inl (ck_one 0)), some (.inl (ck_one (-1))), some (.inl (0, 299, none)), none, none], ([], [], [(226, 26, 26, ((-1), 2, none)), (227, 11, 11, ck_one 2), (227, 10, 10, ck_one 10), (227, 1, 1, ck_one 40), (227, 2, 9, ck_one 0), (236, 0, 299, ((-1), 39, none)), (226, 17, 17, (0, 2, none)), (226, 18, 18, (0, 39, none)), (226, 19, 19, (0, 299, none)), (226, 20, 20, ck_one 0), (226, 21, 21, ck_one 0), (226, 22, 22, ck_one 0), (226, 23, 23, ck_one 0), (226, 29, 29, ((-1), 0, none)), (226, 30, 30, ck_one 0), (235, 0, 11999, (0, 1, none))]), 100, .inl 6, true), (50, [some (.inr (.inr (.inl 226))), some (.inl (0, 2, none)), some (.inl (0, 39, none)), some (.inl (0, 299, none)), some (.inl (ck_one 0)), some (.inl (ck_one (-1))), some (.inl (0, 39, none)), some (.inl ((-2147483648), 2147483647, none)), some (.inl (0, 300, none))], ([], [], [(226, 30, 30, ck_one 0), (226, 29, 29, ck_one (-1)), (226, 26, 26, ((-1), 2, none)), (227, 11, 11, ck_one 2), (227, 10, 10, ck_one 10), (227, 1, 1, ck_one 40), (227, 2, 9, ck_one 0), (236, 0, 299, ((-1), 39, none)), (226, 17, 17, (0, 2, none)), (226, 18, 18, (0, 39, none)), (226, 19, 19, (0, 299, none)), (226, 20, 20, ck_one 0), (226, 21, 21, ck_one 0), (226, 22, 22, ck_one 0), (226, 23, 23, ck_one 0), (235, 0, 11999, (0, 1, none))]), 300, .inl 8, true)] 506 p40x_636 = true := by decide +kernel
theorem p40x_636_s {X : Int → Int} {LX : Nat} : ck_Ok p1_O X LX 307 p40x_636 := ck_ok_s (ck_E1 (ck_S1 p40x_137_s ck_S0) (ck_E1 (ck_S1 p40x_521_s ck_S0) (ck_E1 (ck_S1 p40x_630_s (ck_S1 p40x_631_s ck_S0)) ck_E0))) ck_X0 ck_l0 p40x_636_e
set_option maxRecDepth 100000 in
def p40x_637 : ck_Sum := ((3, 0, 0), 245, [.inr (.inr (.inl 226)), .inl (0, 2, none), .inl (0, 39, none), .inl (0, 299, none)], ([], [], [(226, 26, 26, ((-1), 2, none)), (227, 11, 11, ck_one 2), (227, 10, 10, ck_one 10), (227, 1, 1, ck_one 40), (227, 2, 9, ck_one 0), (236, 0, 299, ((-1), 39, none)), (226, 17, 17, (0, 2, none)), (226, 18, 18, (0, 39, none)), (226, 19, 19, (0, 299, none)), (226, 20, 20, ck_one 0), (226, 21, 21, ck_one 0), (226, 22, 22, ck_one 0), (226, 23, 23, ck_one 0), (226, 29, 29, ((-1), 0, none)), (226, 30, 30, ck_one 0), (235, 0, 11999, (0, 1, none))]), ([(226, 17, 23), (226, 26, 26), (226, 29, 30), (235, 0, 29699), (236, 0, 299), (237, 0, 299)], []), [(.inr (some (.inl (ck_one (-1)))), 245, ([], [], [(226, 30, 30, ck_one 0), (226, 29, 29, ck_one (-1)), (226, 26, 26, ((-1), 2, none)), (226, 17, 17, (0, 2, none)), (226, 18, 18, (0, 39, none)), (226, 19, 19, (0, 299, none)), (226, 20, 20, ck_one 0), (226, 21, 21, ck_one 0), (226, 22, 22, ck_one 0), (226, 23, 23, ck_one 0), (236, 0, 299, ((-1), 39, none)), (235, 0, 11999, (0, 1, none))]))])
set_option maxRecDepth 100000 in
theorem p40x_637_e : ck_ok p1_O none [] [(307, [p40x_636])] 326 [] 90 p40x_637 = true := by decide +kernel
theorem p40x_637_s {X : Int → Int} {LX : Nat} : ck_Ok p1_O X LX 326 p40x_637 := ck_ok_s (ck_E1 (ck_S1 p40x_636_s ck_S0) ck_E0) ck_X0 ck_l0 p40x_637_e
set_option maxRecDepth 100000 in
def p40x_640 : ck_Sum := ((4, 0, 0), 245, [.inr (.inr (.inl 226)), .inl (0, 39, none), .inl (0, 299, none)], ([], [], [(226, 26, 26, ck_one (-1)), (227, 11, 11, ck_one 2), (227, 10, 10, ck_one 10), (227, 1, 1, ck_one 40), (227, 0, 0, ck_one 3), (227, 2, 9, ck_one 0), (236, 0, 299, ck_one 0), (226, 0, 0, ck_one 0), (226, 17, 17, ck_one 0), (226, 18, 18, ck_one 0), (226, 19, 19, ck_one 0), (226, 20, 20, ck_one 0), (226, 21, 21, ck_one 0), (226, 22, 22, ck_one 0), (226, 23, 23, ck_one 0), (226, 29, 29, ck_one 0), (226, 30, 30, ck_one 0), (235, 0, 11999, ck_one 0)]), ([(226, 0, 0), (226, 17, 23), (226, 26, 26), (226, 29, 30), (235, 0, 29699), (236, 0, 299), (237, 0, 299)], []), [(.inr (some (.inl (ck_one (-1)))), 245, ([], [], [(226, 0, 0, ck_one 0), (226, 26, 26, ((-1), 2, none)), (226, 17, 17, (0, 2, none)), (226, 18, 18, (0, 39, none)), (226, 19, 19, (0, 299, none)), (226, 20, 20, ck_one 0), (226, 21, 21, ck_one 0), (226, 22, 22, ck_one 0), (226, 23, 23, ck_one 0), (226, 29, 29, ((-1), 0, none)), (226, 30, 30, ck_one 0), (236, 0, 299, ((-1), 39, none)), (235, 0, 11999, (0, 1, none))]))])
set_option maxRecDepth 100000 in
theorem p40x_640_e : ck_ok p1_O none [] [(290, [p40x_155]), (283, [p40x_156, p40x_515]), (286, [p40x_514]), (262, [p40x_516]), (326, [p40x_637])] 366 [(42, [some (.inr (.inr (.inl 226))), some (.inl (0, 39, none)), some (.inl (0, 299, none)), some (.inl (ck_one (-1))), some (.inl (ck_one 1000)), some (.inl (0, 3, none)), none], ([], [], [(226, 0, 0, ck_one 0), (226, 26, 26, ((-1), 2, none)), (227, 11, 11, ck_one 2), (227, 10, 10, ck_one 10), (227, 1, 1, ck_one 40), (227, 0, 0, ck_one 3), (227, 2, 9, ck_one 0), (236, 0, 299, ((-1), 39, none)), (226, 17, 17, (0, 2, none)), (226, 18, 18, (0, 39, none)), (226, 19, 19, (0, 299, none)), (226, 20, 20, ck_one 0), (226, 21, 21, ck_one 0), (226, 22, 22, ck_one 0), (226, 23, 23, ck_one 0), (226, 29, 29, ((-1), 0, none)), (226, 30, 30, ck_one 0), (235, 0, 11999, (0, 1, none))]), 100, .inl 5, true)] 182 p40x_640 = true := by decide +kernel
theorem p40x_640_s {X : Int → Int} {LX : Nat} : ck_Ok p1_O X LX 366 p40x_640 := ck_ok_s (ck_E1 (ck_S1 p40x_155_s ck_S0) (ck_E1 (ck_S1 p40x_156_s (ck_S1 p40x_515_s ck_S0)) (ck_E1 (ck_S1 p40x_514_s ck_S0) (ck_E1 (ck_S1 p40x_516_s ck_S0) (ck_E1 (ck_S1 p40x_637_s ck_S0) ck_E0))))) ck_X0 ck_l0 p40x_640_e
set_option maxRecDepth 100000 in
def p40x_645 : ck_Sum := ((0, 0, 0), 245, [.inl (300, 2147483647, none), .inl (ck_one 0), .inl (ck_one 299)], ([], [], []), ([], []), [(.inr (some (.inl (ck_one 0))), 245, ([], [], []))])
set_option maxRecDepth 100000 in
theorem p40x_645_e : ck_ok p1_O none [] [] 287 [] 86 p40x_645 = true := by decide +kernel
theorem p40x_645_s {X : Int → Int} {LX : Nat} : ck_Ok p1_O X LX 287 p40x_645 := ck_ok_s (ck_E0) ck_X0 ck_l0 p40x_645_e
set_option maxRecDepth 100000 in
def p40x_646 : ck_Sum := ((1, 0, 0), 245, [.inl (300, 2147483647, none)], ([], [], []), ([], []), [(.inr (some (.inl (ck_one 1))), 245, ([], [], []))])
set_option maxRecDepth 100000 in
theorem p40x_646_e : ck_ok p1_O none [] [(287, [p40x_645])] 286 [] 86 p40x_646 = true := by decide +kernel
theorem p40x_646_s {X : Int → Int} {LX : Nat} : ck_Ok p1_O X LX 286 p40x_646 := ck_ok_s (ck_E1 (ck_S1 p40x_645_s ck_S0) ck_E0) ck_X0 ck_l0 p40x_646_e
set_option maxRecDepth 100000 in
def p40x_647 : ck_Sum := ((2, 0, 0), 245, [.inr (.inr (.inl 226)), .inl (0, 39, none), .inl (300, 2147483647, none)], ([], [], [(227, 1, 1, ck_one 40)]), ([(226, 0, 0)], []), [(.inr (some (.inl (ck_one 0))), 245, ([], [], [(226, 0, 0, ck_one 2)]))])
set_option maxRecDepth 100000 in
theorem p40x_647_e : ck_ok p1_O none [] [(290, [p40x_155]), (283, [p40x_156, p40x_159]), (286, [p40x_646])] 366 [] 106 p40x_647 = true := by decide +kernel
theorem p40x_647_s {X : Int → Int} {LX : Nat} : ck_Ok p1_O X LX 366 p40x_647 := ck_ok_s (ck_E1 (ck_S1 p40x_155_s ck_S0) (ck_E1 (ck_S1 p40x_156_s (ck_S1 p40x_159_s ck_S0)) (ck_E1 (ck_S1 p40x_646_s ck_S0) ck_E0))) ck_X0 ck_l0 p40x_647_e
set_option maxRecDepth 100000 in
def p40x_652 : ck_Sum := ((0, 0, 0), 245, [.inl (40, 2147483647, none), .inl (ck_one 0), .inl (ck_one 39)], ([], [], []), ([], []), [(.inr (some (.inl (ck_one 0))), 245, ([], [], []))])
set_option maxRecDepth 100000 in
theorem p40x_652_e : ck_ok p1_O none [] [] 287 [] 86 p40x_652 = true := by decide +kernel
theorem p40x_652_s {X : Int → Int} {LX : Nat} : ck_Ok p1_O X LX 287 p40x_652 := ck_ok_s (ck_E0) ck_X0 ck_l0 p40x_652_e
set_option maxRecDepth 100000 in
def p40x_653 : ck_Sum := ((1, 0, 0), 245, [.inr (.inr (.inl 226)), .inl (40, 2147483647, none)], ([], [], [(227, 1, 1, ck_one 40)]), ([], []), [(.inr (some (.inl (ck_one 1))), 245, ([], [], []))])
set_option maxRecDepth 100000 in
theorem p40x_653_e : ck_ok p1_O none [] [(260, [p40x_137]), (287, [p40x_652])] 290 [] 92 p40x_653 = true := by decide +kernel
theorem p40x_653_s {X : Int → Int} {LX : Nat} : ck_Ok p1_O X LX 290 p40x_653 := ck_ok_s (ck_E1 (ck_S1 p40x_137_s ck_S0) (ck_E1 (ck_S1 p40x_652_s ck_S0) ck_E0)) ck_X0 ck_l0 p40x_653_e
set_option maxRecDepth 100000 in
def p40x_654 : ck_Sum := ((2, 0, 0), 245, [.inr (.inr (.inl 226)), .inl (40, 2147483647, none), .inl ((-2147483648), (-1), none)], ([], [], [(227, 1, 1, ck_one 40)]), ([(226, 0, 0)], []), [(.inr (some (.inl (ck_one 0))), 245, ([], [], [(226, 0, 0, ck_one 1)]))])
set_option maxRecDepth 100000 in
theorem p40x_654_e : ck_ok p1_O none [] [(290, [p40x_653]), (283, [p40x_140])] 366 [] 94 p40x_654 = true := by decide +kernel
theorem p40x_654_s {X : Int → Int} {LX : Nat} : ck_Ok p1_O X LX 366 p40x_654 := ck_ok_s (ck_E1 (ck_S1 p40x_653_s ck_S0) (ck_E1 (ck_S1 p40x_140_s ck_S0) ck_E0)) ck_X0 ck_l0 p40x_654_e
set_option maxRecDepth 100000 in
def p40x_657 : ck_Sum := ((2, 0, 0), 245, [.inr (.inr (.inl 226)), .inl (40, 2147483647, none), .inl (0, 299, none)], ([], [], [(227, 1, 1, ck_one 40)]), ([(226, 0, 0)], []), [(.inr (some (.inl (ck_one 0))), 245, ([], [], [(226, 0, 0, ck_one 1)]))])
set_option maxRecDepth 100000 in
theorem p40x_657_e : ck_ok p1_O none [] [(290, [p40x_653]), (283, [p40x_140])] 366 [] 94 p40x_657 = true := by decide +kernel
theorem p40x_657_s {X : Int → Int} {LX : Nat} : ck_Ok p1_O X LX 366 p40x_657 := ck_ok_s (ck_E1 (ck_S1 p40x_653_s ck_S0) (ck_E1 (ck_S1 p40x_140_s ck_S0) ck_E0)) ck_X0 ck_l0 p40x_657_e
set_option maxRecDepth 100000 in
def p40x_660 : ck_Sum := ((2, 0, 0), 245, [.inr (.inr (.inl 226)), .inl (40, 2147483647, none), .inl (300, 2147483647, none)], ([], [], [(227, 1, 1, ck_one 40)]), ([(226, 0, 0)], []), [(.inr (some (.inl (ck_one 0))), 245, ([], [], [(226, 0, 0, ck_one 1)]))])
set_option maxRecDepth 100000 in
theorem p40x_660_e : ck_ok p1_O none [] [(290, [p40x_653]), (283, [p40x_140])] 366 [] 94 p40x_660 = true := by decide +kernel
theorem p40x_660_s {X : Int → Int} {LX : Nat} : ck_Ok p1_O X LX 366 p40x_660 := ck_ok_s (ck_E1 (ck_S1 p40x_653_s ck_S0) (ck_E1 (ck_S1 p40x_140_s ck_S0) ck_E0)) ck_X0 ck_l0 p40x_660_e
set_option maxRecDepth 100000 in
def p40x_142 : ck_Sum := ((0, 0, 0), 245, [.inr (.inr (.inl 226))], ([], [], [(226, 0, 0, ck_one 1)]), ([], []), [(.inr (some (.inl (ck_one 1))), 245, ([], [], []))])
set_option maxRecDepth 100000 in
theorem p40x_142_e : ck_ok p1_O none [] [] 234 [] 76 p40x_142 = true := by decide +kernel
theorem p40x_142_s {X : Int → Int} {LX : Nat} : ck_Ok p1_O X LX 234 p40x_142 := ck_ok_s (ck_E0) ck_X0 ck_l0 p40x_142_e
set_option maxRecDepth 100000 in
def p40x_161 : ck_Sum := ((0, 0, 0), 245, [.inr (.inr (.inl 226))], ([], [], [(226, 0, 0, ck_one 2)]), ([], []), [(.inr (some (.inl (ck_one 2))), 245, ([], [], []))])
set_option maxRecDepth 100000 in
theorem p40x_161_e : ck_ok p1_O none [] [] 234 [] 76 p40x_161 = true := by decide +kernel
theorem p40x_161_s {X : Int → Int} {LX : Nat} : ck_Ok p1_O X LX 234 p40x_161 := ck_ok_s (ck_E0) ck_X0 ck_l0 p40x_161_e
set_option maxRecDepth 100000 in
def p40x_641 : ck_Sum := ((0, 0, 0), 245, [.inr (.inr (.inl 226))], ([], [], [(226, 0, 0, ck_one 0)]), ([], []), [(.inr (some (.inl (ck_one 0))), 245, ([], [], []))])
set_option maxRecDepth 100000 in
theorem p40x_641_e : ck_ok p1_O none [] [] 234 [] 76 p40x_641 = true := by decide +kernel
theorem p40x_641_s {X : Int → Int} {LX : Nat} : ck_Ok p1_O X LX 234 p40x_641 := ck_ok_s (ck_E0) ck_X0 ck_l0 p40x_641_e
set_option maxRecDepth 100000 in
def p40_F : ck_F := ([], [(3, 8, 0), (16, 8, 0), (29, 8, 0), (44, 8, 0), (57, 8, 0), (70, 8, 0), (83, 8, 0), (96, 8, 0), (109, 8, 0), (122, 8, 0), (135, 8, 0), (148, 8, 0), (161, 8, 0), (174, 8, 0), (187, 8, 0)], [(245, 0, 0, ck_one 0), (226, 26, 26, ck_one (-1)), (227, 11, 11, ck_one 2), (227, 10, 10, ck_one 10), (227, 1, 1, ck_one 40), (227, 0, 0, ck_one 3), (227, 2, 9, ck_one 0), (236, 0, 299, ck_one 0), (226, 0, 0, ck_one 0), (226, 17, 17, ck_one 0), (226, 18, 18, ck_one 0), (226, 19, 19, ck_one 0), (226, 20, 20, ck_one 0), (226, 21, 21, ck_one 0), (226, 22, 22, ck_one 0), (226, 23, 23, ck_one 0), (226, 29, 29, ck_one 0), (226, 30, 30, ck_one 0), (206, 8, 8, ck_one 0), (206, 7, 7, ck_one 0), (206, 5, 5, ck_one 0), (206, 4, 4, ck_one (-1)), (206, 3, 3, ck_one 0), (206, 2, 2, ck_one 0), (3, 3, 3, ck_one 2), (3, 2, 2, ck_one 10), (3, 1, 1, ck_one 40), (3, 0, 0, ck_one 3), (203, 0, 299, ck_one 0), (202, 0, 593, ck_one 0), (235, 0, 11999, ck_one 0)])
def p40_E : List (Nat × List ck_Sum) := [(228, [p40x_136, p40x_144, p40x_147, p40x_153, p40x_512, p40x_644, p40x_651, p40x_656, p40x_659]), (366, [p40x_141, p40x_145, p40x_148, p40x_160, p40x_640, p40x_647, p40x_654, p40x_657, p40x_660]), (234, [p40x_142, p40x_161, p40x_641])]
theorem p40_h {X : Int → Int} {LX : Nat} : ck_OkE p1_O X LX p40_E := ck_E1 (ck_S1 p40x_136_s (ck_S1 p40x_144_s (ck_S1 p40x_147_s (ck_S1 p40x_153_s (ck_S1 p40x_512_s (ck_S1 p40x_644_s (ck_S1 p40x_651_s (ck_S1 p40x_656_s (ck_S1 p40x_659_s ck_S0))))))))) (ck_E1 (ck_S1 p40x_141_s (ck_S1 p40x_145_s (ck_S1 p40x_148_s (ck_S1 p40x_160_s (ck_S1 p40x_640_s (ck_S1 p40x_647_s (ck_S1 p40x_654_s (ck_S1 p40x_657_s (ck_S1 p40x_660_s ck_S0))))))))) (ck_E1 (ck_S1 p40x_142_s (ck_S1 p40x_161_s (ck_S1 p40x_641_s ck_S0))) ck_E0))
set_option maxRecDepth 100000 in
theorem p40_b : (ck_prod [(1, [((-2147483648), (-1)), (0, 39), (40, 2147483647)]), (2, [((-2147483648), (-1)), (0, 299), (300, 2147483647)])]).all (fun xf => ck_go p1_O (some 6) xf p40_E 370 280 245 p1_W p1_outs [] 152 false [] 1000 2000 2726 p1_L [] 245 p40_F) = true := by decide +kernel
theorem p40_s {X : Int → Int} {LX : Nat} (hLX : 6 = LX) (hX : ∀ j, gm_ir (X j)) {σ : Nat → Int} {L : gm_L} {K0 K : gm_K} {R0 R : gm_R} {M0 M : gm_M} (hS : ck_St p1_O σ p1_W 245 K0 R0 M0 p1_L [] p40_F L [] 245 K R M) : gm_Wp X LX 280 1000 2000 370 2726 L [] 245 K R M (ck_Q p1_O σ p1_W 245 K0 R0 M0 p1_outs) := ck_boxes p40_h hLX hX (by decide +kernel) p40_b hS
