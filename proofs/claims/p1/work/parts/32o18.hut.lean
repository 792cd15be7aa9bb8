/-! hut, on a new object: laid by wip/am/p1g.py. -/
set_option maxRecDepth 100000 in
def p18x_133 : ck_Sum := ((6, 1, 6), 245, [.inr (.inr (.inl 1)), .inl ((-2147483648), (-1), none), .inl (ck_one 3)], ([], [], []), ([], []), [(.inl 3, 245, ([], [], []))])
set_option maxRecDepth 100000 in
theorem p18x_133_e : ck_ok p1_O none [] [] 133 [] 76 p18x_133 = true := by decide +kernel
theorem p18x_133_s {X : Int → Int} {LX : Nat} : ck_Ok p1_O X LX 133 p18x_133 := ck_ok_s (ck_E0) ck_X0 ck_l0 p18x_133_e
set_option maxRecDepth 100000 in
def p18x_134 : ck_Sum := ((7, 1, 6), 245, [.inr (.inr (.inl 1)), .inl ((-2147483648), (-1), none)], ([], [], [(3, 0, 0, ck_one 3)]), ([], []), [(.inl 3, 245, ([], [], []))])
set_option maxRecDepth 100000 in
theorem p18x_134_e : ck_ok p1_O none [] [(133, [p18x_133])] 132 [] 82 p18x_134 = true := by decide +kernel
theorem p18x_134_s {X : Int → Int} {LX : Nat} : ck_Ok p1_O X LX 132 p18x_134 := ck_ok_s (ck_E1 (ck_S1 p18x_133_s ck_S0) ck_E0) ck_X0 ck_l0 p18x_134_e
set_option maxRecDepth 100000 in
def p18x_135 : ck_Sum := ((8, 1, 6), 245, [.inr (.inr (.inl 1)), .inl ((-2147483648), (-1), none), .inl ((-2147483648), 0, none)], ([], [], [(3, 0, 0, ck_one 3)]), ([], []), [(.inl 3, 245, ([], [], []))])
set_option maxRecDepth 100000 in
theorem p18x_135_e : ck_ok p1_O none [] [(132, [p18x_134])] 172 [] 76 p18x_135 = true := by decide +kernel
theorem p18x_135_s {X : Int → Int} {LX : Nat} : ck_Ok p1_O X LX 172 p18x_135 := ck_ok_s (ck_E1 (ck_S1 p18x_134_s ck_S0) ck_E0) ck_X0 ck_l0 p18x_135_e
set_option maxRecDepth 100000 in
def p18x_136 : ck_Sum := ((9, 1, 6), 245, [.inr (.inr (.inl 1)), .inl ((-2147483648), (-1), none), .inl ((-2147483648), 0, none), .inr (.inr (.inl 245))], ([], [], [(3, 0, 0, ck_one 3)]), ([], []), [(.inr (some (.inl (ck_one 1))), 245, ([], [], []))])
set_option maxRecDepth 100000 in
theorem p18x_136_e : ck_ok p1_O none [] [(172, [p18x_135])] 171 [] 88 p18x_136 = true := by decide +kernel
theorem p18x_136_s {X : Int → Int} {LX : Nat} : ck_Ok p1_O X LX 171 p18x_136 := ck_ok_s (ck_E1 (ck_S1 p18x_135_s ck_S0) ck_E0) ck_X0 ck_l0 p18x_136_e
set_option maxRecDepth 100000 in
def p18x_143 : ck_Sum := ((8, 1, 6), 245, [.inr (.inr (.inl 1)), .inl ((-2147483648), (-1), none), .inl (1, 299, none)], ([], [], [(3, 0, 0, ck_one 3)]), ([], []), [(.inl 3, 245, ([], [], []))])
set_option maxRecDepth 100000 in
theorem p18x_143_e : ck_ok p1_O none [] [(132, [p18x_134])] 172 [] 76 p18x_143 = true := by decide +kernel
theorem p18x_143_s {X : Int → Int} {LX : Nat} : ck_Ok p1_O X LX 172 p18x_143 := ck_ok_s (ck_E1 (ck_S1 p18x_134_s ck_S0) ck_E0) ck_X0 ck_l0 p18x_143_e
set_option maxRecDepth 100000 in
def p18x_144 : ck_Sum := ((9, 1, 6), 245, [.inr (.inr (.inl 1)), .inl ((-2147483648), (-1), none), .inl (1, 299, none), .inr (.inr (.inl 245))], ([], [], [(3, 0, 0, ck_one 3)]), ([], []), [(.inr (some (.inl (ck_one 1))), 245, ([], [], []))])
set_option maxRecDepth 100000 in
theorem p18x_144_e : ck_ok p1_O none [] [(172, [p18x_143])] 171 [] 88 p18x_144 = true := by decide +kernel
theorem p18x_144_s {X : Int → Int} {LX : Nat} : ck_Ok p1_O X LX 171 p18x_144 := ck_ok_s (ck_E1 (ck_S1 p18x_143_s ck_S0) ck_E0) ck_X0 ck_l0 p18x_144_e
set_option maxRecDepth 100000 in
def p18x_146 : ck_Sum := ((8, 1, 6), 245, [.inr (.inr (.inl 1)), .inl ((-2147483648), (-1), none), .inl (300, 2147483647, none)], ([], [], [(3, 0, 0, ck_one 3)]), ([], []), [(.inl 3, 245, ([], [], []))])
set_option maxRecDepth 100000 in
theorem p18x_146_e : ck_ok p1_O none [] [(132, [p18x_134])] 172 [] 76 p18x_146 = true := by decide +kernel
theorem p18x_146_s {X : Int → Int} {LX : Nat} : ck_Ok p1_O X LX 172 p18x_146 := ck_ok_s (ck_E1 (ck_S1 p18x_134_s ck_S0) ck_E0) ck_X0 ck_l0 p18x_146_e
set_option maxRecDepth 100000 in
def p18x_147 : ck_Sum := ((9, 1, 6), 245, [.inr (.inr (.inl 1)), .inl ((-2147483648), (-1), none), .inl (300, 2147483647, none), .inr (.inr (.inl 245))], ([], [], [(3, 0, 0, ck_one 3)]), ([], []), [(.inr (some (.inl (ck_one 1))), 245, ([], [], []))])
set_option maxRecDepth 100000 in
theorem p18x_147_e : ck_ok p1_O none [] [(172, [p18x_146])] 171 [] 88 p18x_147 = true := by decide +kernel
theorem p18x_147_s {X : Int → Int} {LX : Nat} : ck_Ok p1_O X LX 171 p18x_147 := ck_ok_s (ck_E1 (ck_S1 p18x_146_s ck_S0) ck_E0) ck_X0 ck_l0 p18x_147_e
set_option maxRecDepth 100000 in
def p18x_149 : ck_Sum := ((0, 0, 0), 245, [.inr (.inr (.inl 1)), .inl (0, 2, none), .inl (ck_one 3)], ([], [], []), ([], []), [(.inr none, 245, ([], [], []))])
set_option maxRecDepth 100000 in
theorem p18x_149_e : ck_ok p1_O none [] [] 133 [] 82 p18x_149 = true := by decide +kernel
theorem p18x_149_s {X : Int → Int} {LX : Nat} : ck_Ok p1_O X LX 133 p18x_149 := ck_ok_s (ck_E0) ck_X0 ck_l0 p18x_149_e
set_option maxRecDepth 100000 in
def p18x_150 : ck_Sum := ((1, 0, 0), 245, [.inr (.inr (.inl 1)), .inl (0, 2, none)], ([], [], [(3, 0, 0, ck_one 3)]), ([], []), [(.inr none, 245, ([], [], []))])
set_option maxRecDepth 100000 in
theorem p18x_150_e : ck_ok p1_O none [] [(133, [p18x_149])] 132 [] 84 p18x_150 = true := by decide +kernel
theorem p18x_150_s {X : Int → Int} {LX : Nat} : ck_Ok p1_O X LX 132 p18x_150 := ck_ok_s (ck_E1 (ck_S1 p18x_149_s ck_S0) ck_E0) ck_X0 ck_l0 p18x_150_e
set_option maxRecDepth 100000 in
def p18x_151 : ck_Sum := ((6, 1, 6), 245, [.inr (.inr (.inl 1)), .inl (0, 2, none), .inl ((-2147483648), 0, none)], ([], [], [(3, 0, 0, ck_one 3)]), ([], []), [(.inl 0, 245, ([], [], []))])
set_option maxRecDepth 100000 in
theorem p18x_151_e : ck_ok p1_O none [] [(132, [p18x_150])] 172 [] 84 p18x_151 = true := by decide +kernel
theorem p18x_151_s {X : Int → Int} {LX : Nat} : ck_Ok p1_O X LX 172 p18x_151 := ck_ok_s (ck_E1 (ck_S1 p18x_150_s ck_S0) ck_E0) ck_X0 ck_l0 p18x_151_e
set_option maxRecDepth 100000 in
def p18x_152 : ck_Sum := ((7, 1, 6), 245, [.inr (.inr (.inl 1)), .inl (0, 2, none), .inl ((-2147483648), 0, none), .inr (.inr (.inl 245))], ([], [], [(3, 0, 0, ck_one 3)]), ([], []), [(.inr (some (.inl (ck_one 2))), 245, ([], [], []))])
set_option maxRecDepth 100000 in
theorem p18x_152_e : ck_ok p1_O none [] [(172, [p18x_151])] 171 [] 88 p18x_152 = true := by decide +kernel
theorem p18x_152_s {X : Int → Int} {LX : Nat} : ck_Ok p1_O X LX 171 p18x_152 := ck_ok_s (ck_E1 (ck_S1 p18x_151_s ck_S0) ck_E0) ck_X0 ck_l0 p18x_152_e
set_option maxRecDepth 100000 in
def p18x_6692 : ck_Sum := ((0, 0, 0), 245, [.inr (.inr (.inl 206)), .inl (0, 2, none), .inl (0, 39, none), .inl (ck_one 0), .inl (ck_one 0)], ([], [], []), ([(206, 2, 8)], []), [(.inr none, 245, ([], [], [(206, 8, 8, ck_one 0), (206, 6, 6, ck_one 0), (206, 4, 4, ck_one (-1)), (206, 3, 3, ck_one 0), (206, 7, 7, ck_one 0), (206, 5, 5, (0, 39, none)), (206, 2, 2, (0, 2, none))]))])
set_option maxRecDepth 100000 in
theorem p18x_6692_e : ck_ok p1_O none [] [] 29 [] 114 p18x_6692 = true := by decide +kernel
theorem p18x_6692_s {X : Int → Int} {LX : Nat} : ck_Ok p1_O X LX 29 p18x_6692 := ck_ok_s (ck_E0) ck_X0 ck_l0 p18x_6692_e
set_option maxRecDepth 100000 in
def p18x_6693 : ck_Sum := ((0, 0, 0), 245, [.inr (.inr (.inl 206))], ([], [], [(206, 5, 5, (0, 39, none)), (3, 1, 1, ck_one 40)]), ([], []), [(.inr (some (.inl (ck_one 0))), 245, ([], [], []))])
set_option maxRecDepth 100000 in
theorem p18x_6693_e : ck_ok p1_O none [] [] 31 [] 86 p18x_6693 = true := by decide +kernel
theorem p18x_6693_s {X : Int → Int} {LX : Nat} : ck_Ok p1_O X LX 31 p18x_6693 := ck_ok_s (ck_E0) ck_X0 ck_l0 p18x_6693_e
set_option maxRecDepth 100000 in
def p18x_2722 : ck_Sum := ((0, 0, 0), 245, [.inr (.inr (.inl 200)), .inl ((-2147483648), 2147483647, none)], ([], [], []), ([], []), [(.inr (some (.inl ((-2147483648), 2147483647, none))), 245, ([], [], []))])
set_option maxRecDepth 100000 in
theorem p18x_2722_e : ck_ok p1_O none [] [] 34 [] 92 p18x_2722 = true := by decide +kernel
theorem p18x_2722_s {X : Int → Int} {LX : Nat} : ck_Ok p1_O X LX 34 p18x_2722 := ck_ok_s (ck_E0) ck_X0 ck_l0 p18x_2722_e
set_option maxRecDepth 100000 in
def p18x_6945 : ck_Sum := ((1, 0, 0), 245, [.inr (.inr (.inl 206))], ([], [], [(206, 3, 3, ck_one 0), (206, 5, 5, (0, 39, none)), (3, 3, 3, ck_one 2), (3, 2, 2, ck_one 10)]), ([], []), [(.inr (some (.inl ((-2147483648), 2147483647, none))), 245, ([], [], []))])
set_option maxRecDepth 100000 in
theorem p18x_6945_e : ck_ok p1_O none [] [(34, [p18x_2722])] 33 [] 110 p18x_6945 = true := by decide +kernel
theorem p18x_6945_s {X : Int → Int} {LX : Nat} : ck_Ok p1_O X LX 33 p18x_6945 := ck_ok_s (ck_E1 (ck_S1 p18x_2722_s ck_S0) ck_E0) ck_X0 ck_l0 p18x_6945_e
set_option maxRecDepth 100000 in
def p18x_6699 : ck_Sum := ((0, 0, 0), 245, [.inr (.inr (.inl 200)), .inl (0, 2, none), .inl (0, 39, none)], ([], [], [(202, 0, 593, ck_one 0)]), ([], []), [(.inr (some (.inl (ck_one 0))), 245, ([], [], []))])
set_option maxRecDepth 100000 in
theorem p18x_6699_e : ck_ok p1_O none [] [] 36 [] 108 p18x_6699 = true := by decide +kernel
theorem p18x_6699_s {X : Int → Int} {LX : Nat} : ck_Ok p1_O X LX 36 p18x_6699 := ck_ok_s (ck_E0) ck_X0 ck_l0 p18x_6699_e
set_option maxRecDepth 100000 in
def p18x_6946 : ck_Sum := ((1, 0, 0), 245, [.inr (.inr (.inl 200)), .inl (0, 2, none), .inl (0, 39, none), .inl ((-2147483648), 2147483647, none)], ([], [(3, 8, 0)], [(202, 0, 593, ck_one 0)]), ([], []), [(.inr (some (.inl (ck_one 0))), 245, ([], [], []))])
set_option maxRecDepth 100000 in
theorem p18x_6946_e : ck_ok p1_O none [] [(36, [p18x_6699])] 35 [] 92 p18x_6946 = true := by decide +kernel
theorem p18x_6946_s {X : Int → Int} {LX : Nat} : ck_Ok p1_O X LX 35 p18x_6946 := ck_ok_s (ck_E1 (ck_S1 p18x_6699_s ck_S0) ck_E0) ck_X0 ck_l0 p18x_6946_e
set_option maxRecDepth 100000 in
def p18x_515 : ck_Sum := ((0, 0, 0), 245, [.inr (.inr (.inl 200)), .inl ((-2147483648), 2147483647, none)], ([], [], [(203, 0, 299, ck_one 0)]), ([], []), [(.inr (some (.inl (ck_one 0))), 245, ([], [], []))])
set_option maxRecDepth 100000 in
theorem p18x_515_e : ck_ok p1_O none [] [] 44 [] 92 p18x_515 = true := by decide +kernel
theorem p18x_515_s {X : Int → Int} {LX : Nat} : ck_Ok p1_O X LX 44 p18x_515 := ck_ok_s (ck_E0) ck_X0 ck_l0 p18x_515_e
set_option maxRecDepth 100000 in
def p18x_516 : ck_Sum := ((1, 0, 0), 245, [.inr (.inr (.inl 206))], ([], [], [(203, 0, 299, ck_one 0)]), ([], []), [(.inr none, 245, ([], [], []))])
set_option maxRecDepth 100000 in
theorem p18x_516_e : ck_ok p1_O none [] [(44, [p18x_515])] 43 [(22, [some (.inr (.inr (.inl 206))), some (.inr (.inr (.inl 6))), some (.inl (ck_one 0)), some (.inl (ck_one 0)), none], ([], [], [(203, 0, 299, ck_one 0)]), 100, .inl 3, true)] 142 p18x_516 = true := by decide +kernel
theorem p18x_516_s {X : Int → Int} {LX : Nat} : ck_Ok p1_O X LX 43 p18x_516 := ck_ok_s (ck_E1 (ck_S1 p18x_515_s ck_S0) ck_E0) ck_X0 ck_l0 p18x_516_e
set_option maxRecDepth 100000 in
def p18x_6947 : ck_Sum := ((2, 0, 0), 245, [.inr (.inr (.inl 206))], ([], [(3, 8, 0)], [(206, 3, 3, ck_one 0), (206, 5, 5, (0, 39, none)), (206, 2, 2, (0, 2, none)), (3, 3, 3, ck_one 2), (3, 2, 2, ck_one 10), (3, 1, 1, ck_one 40), (203, 0, 299, ck_one 0), (202, 0, 593, ck_one 0)]), ([(206, 5, 7)], []), [(.inr none, 245, ([], [], [(206, 5, 5, (0, 39, none))]))])
set_option maxRecDepth 100000 in
theorem p18x_6947_e : ck_ok p1_O none [] [(31, [p18x_6693]), (33, [p18x_6945]), (35, [p18x_6946]), (43, [p18x_516])] 32 [] 134 p18x_6947 = true := by decide +kernel
theorem p18x_6947_s {X : Int → Int} {LX : Nat} : ck_Ok p1_O X LX 32 p18x_6947 := ck_ok_s (ck_E1 (ck_S1 p18x_6693_s ck_S0) (ck_E1 (ck_S1 p18x_6945_s ck_S0) (ck_E1 (ck_S1 p18x_6946_s ck_S0) (ck_E1 (ck_S1 p18x_516_s ck_S0) ck_E0)))) ck_X0 ck_l0 p18x_6947_e
set_option maxRecDepth 100000 in
def p18x_6955 : ck_Sum := ((3, 0, 0), 245, [.inr (.inr (.inl 206)), .inl (1, 299, none)], ([], [(3, 8, 0)], [(206, 3, 3, ck_one 0), (206, 7, 7, ck_one 0), (206, 5, 5, (0, 39, none)), (206, 2, 2, (0, 2, none)), (3, 3, 3, ck_one 2), (3, 2, 2, ck_one 10), (3, 1, 1, ck_one 40), (203, 0, 299, ck_one 0), (202, 0, 593, ck_one 0)]), ([(206, 5, 7)], []), [(.inr (some (.inl (ck_one (-1)))), 245, ([], [], [(206, 5, 5, (0, 39, none))]))])
set_option maxRecDepth 100000 in
theorem p18x_6955_e : ck_ok p1_O none [] [(31, [p18x_6693]), (32, [p18x_6947])] 30 [(5, [some (.inr (.inr (.inl 206))), some (.inl (1, 299, none)), some (.inl (0, 300, none))], ([], [(3, 8, 0)], [(206, 3, 3, ck_one 0), (206, 5, 5, (0, 39, none)), (206, 2, 2, (0, 2, none)), (3, 3, 3, ck_one 2), (3, 2, 2, ck_one 10), (3, 1, 1, ck_one 40), (203, 0, 299, ck_one 0), (202, 0, 593, ck_one 0)]), 100, .inl 2, true)] 134 p18x_6955 = true := by decide +kernel
theorem p18x_6955_s {X : Int → Int} {LX : Nat} : ck_Ok p1_O X LX 30 p18x_6955 := ck_ok_s (ck_E1 (ck_S1 p18x_6693_s ck_S0) (ck_E1 (ck_S1 p18x_6947_s ck_S0) ck_E0)) ck_X0 ck_l0 p18x_6955_e
set_option maxRecDepth 100000 in
def p18x_6956 : ck_Sum := ((4, 0, 0), 245, [.inr (.inr (.inl 1)), .inl (0, 2, none), .inl (1, 299, none)], ([], [(3, 8, 0)], [(206, 8, 8, ck_one 0), (206, 7, 7, ck_one 0), (206, 5, 5, ck_one 0), (206, 4, 4, ck_one (-1)), (206, 3, 3, ck_one 0), (206, 2, 2, ck_one 0), (3, 6, 6, ck_one 0), (3, 3, 3, ck_one 2), (3, 2, 2, ck_one 10), (3, 1, 1, ck_one 40), (3, 0, 0, ck_one 3), (203, 0, 299, ck_one 0), (202, 0, 593, ck_one 0)]), ([(206, 2, 8)], []), [(.inr (some (.inl (ck_one (-1)))), 245, ([], [], [(206, 8, 8, ck_one 0), (206, 5, 5, (0, 39, none)), (206, 4, 4, ck_one (-1)), (206, 3, 3, ck_one 0), (206, 2, 2, (0, 2, none))]))])
set_option maxRecDepth 100000 in
theorem p18x_6956_e : ck_ok p1_O none [] [(132, [p18x_150]), (29, [p18x_6692]), (30, [p18x_6955])] 172 [(47, [some (.inr (.inr (.inl 1))), some (.inl (0, 2, none)), some (.inl (1, 299, none)), some (.inl (1, 299, none)), some (.inl (0, 40, none))], ([], [(3, 8, 0)], [(206, 8, 8, ck_one 0), (206, 5, 5, (0, 39, none)), (206, 4, 4, ck_one (-1)), (206, 3, 3, ck_one 0), (206, 2, 2, (0, 2, none)), (3, 6, 6, ck_one 0), (3, 3, 3, ck_one 2), (3, 2, 2, ck_one 10), (3, 1, 1, ck_one 40), (3, 0, 0, ck_one 3), (203, 0, 299, ck_one 0), (202, 0, 593, ck_one 0)]), 100, .inl 4, true)] 182 p18x_6956 = true := by decide +kernel
theorem p18x_6956_s {X : Int → Int} {LX : Nat} : ck_Ok p1_O X LX 172 p18x_6956 := ck_ok_s (ck_E1 (ck_S1 p18x_150_s ck_S0) (ck_E1 (ck_S1 p18x_6692_s ck_S0) (ck_E1 (ck_S1 p18x_6955_s ck_S0) ck_E0))) ck_X0 ck_l0 p18x_6956_e
set_option maxRecDepth 100000 in
def p18x_6957 : ck_Sum := ((5, 0, 0), 245, [.inr (.inr (.inl 1)), .inl (0, 2, none), .inl (1, 299, none), .inr (.inr (.inl 245))], ([], [(3, 8, 0)], [(206, 8, 8, ck_one 0), (206, 7, 7, ck_one 0), (206, 5, 5, ck_one 0), (206, 4, 4, ck_one (-1)), (206, 3, 3, ck_one 0), (206, 2, 2, ck_one 0), (3, 6, 6, ck_one 0), (3, 3, 3, ck_one 2), (3, 2, 2, ck_one 10), (3, 1, 1, ck_one 40), (3, 0, 0, ck_one 3), (203, 0, 299, ck_one 0), (202, 0, 593, ck_one 0)]), ([(206, 2, 8), (245, 0, 0)], []), [(.inr (some (.inl (ck_one 0))), 245, ([], [], [(245, 0, 0, ck_one (-1)), (206, 8, 8, ck_one 0), (206, 5, 5, (0, 39, none)), (206, 4, 4, ck_one (-1)), (206, 3, 3, ck_one 0), (206, 2, 2, (0, 2, none))]))])
set_option maxRecDepth 100000 in
theorem p18x_6957_e : ck_ok p1_O none [] [(172, [p18x_6956])] 171 [] 92 p18x_6957 = true := by decide +kernel
theorem p18x_6957_s {X : Int → Int} {LX : Nat} : ck_Ok p1_O X LX 171 p18x_6957 := ck_ok_s (ck_E1 (ck_S1 p18x_6956_s ck_S0) ck_E0) ck_X0 ck_l0 p18x_6957_e
set_option maxRecDepth 100000 in
def p18x_8612 : ck_Sum := ((6, 1, 6), 245, [.inr (.inr (.inl 1)), .inl (0, 2, none), .inl (300, 2147483647, none)], ([], [], [(3, 0, 0, ck_one 3)]), ([], []), [(.inl 0, 245, ([], [], []))])
set_option maxRecDepth 100000 in
theorem p18x_8612_e : ck_ok p1_O none [] [(132, [p18x_150])] 172 [] 90 p18x_8612 = true := by decide +kernel
theorem p18x_8612_s {X : Int → Int} {LX : Nat} : ck_Ok p1_O X LX 172 p18x_8612 := ck_ok_s (ck_E1 (ck_S1 p18x_150_s ck_S0) ck_E0) ck_X0 ck_l0 p18x_8612_e
set_option maxRecDepth 100000 in
def p18x_8613 : ck_Sum := ((7, 1, 6), 245, [.inr (.inr (.inl 1)), .inl (0, 2, none), .inl (300, 2147483647, none), .inr (.inr (.inl 245))], ([], [], [(3, 0, 0, ck_one 3)]), ([], []), [(.inr (some (.inl (ck_one 2))), 245, ([], [], []))])
set_option maxRecDepth 100000 in
theorem p18x_8613_e : ck_ok p1_O none [] [(172, [p18x_8612])] 171 [] 88 p18x_8613 = true := by decide +kernel
theorem p18x_8613_s {X : Int → Int} {LX : Nat} : ck_Ok p1_O X LX 171 p18x_8613 := ck_ok_s (ck_E1 (ck_S1 p18x_8612_s ck_S0) ck_E0) ck_X0 ck_l0 p18x_8613_e
set_option maxRecDepth 100000 in
def p18x_8616 : ck_Sum := ((6, 1, 6), 245, [.inr (.inr (.inl 1)), .inl (3, 2147483647, none), .inl (ck_one 3)], ([], [], []), ([], []), [(.inl 3, 245, ([], [], []))])
set_option maxRecDepth 100000 in
theorem p18x_8616_e : ck_ok p1_O none [] [] 133 [] 82 p18x_8616 = true := by decide +kernel
theorem p18x_8616_s {X : Int → Int} {LX : Nat} : ck_Ok p1_O X LX 133 p18x_8616 := ck_ok_s (ck_E0) ck_X0 ck_l0 p18x_8616_e
set_option maxRecDepth 100000 in
def p18x_8617 : ck_Sum := ((7, 1, 6), 245, [.inr (.inr (.inl 1)), .inl (3, 2147483647, none)], ([], [], [(3, 0, 0, ck_one 3)]), ([], []), [(.inl 3, 245, ([], [], []))])
set_option maxRecDepth 100000 in
theorem p18x_8617_e : ck_ok p1_O none [] [(133, [p18x_8616])] 132 [] 82 p18x_8617 = true := by decide +kernel
theorem p18x_8617_s {X : Int → Int} {LX : Nat} : ck_Ok p1_O X LX 132 p18x_8617 := ck_ok_s (ck_E1 (ck_S1 p18x_8616_s ck_S0) ck_E0) ck_X0 ck_l0 p18x_8617_e
set_option maxRecDepth 100000 in
def p18x_8618 : ck_Sum := ((8, 1, 6), 245, [.inr (.inr (.inl 1)), .inl (3, 2147483647, none), .inl ((-2147483648), 0, none)], ([], [], [(3, 0, 0, ck_one 3)]), ([], []), [(.inl 3, 245, ([], [], []))])
set_option maxRecDepth 100000 in
theorem p18x_8618_e : ck_ok p1_O none [] [(132, [p18x_8617])] 172 [] 76 p18x_8618 = true := by decide +kernel
theorem p18x_8618_s {X : Int → Int} {LX : Nat} : ck_Ok p1_O X LX 172 p18x_8618 := ck_ok_s (ck_E1 (ck_S1 p18x_8617_s ck_S0) ck_E0) ck_X0 ck_l0 p18x_8618_e
set_option maxRecDepth 100000 in
def p18x_8619 : ck_Sum := ((9, 1, 6), 245, [.inr (.inr (.inl 1)), .inl (3, 2147483647, none), .inl ((-2147483648), 0, none), .inr (.inr (.inl 245))], ([], [], [(3, 0, 0, ck_one 3)]), ([], []), [(.inr (some (.inl (ck_one 1))), 245, ([], [], []))])
set_option maxRecDepth 100000 in
theorem p18x_8619_e : ck_ok p1_O none [] [(172, [p18x_8618])] 171 [] 88 p18x_8619 = true := by decide +kernel
theorem p18x_8619_s {X : Int → Int} {LX : Nat} : ck_Ok p1_O X LX 171 p18x_8619 := ck_ok_s (ck_E1 (ck_S1 p18x_8618_s ck_S0) ck_E0) ck_X0 ck_l0 p18x_8619_e
set_option maxRecDepth 100000 in
def p18x_8623 : ck_Sum := ((8, 1, 6), 245, [.inr (.inr (.inl 1)), .inl (3, 2147483647, none), .inl (1, 299, none)], ([], [], [(3, 0, 0, ck_one 3)]), ([], []), [(.inl 3, 245, ([], [], []))])
set_option maxRecDepth 100000 in
theorem p18x_8623_e : ck_ok p1_O none [] [(132, [p18x_8617])] 172 [] 76 p18x_8623 = true := by decide +kernel
theorem p18x_8623_s {X : Int → Int} {LX : Nat} : ck_Ok p1_O X LX 172 p18x_8623 := ck_ok_s (ck_E1 (ck_S1 p18x_8617_s ck_S0) ck_E0) ck_X0 ck_l0 p18x_8623_e
set_option maxRecDepth 100000 in
def p18x_8624 : ck_Sum := ((9, 1, 6), 245, [.inr (.inr (.inl 1)), .inl (3, 2147483647, none), .inl (1, 299, none), .inr (.inr (.inl 245))], ([], [], [(3, 0, 0, ck_one 3)]), ([], []), [(.inr (some (.inl (ck_one 1))), 245, ([], [], []))])
set_option maxRecDepth 100000 in
theorem p18x_8624_e : ck_ok p1_O none [] [(172, [p18x_8623])] 171 [] 88 p18x_8624 = true := by decide +kernel
theorem p18x_8624_s {X : Int → Int} {LX : Nat} : ck_Ok p1_O X LX 171 p18x_8624 := ck_ok_s (ck_E1 (ck_S1 p18x_8623_s ck_S0) ck_E0) ck_X0 ck_l0 p18x_8624_e
set_option maxRecDepth 100000 in
def p18x_8626 : ck_Sum := ((8, 1, 6), 245, [.inr (.inr (.inl 1)), .inl (3, 2147483647, none), .inl (300, 2147483647, none)], ([], [], [(3, 0, 0, ck_one 3)]), ([], []), [(.inl 3, 245, ([], [], []))])
set_option maxRecDepth 100000 in
theorem p18x_8626_e : ck_ok p1_O none [] [(132, [p18x_8617])] 172 [] 76 p18x_8626 = true := by decide +kernel
theorem p18x_8626_s {X : Int → Int} {LX : Nat} : ck_Ok p1_O X LX 172 p18x_8626 := ck_ok_s (ck_E1 (ck_S1 p18x_8617_s ck_S0) ck_E0) ck_X0 ck_l0 p18x_8626_e
set_option maxRecDepth 100000 in
def p18x_8627 : ck_Sum := ((9, 1, 6), 245, [.inr (.inr (.inl 1)), .inl (3, 2147483647, none), .inl (300, 2147483647, none), .inr (.inr (.inl 245))], ([], [], [(3, 0, 0, ck_one 3)]), ([], []), [(.inr (some (.inl (ck_one 1))), 245, ([], [], []))])
set_option maxRecDepth 100000 in
theorem p18x_8627_e : ck_ok p1_O none [] [(172, [p18x_8626])] 171 [] 88 p18x_8627 = true := by decide +kernel
theorem p18x_8627_s {X : Int → Int} {LX : Nat} : ck_Ok p1_O X LX 171 p18x_8627 := ck_ok_s (ck_E1 (ck_S1 p18x_8626_s ck_S0) ck_E0) ck_X0 ck_l0 p18x_8627_e
set_option maxRecDepth 100000 in
def p18x_137 : ck_Sum := ((0, 0, 0), 245, [.inr (.inr (.inl 226))], ([], [], [(227, 0, 0, ck_one 3)]), ([], []), [(.inr (some (.inl (ck_one 3))), 245, ([], [], []))])
set_option maxRecDepth 100000 in
theorem p18x_137_e : ck_ok p1_O none [] [] 262 [] 80 p18x_137 = true := by decide +kernel
theorem p18x_137_s {X : Int → Int} {LX : Nat} : ck_Ok p1_O X LX 262 p18x_137 := ck_ok_s (ck_E0) ck_X0 ck_l0 p18x_137_e
set_option maxRecDepth 100000 in
def p18x_138 : ck_Sum := ((0, 0, 0), 245, [.inl ((-2147483648), (-1), none), .inl (ck_one 0), .inl (ck_one 2)], ([], [], []), ([], []), [(.inr (some (.inl (ck_one 0))), 245, ([], [], []))])
set_option maxRecDepth 100000 in
theorem p18x_138_e : ck_ok p1_O none [] [] 287 [] 80 p18x_138 = true := by decide +kernel
theorem p18x_138_s {X : Int → Int} {LX : Nat} : ck_Ok p1_O X LX 287 p18x_138 := ck_ok_s (ck_E0) ck_X0 ck_l0 p18x_138_e
set_option maxRecDepth 100000 in
def p18x_139 : ck_Sum := ((1, 0, 0), 245, [.inr (.inr (.inl 226)), .inl ((-2147483648), (-1), none)], ([], [], [(227, 0, 0, ck_one 3)]), ([], []), [(.inr (some (.inl (ck_one 1))), 245, ([], [], []))])
set_option maxRecDepth 100000 in
theorem p18x_139_e : ck_ok p1_O none [] [(262, [p18x_137]), (287, [p18x_138])] 289 [] 92 p18x_139 = true := by decide +kernel
theorem p18x_139_s {X : Int → Int} {LX : Nat} : ck_Ok p1_O X LX 289 p18x_139 := ck_ok_s (ck_E1 (ck_S1 p18x_137_s ck_S0) (ck_E1 (ck_S1 p18x_138_s ck_S0) ck_E0)) ck_X0 ck_l0 p18x_139_e
set_option maxRecDepth 100000 in
def p18x_140 : ck_Sum := ((0, 0, 0), 245, [.inr (.inr (.inl 226)), .inl (ck_one 1), .inl (ck_one 1)], ([], [], []), ([(226, 0, 0)], []), [(.inr (some (.inl (ck_one 1))), 245, ([], [], [(226, 0, 0, ck_one 1)]))])
set_option maxRecDepth 100000 in
theorem p18x_140_e : ck_ok p1_O none [] [] 283 [] 84 p18x_140 = true := by decide +kernel
theorem p18x_140_s {X : Int → Int} {LX : Nat} : ck_Ok p1_O X LX 283 p18x_140 := ck_ok_s (ck_E0) ck_X0 ck_l0 p18x_140_e
set_option maxRecDepth 100000 in
def p18x_141 : ck_Sum := ((2, 0, 0), 245, [.inr (.inr (.inl 226)), .inl ((-2147483648), (-1), none), .inl ((-2147483648), 0, none)], ([], [], [(227, 0, 0, ck_one 3)]), ([(226, 0, 0)], []), [(.inr (some (.inl (ck_one 0))), 245, ([], [], [(226, 0, 0, ck_one 1)]))])
set_option maxRecDepth 100000 in
theorem p18x_141_e : ck_ok p1_O none [] [(289, [p18x_139]), (283, [p18x_140])] 328 [] 94 p18x_141 = true := by decide +kernel
theorem p18x_141_s {X : Int → Int} {LX : Nat} : ck_Ok p1_O X LX 328 p18x_141 := ck_ok_s (ck_E1 (ck_S1 p18x_139_s ck_S0) (ck_E1 (ck_S1 p18x_140_s ck_S0) ck_E0)) ck_X0 ck_l0 p18x_141_e
set_option maxRecDepth 100000 in
def p18x_145 : ck_Sum := ((2, 0, 0), 245, [.inr (.inr (.inl 226)), .inl ((-2147483648), (-1), none), .inl (1, 299, none)], ([], [], [(227, 0, 0, ck_one 3)]), ([(226, 0, 0)], []), [(.inr (some (.inl (ck_one 0))), 245, ([], [], [(226, 0, 0, ck_one 1)]))])
set_option maxRecDepth 100000 in
theorem p18x_145_e : ck_ok p1_O none [] [(289, [p18x_139]), (283, [p18x_140])] 328 [] 94 p18x_145 = true := by decide +kernel
theorem p18x_145_s {X : Int → Int} {LX : Nat} : ck_Ok p1_O X LX 328 p18x_145 := ck_ok_s (ck_E1 (ck_S1 p18x_139_s ck_S0) (ck_E1 (ck_S1 p18x_140_s ck_S0) ck_E0)) ck_X0 ck_l0 p18x_145_e
set_option maxRecDepth 100000 in
def p18x_148 : ck_Sum := ((2, 0, 0), 245, [.inr (.inr (.inl 226)), .inl ((-2147483648), (-1), none), .inl (300, 2147483647, none)], ([], [], [(227, 0, 0, ck_one 3)]), ([(226, 0, 0)], []), [(.inr (some (.inl (ck_one 0))), 245, ([], [], [(226, 0, 0, ck_one 1)]))])
set_option maxRecDepth 100000 in
theorem p18x_148_e : ck_ok p1_O none [] [(289, [p18x_139]), (283, [p18x_140])] 328 [] 94 p18x_148 = true := by decide +kernel
theorem p18x_148_s {X : Int → Int} {LX : Nat} : ck_Ok p1_O X LX 328 p18x_148 := ck_ok_s (ck_E1 (ck_S1 p18x_139_s ck_S0) (ck_E1 (ck_S1 p18x_140_s ck_S0) ck_E0)) ck_X0 ck_l0 p18x_148_e
set_option maxRecDepth 100000 in
def p18x_153 : ck_Sum := ((0, 0, 0), 245, [.inl (0, 2, none), .inl (ck_one 0), .inl (ck_one 2)], ([], [], []), ([], []), [(.inr (some (.inl (ck_one 1))), 245, ([], [], []))])
set_option maxRecDepth 100000 in
theorem p18x_153_e : ck_ok p1_O none [] [] 287 [] 88 p18x_153 = true := by decide +kernel
theorem p18x_153_s {X : Int → Int} {LX : Nat} : ck_Ok p1_O X LX 287 p18x_153 := ck_ok_s (ck_E0) ck_X0 ck_l0 p18x_153_e
set_option maxRecDepth 100000 in
def p18x_154 : ck_Sum := ((1, 0, 0), 245, [.inr (.inr (.inl 226)), .inl (0, 2, none)], ([], [], [(227, 0, 0, ck_one 3)]), ([], []), [(.inr (some (.inl (ck_one 0))), 245, ([], [], []))])
set_option maxRecDepth 100000 in
theorem p18x_154_e : ck_ok p1_O none [] [(262, [p18x_137]), (287, [p18x_153])] 289 [] 90 p18x_154 = true := by decide +kernel
theorem p18x_154_s {X : Int → Int} {LX : Nat} : ck_Ok p1_O X LX 289 p18x_154 := ck_ok_s (ck_E1 (ck_S1 p18x_137_s ck_S0) (ck_E1 (ck_S1 p18x_153_s ck_S0) ck_E0)) ck_X0 ck_l0 p18x_154_e
set_option maxRecDepth 100000 in
def p18x_155 : ck_Sum := ((0, 0, 0), 245, [.inr (.inr (.inl 226)), .inl (ck_one 0), .inl (ck_one 1)], ([], [], []), ([], []), [(.inr (some (.inl (ck_one 0))), 245, ([], [], []))])
set_option maxRecDepth 100000 in
theorem p18x_155_e : ck_ok p1_O none [] [] 283 [] 78 p18x_155 = true := by decide +kernel
theorem p18x_155_s {X : Int → Int} {LX : Nat} : ck_Ok p1_O X LX 283 p18x_155 := ck_ok_s (ck_E0) ck_X0 ck_l0 p18x_155_e
set_option maxRecDepth 100000 in
def p18x_157 : ck_Sum := ((0, 0, 0), 245, [.inr (.inr (.inl 226)), .inl (ck_one 1), .inl (ck_one 2)], ([], [], []), ([(226, 0, 0)], []), [(.inr (some (.inl (ck_one 1))), 245, ([], [], [(226, 0, 0, ck_one 2)]))])
set_option maxRecDepth 100000 in
theorem p18x_157_e : ck_ok p1_O none [] [] 283 [] 84 p18x_157 = true := by decide +kernel
theorem p18x_157_s {X : Int → Int} {LX : Nat} : ck_Ok p1_O X LX 283 p18x_157 := ck_ok_s (ck_E0) ck_X0 ck_l0 p18x_157_e
set_option maxRecDepth 100000 in
def p18x_156 : ck_Sum := ((0, 0, 0), 245, [.inl ((-2147483648), 0, none), .inl (ck_one 1), .inl (ck_one 299)], ([], [], []), ([], []), [(.inr (some (.inl (ck_one 0))), 245, ([], [], []))])
set_option maxRecDepth 100000 in
theorem p18x_156_e : ck_ok p1_O none [] [] 287 [] 80 p18x_156 = true := by decide +kernel
theorem p18x_156_s {X : Int → Int} {LX : Nat} : ck_Ok p1_O X LX 287 p18x_156 := ck_ok_s (ck_E0) ck_X0 ck_l0 p18x_156_e
set_option maxRecDepth 100000 in
def p18x_158 : ck_Sum := ((2, 0, 0), 245, [.inr (.inr (.inl 226)), .inl (0, 2, none), .inl ((-2147483648), 0, none)], ([], [], [(227, 0, 0, ck_one 3)]), ([(226, 0, 0)], []), [(.inr (some (.inl (ck_one 0))), 245, ([], [], [(226, 0, 0, ck_one 2)]))])
set_option maxRecDepth 100000 in
theorem p18x_158_e : ck_ok p1_O none [] [(289, [p18x_154]), (283, [p18x_155, p18x_157]), (287, [p18x_156])] 328 [] 116 p18x_158 = true := by decide +kernel
theorem p18x_158_s {X : Int → Int} {LX : Nat} : ck_Ok p1_O X LX 328 p18x_158 := ck_ok_s (ck_E1 (ck_S1 p18x_154_s ck_S0) (ck_E1 (ck_S1 p18x_155_s (ck_S1 p18x_157_s ck_S0)) (ck_E1 (ck_S1 p18x_156_s ck_S0) ck_E0))) ck_X0 ck_l0 p18x_158_e
set_option maxRecDepth 100000 in
def p18x_6959 : ck_Sum := ((0, 0, 0), 245, [.inr (.inr (.inl 226)), .inl (ck_one 0), .inl (ck_one 2)], ([], [], []), ([], []), [(.inr (some (.inl (ck_one 0))), 245, ([], [], []))])
set_option maxRecDepth 100000 in
theorem p18x_6959_e : ck_ok p1_O none [] [] 283 [] 78 p18x_6959 = true := by decide +kernel
theorem p18x_6959_s {X : Int → Int} {LX : Nat} : ck_Ok p1_O X LX 283 p18x_6959 := ck_ok_s (ck_E0) ck_X0 ck_l0 p18x_6959_e
set_option maxRecDepth 100000 in
def p18x_6958 : ck_Sum := ((0, 0, 0), 245, [.inl (1, 299, none), .inl (ck_one 1), .inl (ck_one 299)], ([], [], []), ([], []), [(.inr (some (.inl (ck_one 1))), 245, ([], [], []))])
set_option maxRecDepth 100000 in
theorem p18x_6958_e : ck_ok p1_O none [] [] 287 [] 88 p18x_6958 = true := by decide +kernel
theorem p18x_6958_s {X : Int → Int} {LX : Nat} : ck_Ok p1_O X LX 287 p18x_6958 := ck_ok_s (ck_E0) ck_X0 ck_l0 p18x_6958_e
set_option maxRecDepth 100000 in
def p18x_6960 : ck_Sum := ((0, 0, 0), 245, [.inr (.inr (.inl 226))], ([], [], [(227, 1, 1, ck_one 40)]), ([], []), [(.inr (some (.inl (ck_one 40))), 245, ([], [], []))])
set_option maxRecDepth 100000 in
theorem p18x_6960_e : ck_ok p1_O none [] [] 260 [] 80 p18x_6960 = true := by decide +kernel
theorem p18x_6960_s {X : Int → Int} {LX : Nat} : ck_Ok p1_O X LX 260 p18x_6960 := ck_ok_s (ck_E0) ck_X0 ck_l0 p18x_6960_e
set_option maxRecDepth 100000 in
def p18x_6961 : ck_Sum := ((0, 0, 0), 245, [.inr (.inr (.inl 226))], ([], [], [(227, 2, 9, ck_one 0)]), ([], []), [(.inr (some (.inl (ck_one 0))), 245, ([], [], []))])
set_option maxRecDepth 100000 in
theorem p18x_6961_e : ck_ok p1_O none [] [] 267 [] 80 p18x_6961 = true := by decide +kernel
theorem p18x_6961_s {X : Int → Int} {LX : Nat} : ck_Ok p1_O X LX 267 p18x_6961 := ck_ok_s (ck_E0) ck_X0 ck_l0 p18x_6961_e
set_option maxRecDepth 100000 in
def p18x_6962 : ck_Sum := ((0, 0, 0), 245, [.inr (.inr (.inl 226)), .inl (0, 2, none)], ([], [], [(226, 26, 26, ((-1), 2, none)), (235, 0, 11999, (0, 1, none))]), ([(226, 26, 26), (235, 0, 29699)], []), [(.inr none, 245, ([], [], [(226, 26, 26, (0, 2, none)), (235, 0, 11999, (0, 1, none))]))])
set_option maxRecDepth 100000 in
theorem p18x_6962_e : ck_ok p1_O none [] [] 294 [(16, [some (.inr (.inr (.inl 226))), some (.inl (0, 2, none)), some (.inl (0, 29700, none))], ([], [], [(226, 26, 26, (0, 2, none)), (235, 0, 11999, (0, 1, none))]), 100, .inl 2, true)] 142 p18x_6962 = true := by decide +kernel
theorem p18x_6962_s {X : Int → Int} {LX : Nat} : ck_Ok p1_O X LX 294 p18x_6962 := ck_ok_s (ck_E0) ck_X0 ck_l0 p18x_6962_e
set_option maxRecDepth 100000 in
def p18x_6963 : ck_Sum := ((0, 0, 0), 245, [.inr (.inr (.inl 226)), .inl (0, 2, none), .inl (0, 39, none)], ([], [], [(227, 2, 9, ck_one 0)]), ([], []), [(.inr (some (.inl (ck_one 0))), 245, ([], [], []))])
set_option maxRecDepth 100000 in
theorem p18x_6963_e : ck_ok p1_O none [] [] 291 [(5, [some (.inr (.inr (.inl 226))), some (.inl (0, 2, none)), some (.inl (0, 39, none)), some (.inl (ck_one 0)), some (.inl (ck_one 0))], ([], [], [(227, 2, 9, ck_one 0)]), 100, .inl 3, true)] 122 p18x_6963 = true := by decide +kernel
theorem p18x_6963_s {X : Int → Int} {LX : Nat} : ck_Ok p1_O X LX 291 p18x_6963 := ck_ok_s (ck_E0) ck_X0 ck_l0 p18x_6963_e
set_option maxRecDepth 100000 in
def p18x_6964 : ck_Sum := ((0, 0, 0), 245, [.inr (.inr (.inl 226)), .inl (ck_one 0)], ([], [], [(227, 2, 9, ck_one 0)]), ([], []), [(.inr (some (.inl (ck_one 0))), 245, ([], [], []))])
set_option maxRecDepth 100000 in
theorem p18x_6964_e : ck_ok p1_O none [] [] 295 [(4, [some (.inr (.inr (.inl 226))), some (.inl (ck_one 0)), some (.inl (ck_one 0)), some (.inl (ck_one 0))], ([], [], [(227, 2, 9, ck_one 0)]), 100, .inl 2, true)] 122 p18x_6964 = true := by decide +kernel
theorem p18x_6964_s {X : Int → Int} {LX : Nat} : ck_Ok p1_O X LX 295 p18x_6964 := ck_ok_s (ck_E0) ck_X0 ck_l0 p18x_6964_e
set_option maxRecDepth 100000 in
def p18x_6965 : ck_Sum := ((0, 0, 0), 245, [.inr (.inr (.inl 226)), .inl (ck_one 1)], ([], [], [(227, 2, 9, ck_one 0)]), ([], []), [(.inr (some (.inl (ck_one 0))), 245, ([], [], []))])
set_option maxRecDepth 100000 in
theorem p18x_6965_e : ck_ok p1_O none [] [] 295 [(4, [some (.inr (.inr (.inl 226))), some (.inl (ck_one 1)), some (.inl (ck_one 0)), some (.inl (ck_one 0))], ([], [], [(227, 2, 9, ck_one 0)]), 100, .inl 2, true)] 122 p18x_6965 = true := by decide +kernel
theorem p18x_6965_s {X : Int → Int} {LX : Nat} : ck_Ok p1_O X LX 295 p18x_6965 := ck_ok_s (ck_E0) ck_X0 ck_l0 p18x_6965_e
set_option maxRecDepth 100000 in
def p18x_6966 : ck_Sum := ((1, 0, 0), 245, [.inr (.inr (.inl 226)), .inl (0, 2, none), .inl (0, 39, none), .inl (0, 299, none)], ([], [], [(226, 26, 26, ((-1), 2, none)), (226, 19, 19, (0, 299, none)), (226, 18, 18, (0, 39, none)), (226, 17, 17, (0, 2, none)), (227, 2, 9, ck_one 0), (226, 20, 20, ck_one 0), (226, 21, 21, ck_one 0), (226, 22, 22, ck_one 0), (226, 23, 23, ck_one 0), (235, 0, 11999, (0, 1, none))]), ([(226, 17, 23), (226, 26, 26), (235, 0, 29699)], []), [(.inr (some (.inl (ck_one 0))), 245, ([], [], [(226, 23, 23, ck_one 0), (226, 22, 22, ck_one 0), (226, 21, 21, ck_one 0), (226, 20, 20, ck_one 0), (226, 19, 19, (0, 299, none)), (226, 18, 18, (0, 39, none)), (226, 17, 17, (0, 2, none)), (226, 26, 26, (0, 2, none)), (235, 0, 11999, (0, 1, none))]))])
def p18x_6966_E : List (Nat × List ck_Sum) := [(294, [p18x_6962]), (291, [p18x_6963]), (295, [p18x_6964, p18x_6965])]
def p18x_6966_L : ck_AL := [some (.inr (.inr (.inl 226))), some (.inl (0, 2, none)), some (.inl (0, 39, none)), some (.inl (0, 299, none)), some (.inl (0, 11999, none)), none]
set_option maxRecDepth 100000 in
def p18x_6966_F : ck_F := ([], [], [(226, 26, 26, (0, 2, none)), (235, 0, 11999, (0, 1, none)), (226, 19, 19, (0, 299, none)), (226, 18, 18, (0, 39, none)), (226, 17, 17, (0, 2, none)), (227, 2, 9, ck_one 0), (226, 20, 20, ck_one 0), (226, 21, 21, ck_one 0), (226, 22, 22, ck_one 0), (226, 23, 23, ck_one 0)])
def p18x_6966_C : ck_C := (p18x_6966_L, p18x_6966_F, 0, .inl 4, true)
set_option maxRecDepth 100000 in
theorem p18x_6966_a : (decide (p18x_6966.2.2.1.length ≤ gm_ml 293) && ck_go p1_O none [] p18x_6966_E 293 p18x_6966.1.1 p18x_6966.2.1 p18x_6966.2.2.2.2.1 p18x_6966.2.2.2.2.2 [(14, p18x_6966_C)] 400 false [(14, p18x_6966_C, 0, 0, 245)] p18x_6966.1.2.1 p18x_6966.1.2.2 0 (p18x_6966.2.2.1.map some ++ List.replicate (gm_ml 293 - p18x_6966.2.2.1.length) none) [] p18x_6966.2.1 p18x_6966.2.2.2.1) = true := by decide +kernel
set_option maxRecDepth 100000 in
theorem p18x_6966_b : ck_go p1_O none [] p18x_6966_E 293 p18x_6966.1.1 p18x_6966.2.1 p18x_6966.2.2.2.2.1 p18x_6966.2.2.2.2.2 [] 400 true [] 0 0 34 p18x_6966_L [] 245 p18x_6966_F = true := by decide +kernel
set_option maxRecDepth 100000 in
theorem p18x_6966_f : ck_fi p18x_6966_F 235 0 11999 = some (0, 1, none) := by decide +kernel
set_option maxRecDepth 100000 in
theorem p18x_6966_g : ck_leF p1_O p18x_6966_F (([], [], [(226, 23, 23, ck_one 0), (226, 22, 22, ck_one 0), (226, 21, 21, ck_one 0), (226, 20, 20, ck_one 0), (226, 19, 19, (0, 299, none)), (226, 18, 18, (0, 39, none)), (226, 17, 17, (0, 2, none)), (226, 26, 26, (0, 2, none)), (235, 0, 11999, (0, 1, none))])) = true := by decide +kernel
theorem p18x_6966_h {X : Int → Int} {LX : Nat} : ck_OkE p1_O X LX p18x_6966_E := ck_E1 (ck_S1 p18x_6962_s ck_S0) (ck_E1 (ck_S1 p18x_6963_s ck_S0) (ck_E1 (ck_S1 p18x_6964_s (ck_S1 p18x_6965_s ck_S0)) ck_E0))
theorem p18x_6966_s {X : Int → Int} {LX : Nat} : ck_Ok p1_O X LX 293 p18x_6966 := by
  refine ck_ok_st (cuts := [(14, p18x_6966_C)]) p18x_6966_h p18x_6966_a (fun h hm => ?_)
  rw [List.mem_singleton.mp hm]
  refine ⟨rfl, fun σ K0 R0 M0 v _ bc bs L K R M hb1 hb2 hS _ => ?_⟩
  obtain ⟨hF, hl, hs, hf, hfr⟩ := hS
  obtain ⟨u0, e0, g0⟩ := hl.2 0 (.inr (.inr (.inl 226))) rfl
  cases g0
  obtain ⟨u4, e4, t, rfl, ht1, ht2, ht3, -⟩ := hl.2 4 (.inl (0, 11999, none)) rfl
  have ht2 : (0 : Int) ≤ t := ht2
  have ht3 : t ≤ (11999 : Int) := ht3
  obtain ⟨-, hM1, hM2, -⟩ := (ck_fi_s hf p18x_6966_f).2 t (by omega) (by omega)
  have hM1 : (0 : Int) ≤ M 235 t := hM1
  have hM2 : M 235 t ≤ (1 : Int) := hM2
  refine ck_flow (O := p1_O) hF (k := 226) (fl := 235) (by decide +kernel) (by decide +kernel) (by decide +kernel) e0 e4 ⟨by omega, by omega⟩ ⟨by omega, by omega⟩ (fun hp => ?_) ?_
  · have e : M 235 t - 1 = 0 := by omega
    rw [e]
    exact ⟨hF, hfr, _, List.mem_cons_self, ⟨0, rfl, ⟨by decide, by decide⟩, by decide, by decide, fun _ h => nomatch h⟩, rfl, ck_leF_s hF hf p18x_6966_g⟩
  · exact gm_Wp_wk (Nat.le_refl _) hb1 hb2 (ck_go_s (σ0 := σ) (cuts := []) p18x_6966_h ck_X0 ck_l0 400 true [] _ _ 34 _ [] _ _ σ L [] K R M (fun _ _ => rfl) (fun _ h => nomatch h) ⟨hF, hl, rfl, hf, hfr⟩ p18x_6966_b)
set_option maxRecDepth 100000 in
def p18x_8578 : ck_Sum := ((0, 0, 0), 245, [.inr (.inr (.inl 226)), .inl (10, 39, none), .inl (0, 298, none), .inl (ck_one (-1))], ([], [], [(227, 2, 9, ck_one 0)]), ([], []), [(.inr (some (.inl (10, 39, none))), 245, ([], [], []))])
set_option maxRecDepth 100000 in
theorem p18x_8578_e : ck_ok p1_O none [] [] 308 [(6, [some (.inr (.inr (.inl 226))), some (.inl (10, 39, none)), some (.inl (0, 298, none)), some (.inl (ck_one (-1))), some (.inl (10, 39, none)), some (.inl (ck_one 0)), none], ([], [], [(227, 2, 9, ck_one 0)]), 100, .inl 4, true)] 122 p18x_8578 = true := by decide +kernel
theorem p18x_8578_s {X : Int → Int} {LX : Nat} : ck_Ok p1_O X LX 308 p18x_8578 := ck_ok_s (ck_E0) ck_X0 ck_l0 p18x_8578_e
set_option maxRecDepth 100000 in
def p18x_7534 : ck_Sum := ((0, 0, 0), 245, [.inr (.inr (.inl 226)), .inl (0, 9, none), .inl (0, 298, none), .inl (ck_one (-1))], ([], [], [(227, 2, 9, ck_one 0)]), ([], []), [(.inr (some (.inl (0, 9, none))), 245, ([], [], []))])
set_option maxRecDepth 100000 in
theorem p18x_7534_e : ck_ok p1_O none [] [] 308 [(6, [some (.inr (.inr (.inl 226))), some (.inl (0, 9, none)), some (.inl (0, 298, none)), some (.inl (ck_one (-1))), some (.inl (0, 9, none)), some (.inl (ck_one 0)), none], ([], [], [(227, 2, 9, ck_one 0)]), 100, .inl 4, true)] 122 p18x_7534 = true := by decide +kernel
theorem p18x_7534_s {X : Int → Int} {LX : Nat} : ck_Ok p1_O X LX 308 p18x_7534 := ck_ok_s (ck_E0) ck_X0 ck_l0 p18x_7534_e
set_option maxRecDepth 100000 in
def p18x_8581 : ck_Sum := ((2, 0, 0), 245, [.inr (.inr (.inl 226)), .inl (0, 2, none), .inl (0, 39, none), .inl (ck_one 0), .inl (ck_one 0), .inl (ck_one (-1))], ([], [], [(226, 26, 26, ((-1), 2, none)), (227, 11, 11, ck_one 2), (227, 10, 10, ck_one 10), (227, 1, 1, ck_one 40), (227, 2, 9, ck_one 0), (236, 0, 299, (0, 39, none)), (226, 17, 17, (0, 2, none)), (226, 18, 18, (0, 39, none)), (226, 19, 19, (0, 299, none)), (226, 20, 20, ck_one 0), (226, 21, 21, ck_one 0), (226, 22, 22, ck_one 0), (226, 23, 23, ck_one 0), (226, 29, 29, ((-1), 0, none)), (226, 30, 30, ck_one 0), (235, 0, 11999, (0, 1, none))]), ([(226, 17, 23), (226, 26, 26), (226, 29, 30), (235, 0, 29699), (236, 0, 299), (237, 0, 299)], []), [(.inr none, 245, ([], [], [(226, 30, 30, ck_one 0), (226, 29, 29, ck_one (-1)), (226, 26, 26, ((-1), 2, none)), (226, 17, 17, (0, 2, none)), (226, 18, 18, (0, 39, none)), (226, 19, 19, (0, 299, none)), (226, 20, 20, ck_one 0), (226, 21, 21, ck_one 0), (226, 22, 22, ck_one 0), (226, 23, 23, ck_one 0), (236, 0, 299, (0, 39, none)), (235, 0, 11999, (0, 1, none))]))])
set_option maxRecDepth 100000 in
theorem p18x_8581_e : ck_ok p1_O none [] [(260, [p18x_6960]), (293, [p18x_6966]), (308, [p18x_8578, p18x_7534])] 307 [(3, [some (.inr (.inr (.inl 226))), some (.inl (0, 2, none)), some (.inl (0, 39, none)), some (.inl (ck_one 0)), some (.inl (ck_one 0)), some (.inl (ck_one (-1))), some (.inl (ck_one 0)), none, none], ([], [], [(226, 26, 26, ((-1), 2, none)), (227, 11, 11, ck_one 2), (227, 10, 10, ck_one 10), (227, 1, 1, ck_one 40), (227, 2, 9, ck_one 0), (236, 0, 299, (0, 39, none)), (226, 17, 17, (0, 2, none)), (226, 18, 18, (0, 39, none)), (226, 19, 19, (0, 299, none)), (226, 20, 20, ck_one 0), (226, 21, 21, ck_one 0), (226, 22, 22, ck_one 0), (226, 23, 23, ck_one 0), (226, 29, 29, ((-1), 0, none)), (226, 30, 30, ck_one 0), (235, 0, 11999, (0, 1, none))]), 100, .inl 6, true), (50, [some (.inr (.inr (.inl 226))), some (.inl (0, 2, none)), some (.inl (0, 39, none)), some (.inl (ck_one 0)), some (.inl (ck_one 0)), some (.inl (ck_one (-1))), some (.inl (0, 39, none)), some (.inl ((-2147483648), 2147483647, none)), some (.inl (0, 300, none))], ([], [], [(226, 30, 30, ck_one 0), (226, 29, 29, ck_one (-1)), (226, 26, 26, ((-1), 2, none)), (227, 11, 11, ck_one 2), (227, 10, 10, ck_one 10), (227, 1, 1, ck_one 40), (227, 2, 9, ck_one 0), (236, 0, 299, (0, 39, none)), (226, 17, 17, (0, 2, none)), (226, 18, 18, (0, 39, none)), (226, 19, 19, (0, 299, none)), (226, 20, 20, ck_one 0), (226, 21, 21, ck_one 0), (226, 22, 22, ck_one 0), (226, 23, 23, ck_one 0), (235, 0, 11999, (0, 1, none))]), 300, .inl 8, true)] 506 p18x_8581 = true := by decide +kernel
theorem p18x_8581_s {X : Int → Int} {LX : Nat} : ck_Ok p1_O X LX 307 p18x_8581 := ck_ok_s (ck_E1 (ck_S1 p18x_6960_s ck_S0) (ck_E1 (ck_S1 p18x_6966_s ck_S0) (ck_E1 (ck_S1 p18x_8578_s (ck_S1 p18x_7534_s ck_S0)) ck_E0))) ck_X0 ck_l0 p18x_8581_e
set_option maxRecDepth 100000 in
def p18x_8582 : ck_Sum := ((3, 0, 0), 245, [.inr (.inr (.inl 226)), .inl (0, 2, none), .inl (0, 39, none), .inl (ck_one 0)], ([], [], [(226, 26, 26, ((-1), 2, none)), (227, 11, 11, ck_one 2), (227, 10, 10, ck_one 10), (227, 1, 1, ck_one 40), (227, 2, 9, ck_one 0), (236, 0, 299, (0, 39, none)), (226, 17, 17, (0, 2, none)), (226, 18, 18, (0, 39, none)), (226, 19, 19, (0, 299, none)), (226, 20, 20, ck_one 0), (226, 21, 21, ck_one 0), (226, 22, 22, ck_one 0), (226, 23, 23, ck_one 0), (226, 29, 29, ((-1), 0, none)), (226, 30, 30, ck_one 0), (235, 0, 11999, (0, 1, none))]), ([(226, 17, 23), (226, 26, 26), (226, 29, 30), (235, 0, 29699), (236, 0, 299), (237, 0, 299)], []), [(.inr (some (.inl (ck_one (-1)))), 245, ([], [], [(226, 30, 30, ck_one 0), (226, 29, 29, ck_one (-1)), (226, 26, 26, ((-1), 2, none)), (226, 17, 17, (0, 2, none)), (226, 18, 18, (0, 39, none)), (226, 19, 19, (0, 299, none)), (226, 20, 20, ck_one 0), (226, 21, 21, ck_one 0), (226, 22, 22, ck_one 0), (226, 23, 23, ck_one 0), (236, 0, 299, (0, 39, none)), (235, 0, 11999, (0, 1, none))]))])
set_option maxRecDepth 100000 in
theorem p18x_8582_e : ck_ok p1_O none [] [(307, [p18x_8581])] 326 [] 90 p18x_8582 = true := by decide +kernel
theorem p18x_8582_s {X : Int → Int} {LX : Nat} : ck_Ok p1_O X LX 326 p18x_8582 := ck_ok_s (ck_E1 (ck_S1 p18x_8581_s ck_S0) ck_E0) ck_X0 ck_l0 p18x_8582_e
set_option maxRecDepth 100000 in
def p18x_8610 : ck_Sum := ((4, 0, 0), 245, [.inr (.inr (.inl 226)), .inl (0, 2, none), .inl (1, 299, none)], ([], [], [(226, 26, 26, ck_one (-1)), (227, 11, 11, ck_one 2), (227, 10, 10, ck_one 10), (227, 1, 1, ck_one 40), (227, 0, 0, ck_one 3), (227, 2, 9, ck_one 0), (236, 0, 299, ck_one 0), (226, 0, 0, ck_one 0), (226, 17, 17, ck_one 0), (226, 18, 18, ck_one 0), (226, 19, 19, ck_one 0), (226, 20, 20, ck_one 0), (226, 21, 21, ck_one 0), (226, 22, 22, ck_one 0), (226, 23, 23, ck_one 0), (226, 29, 29, ck_one 0), (226, 30, 30, ck_one 0), (235, 0, 11999, ck_one 0)]), ([(226, 0, 0), (226, 17, 23), (226, 26, 26), (226, 29, 30), (235, 0, 29699), (236, 0, 299), (237, 0, 299)], []), [(.inr (some (.inl (ck_one (-1)))), 245, ([], [], [(226, 0, 0, ck_one 0), (226, 26, 26, ((-1), 2, none)), (226, 17, 17, (0, 2, none)), (226, 18, 18, (0, 39, none)), (226, 19, 19, (0, 299, none)), (226, 20, 20, ck_one 0), (226, 21, 21, ck_one 0), (226, 22, 22, ck_one 0), (226, 23, 23, ck_one 0), (226, 29, 29, ((-1), 0, none)), (226, 30, 30, ck_one 0), (236, 0, 299, (0, 39, none)), (235, 0, 11999, (0, 1, none))]))])
set_option maxRecDepth 100000 in
theorem p18x_8610_e : ck_ok p1_O none [] [(289, [p18x_154]), (283, [p18x_155, p18x_6959]), (287, [p18x_6958]), (260, [p18x_6960]), (267, [p18x_6961]), (326, [p18x_8582])] 328 [(46, [some (.inr (.inr (.inl 226))), some (.inl (0, 2, none)), some (.inl (1, 299, none)), some (.inl (0, 40, none)), none], ([], [], [(226, 0, 0, ck_one 0), (226, 26, 26, ((-1), 2, none)), (227, 11, 11, ck_one 2), (227, 10, 10, ck_one 10), (227, 1, 1, ck_one 40), (227, 0, 0, ck_one 3), (227, 2, 9, ck_one 0), (236, 0, 299, (0, 39, none)), (226, 17, 17, (0, 2, none)), (226, 18, 18, (0, 39, none)), (226, 19, 19, (0, 299, none)), (226, 20, 20, ck_one 0), (226, 21, 21, ck_one 0), (226, 22, 22, ck_one 0), (226, 23, 23, ck_one 0), (226, 29, 29, ((-1), 0, none)), (226, 30, 30, ck_one 0), (235, 0, 11999, (0, 1, none))]), 100, .inl 3, true)] 182 p18x_8610 = true := by decide +kernel
theorem p18x_8610_s {X : Int → Int} {LX : Nat} : ck_Ok p1_O X LX 328 p18x_8610 := ck_ok_s (ck_E1 (ck_S1 p18x_154_s ck_S0) (ck_E1 (ck_S1 p18x_155_s (ck_S1 p18x_6959_s ck_S0)) (ck_E1 (ck_S1 p18x_6958_s ck_S0) (ck_E1 (ck_S1 p18x_6960_s ck_S0) (ck_E1 (ck_S1 p18x_6961_s ck_S0) (ck_E1 (ck_S1 p18x_8582_s ck_S0) ck_E0)))))) ck_X0 ck_l0 p18x_8610_e
set_option maxRecDepth 100000 in
def p18x_8614 : ck_Sum := ((0, 0, 0), 245, [.inl (300, 2147483647, none), .inl (ck_one 1), .inl (ck_one 299)], ([], [], []), ([], []), [(.inr (some (.inl (ck_one 0))), 245, ([], [], []))])
set_option maxRecDepth 100000 in
theorem p18x_8614_e : ck_ok p1_O none [] [] 287 [] 86 p18x_8614 = true := by decide +kernel
theorem p18x_8614_s {X : Int → Int} {LX : Nat} : ck_Ok p1_O X LX 287 p18x_8614 := ck_ok_s (ck_E0) ck_X0 ck_l0 p18x_8614_e
set_option maxRecDepth 100000 in
def p18x_8615 : ck_Sum := ((2, 0, 0), 245, [.inr (.inr (.inl 226)), .inl (0, 2, none), .inl (300, 2147483647, none)], ([], [], [(227, 0, 0, ck_one 3)]), ([(226, 0, 0)], []), [(.inr (some (.inl (ck_one 0))), 245, ([], [], [(226, 0, 0, ck_one 2)]))])
set_option maxRecDepth 100000 in
theorem p18x_8615_e : ck_ok p1_O none [] [(289, [p18x_154]), (283, [p18x_155, p18x_157]), (287, [p18x_8614])] 328 [] 116 p18x_8615 = true := by decide +kernel
theorem p18x_8615_s {X : Int → Int} {LX : Nat} : ck_Ok p1_O X LX 328 p18x_8615 := ck_ok_s (ck_E1 (ck_S1 p18x_154_s ck_S0) (ck_E1 (ck_S1 p18x_155_s (ck_S1 p18x_157_s ck_S0)) (ck_E1 (ck_S1 p18x_8614_s ck_S0) ck_E0))) ck_X0 ck_l0 p18x_8615_e
set_option maxRecDepth 100000 in
def p18x_8620 : ck_Sum := ((0, 0, 0), 245, [.inl (3, 2147483647, none), .inl (ck_one 0), .inl (ck_one 2)], ([], [], []), ([], []), [(.inr (some (.inl (ck_one 0))), 245, ([], [], []))])
set_option maxRecDepth 100000 in
theorem p18x_8620_e : ck_ok p1_O none [] [] 287 [] 86 p18x_8620 = true := by decide +kernel
theorem p18x_8620_s {X : Int → Int} {LX : Nat} : ck_Ok p1_O X LX 287 p18x_8620 := ck_ok_s (ck_E0) ck_X0 ck_l0 p18x_8620_e
set_option maxRecDepth 100000 in
def p18x_8621 : ck_Sum := ((1, 0, 0), 245, [.inr (.inr (.inl 226)), .inl (3, 2147483647, none)], ([], [], [(227, 0, 0, ck_one 3)]), ([], []), [(.inr (some (.inl (ck_one 1))), 245, ([], [], []))])
set_option maxRecDepth 100000 in
theorem p18x_8621_e : ck_ok p1_O none [] [(262, [p18x_137]), (287, [p18x_8620])] 289 [] 92 p18x_8621 = true := by decide +kernel
theorem p18x_8621_s {X : Int → Int} {LX : Nat} : ck_Ok p1_O X LX 289 p18x_8621 := ck_ok_s (ck_E1 (ck_S1 p18x_137_s ck_S0) (ck_E1 (ck_S1 p18x_8620_s ck_S0) ck_E0)) ck_X0 ck_l0 p18x_8621_e
set_option maxRecDepth 100000 in
def p18x_8622 : ck_Sum := ((2, 0, 0), 245, [.inr (.inr (.inl 226)), .inl (3, 2147483647, none), .inl ((-2147483648), 0, none)], ([], [], [(227, 0, 0, ck_one 3)]), ([(226, 0, 0)], []), [(.inr (some (.inl (ck_one 0))), 245, ([], [], [(226, 0, 0, ck_one 1)]))])
set_option maxRecDepth 100000 in
theorem p18x_8622_e : ck_ok p1_O none [] [(289, [p18x_8621]), (283, [p18x_140])] 328 [] 94 p18x_8622 = true := by decide +kernel
theorem p18x_8622_s {X : Int → Int} {LX : Nat} : ck_Ok p1_O X LX 328 p18x_8622 := ck_ok_s (ck_E1 (ck_S1 p18x_8621_s ck_S0) (ck_E1 (ck_S1 p18x_140_s ck_S0) ck_E0)) ck_X0 ck_l0 p18x_8622_e
set_option maxRecDepth 100000 in
def p18x_8625 : ck_Sum := ((2, 0, 0), 245, [.inr (.inr (.inl 226)), .inl (3, 2147483647, none), .inl (1, 299, none)], ([], [], [(227, 0, 0, ck_one 3)]), ([(226, 0, 0)], []), [(.inr (some (.inl (ck_one 0))), 245, ([], [], [(226, 0, 0, ck_one 1)]))])
set_option maxRecDepth 100000 in
theorem p18x_8625_e : ck_ok p1_O none [] [(289, [p18x_8621]), (283, [p18x_140])] 328 [] 94 p18x_8625 = true := by decide +kernel
theorem p18x_8625_s {X : Int → Int} {LX : Nat} : ck_Ok p1_O X LX 328 p18x_8625 := ck_ok_s (ck_E1 (ck_S1 p18x_8621_s ck_S0) (ck_E1 (ck_S1 p18x_140_s ck_S0) ck_E0)) ck_X0 ck_l0 p18x_8625_e
set_option maxRecDepth 100000 in
def p18x_8628 : ck_Sum := ((2, 0, 0), 245, [.inr (.inr (.inl 226)), .inl (3, 2147483647, none), .inl (300, 2147483647, none)], ([], [], [(227, 0, 0, ck_one 3)]), ([(226, 0, 0)], []), [(.inr (some (.inl (ck_one 0))), 245, ([], [], [(226, 0, 0, ck_one 1)]))])
set_option maxRecDepth 100000 in
theorem p18x_8628_e : ck_ok p1_O none [] [(289, [p18x_8621]), (283, [p18x_140])] 328 [] 94 p18x_8628 = true := by decide +kernel
theorem p18x_8628_s {X : Int → Int} {LX : Nat} : ck_Ok p1_O X LX 328 p18x_8628 := ck_ok_s (ck_E1 (ck_S1 p18x_8621_s ck_S0) (ck_E1 (ck_S1 p18x_140_s ck_S0) ck_E0)) ck_X0 ck_l0 p18x_8628_e
set_option maxRecDepth 100000 in
def p18x_142 : ck_Sum := ((0, 0, 0), 245, [.inr (.inr (.inl 226))], ([], [], [(226, 0, 0, ck_one 1)]), ([], []), [(.inr (some (.inl (ck_one 1))), 245, ([], [], []))])
set_option maxRecDepth 100000 in
theorem p18x_142_e : ck_ok p1_O none [] [] 234 [] 76 p18x_142 = true := by decide +kernel
theorem p18x_142_s {X : Int → Int} {LX : Nat} : ck_Ok p1_O X LX 234 p18x_142 := ck_ok_s (ck_E0) ck_X0 ck_l0 p18x_142_e
set_option maxRecDepth 100000 in
def p18x_159 : ck_Sum := ((0, 0, 0), 245, [.inr (.inr (.inl 226))], ([], [], [(226, 0, 0, ck_one 2)]), ([], []), [(.inr (some (.inl (ck_one 2))), 245, ([], [], []))])
set_option maxRecDepth 100000 in
theorem p18x_159_e : ck_ok p1_O none [] [] 234 [] 76 p18x_159 = true := by decide +kernel
theorem p18x_159_s {X : Int → Int} {LX : Nat} : ck_Ok p1_O X LX 234 p18x_159 := ck_ok_s (ck_E0) ck_X0 ck_l0 p18x_159_e
set_option maxRecDepth 100000 in
def p18x_8611 : ck_Sum := ((0, 0, 0), 245, [.inr (.inr (.inl 226))], ([], [], [(226, 0, 0, ck_one 0)]), ([], []), [(.inr (some (.inl (ck_one 0))), 245, ([], [], []))])
set_option maxRecDepth 100000 in
theorem p18x_8611_e : ck_ok p1_O none [] [] 234 [] 76 p18x_8611 = true := by decide +kernel
theorem p18x_8611_s {X : Int → Int} {LX : Nat} : ck_Ok p1_O X LX 234 p18x_8611 := ck_ok_s (ck_E0) ck_X0 ck_l0 p18x_8611_e
set_option maxRecDepth 100000 in
def p18_F : ck_F := ([], [(3, 8, 0), (16, 8, 0), (29, 8, 0), (44, 8, 0), (57, 8, 0), (70, 8, 0), (83, 8, 0), (96, 8, 0), (109, 8, 0), (122, 8, 0), (135, 8, 0), (148, 8, 0), (161, 8, 0), (174, 8, 0), (187, 8, 0)], [(245, 0, 0, ck_one 0), (226, 26, 26, ck_one (-1)), (227, 11, 11, ck_one 2), (227, 10, 10, ck_one 10), (227, 1, 1, ck_one 40), (227, 0, 0, ck_one 3), (227, 2, 9, ck_one 0), (236, 0, 299, ck_one 0), (226, 0, 0, ck_one 0), (226, 17, 17, ck_one 0), (226, 18, 18, ck_one 0), (226, 19, 19, ck_one 0), (226, 20, 20, ck_one 0), (226, 21, 21, ck_one 0), (226, 22, 22, ck_one 0), (226, 23, 23, ck_one 0), (226, 29, 29, ck_one 0), (226, 30, 30, ck_one 0), (206, 8, 8, ck_one 0), (206, 7, 7, ck_one 0), (206, 5, 5, ck_one 0), (206, 4, 4, ck_one (-1)), (206, 3, 3, ck_one 0), (206, 2, 2, ck_one 0), (3, 6, 6, ck_one 0), (3, 3, 3, ck_one 2), (3, 2, 2, ck_one 10), (3, 1, 1, ck_one 40), (3, 0, 0, ck_one 3), (203, 0, 299, ck_one 0), (202, 0, 593, ck_one 0), (235, 0, 11999, ck_one 0)])
def p18_E : List (Nat × List ck_Sum) := [(171, [p18x_136, p18x_144, p18x_147, p18x_152, p18x_6957, p18x_8613, p18x_8619, p18x_8624, p18x_8627]), (328, [p18x_141, p18x_145, p18x_148, p18x_158, p18x_8610, p18x_8615, p18x_8622, p18x_8625, p18x_8628]), (234, [p18x_142, p18x_159, p18x_8611])]
theorem p18_h {X : Int → Int} {LX : Nat} : ck_OkE p1_O X LX p18_E := ck_E1 (ck_S1 p18x_136_s (ck_S1 p18x_144_s (ck_S1 p18x_147_s (ck_S1 p18x_152_s (ck_S1 p18x_6957_s (ck_S1 p18x_8613_s (ck_S1 p18x_8619_s (ck_S1 p18x_8624_s (ck_S1 p18x_8627_s ck_S0))))))))) (ck_E1 (ck_S1 p18x_141_s (ck_S1 p18x_145_s (ck_S1 p18x_148_s (ck_S1 p18x_158_s (ck_S1 p18x_8610_s (ck_S1 p18x_8615_s (ck_S1 p18x_8622_s (ck_S1 p18x_8625_s (ck_S1 p18x_8628_s ck_S0))))))))) (ck_E1 (ck_S1 p18x_142_s (ck_S1 p18x_159_s (ck_S1 p18x_8611_s ck_S0))) ck_E0))
set_option maxRecDepth 100000 in
theorem p18_b : (ck_prod [(1, [((-2147483648), (-1)), (0, 2), (3, 2147483647)]), (2, [((-2147483648), 0), (1, 299), (300, 2147483647)])]).all (fun xf => ck_go p1_O (some 6) xf p18_E 370 280 245 p1_W p1_outs [] 152 false [] 1000 2000 1327 p1_L [] 245 p18_F) = true := by decide +kernel
theorem p18_s {X : Int → Int} {LX : Nat} (hLX : 6 = LX) (hX : ∀ j, gm_ir (X j)) {σ : Nat → Int} {L : gm_L} {K0 K : gm_K} {R0 R : gm_R} {M0 M : gm_M} (hS : ck_St p1_O σ p1_W 245 K0 R0 M0 p1_L [] p18_F L [] 245 K R M) : gm_Wp X LX 280 1000 2000 370 1327 L [] 245 K R M (ck_Q p1_O σ p1_W 245 K0 R0 M0 p1_outs) := ck_boxes p18_h hLX hX (by decide +kernel) p18_b hS
