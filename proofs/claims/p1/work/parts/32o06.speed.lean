/-! speed, on a new object: laid by wip/am/p1g.py. -/
set_option maxRecDepth 100000 in
def p6x_133 : ck_Sum := ((6, 1, 6), 245, [.inr (.inr (.inl 1)), .inl ((-2147483648), (-1), none), .inl (ck_one 3)], ([], [], []), ([], []), [(.inl 3, 245, ([], [], []))])
set_option maxRecDepth 100000 in
theorem p6x_133_e : ck_ok p1_O none [] [] 133 [] 76 p6x_133 = true := by decide +kernel
theorem p6x_133_s {X : Int → Int} {LX : Nat} : ck_Ok p1_O X LX 133 p6x_133 := ck_ok_s (ck_E0) ck_X0 ck_l0 p6x_133_e
set_option maxRecDepth 100000 in
def p6x_134 : ck_Sum := ((7, 1, 6), 245, [.inr (.inr (.inl 1)), .inl ((-2147483648), (-1), none)], ([], [], [(3, 0, 0, ck_one 3)]), ([], []), [(.inl 3, 245, ([], [], []))])
set_option maxRecDepth 100000 in
theorem p6x_134_e : ck_ok p1_O none [] [(133, [p6x_133])] 132 [] 82 p6x_134 = true := by decide +kernel
theorem p6x_134_s {X : Int → Int} {LX : Nat} : ck_Ok p1_O X LX 132 p6x_134 := ck_ok_s (ck_E1 (ck_S1 p6x_133_s ck_S0) ck_E0) ck_X0 ck_l0 p6x_134_e
set_option maxRecDepth 100000 in
def p6x_135 : ck_Sum := ((8, 1, 6), 245, [.inr (.inr (.inl 1)), .inl ((-2147483648), (-1), none), .inl ((-2147483648), (-1), none)], ([], [], [(3, 0, 0, ck_one 3)]), ([], []), [(.inl 3, 245, ([], [], []))])
set_option maxRecDepth 100000 in
theorem p6x_135_e : ck_ok p1_O none [] [(132, [p6x_134])] 131 [] 76 p6x_135 = true := by decide +kernel
theorem p6x_135_s {X : Int → Int} {LX : Nat} : ck_Ok p1_O X LX 131 p6x_135 := ck_ok_s (ck_E1 (ck_S1 p6x_134_s ck_S0) ck_E0) ck_X0 ck_l0 p6x_135_e
set_option maxRecDepth 100000 in
def p6x_136 : ck_Sum := ((9, 1, 6), 245, [.inr (.inr (.inl 1)), .inl ((-2147483648), (-1), none), .inl ((-2147483648), (-1), none), .inr (.inr (.inl 245))], ([], [], [(3, 0, 0, ck_one 3)]), ([], []), [(.inr (some (.inl (ck_one 1))), 245, ([], [], []))])
set_option maxRecDepth 100000 in
theorem p6x_136_e : ck_ok p1_O none [] [(131, [p6x_135])] 130 [] 88 p6x_136 = true := by decide +kernel
theorem p6x_136_s {X : Int → Int} {LX : Nat} : ck_Ok p1_O X LX 130 p6x_136 := ck_ok_s (ck_E1 (ck_S1 p6x_135_s ck_S0) ck_E0) ck_X0 ck_l0 p6x_136_e
set_option maxRecDepth 100000 in
def p6x_143 : ck_Sum := ((8, 1, 6), 245, [.inr (.inr (.inl 1)), .inl ((-2147483648), (-1), none), .inl (0, 39, none)], ([], [], [(3, 0, 0, ck_one 3)]), ([], []), [(.inl 3, 245, ([], [], []))])
set_option maxRecDepth 100000 in
theorem p6x_143_e : ck_ok p1_O none [] [(132, [p6x_134])] 131 [] 76 p6x_143 = true := by decide +kernel
theorem p6x_143_s {X : Int → Int} {LX : Nat} : ck_Ok p1_O X LX 131 p6x_143 := ck_ok_s (ck_E1 (ck_S1 p6x_134_s ck_S0) ck_E0) ck_X0 ck_l0 p6x_143_e
set_option maxRecDepth 100000 in
def p6x_144 : ck_Sum := ((9, 1, 6), 245, [.inr (.inr (.inl 1)), .inl ((-2147483648), (-1), none), .inl (0, 39, none), .inr (.inr (.inl 245))], ([], [], [(3, 0, 0, ck_one 3)]), ([], []), [(.inr (some (.inl (ck_one 1))), 245, ([], [], []))])
set_option maxRecDepth 100000 in
theorem p6x_144_e : ck_ok p1_O none [] [(131, [p6x_143])] 130 [] 88 p6x_144 = true := by decide +kernel
theorem p6x_144_s {X : Int → Int} {LX : Nat} : ck_Ok p1_O X LX 130 p6x_144 := ck_ok_s (ck_E1 (ck_S1 p6x_143_s ck_S0) ck_E0) ck_X0 ck_l0 p6x_144_e
set_option maxRecDepth 100000 in
def p6x_146 : ck_Sum := ((8, 1, 6), 245, [.inr (.inr (.inl 1)), .inl ((-2147483648), (-1), none), .inl (40, 2147483647, none)], ([], [], [(3, 0, 0, ck_one 3)]), ([], []), [(.inl 3, 245, ([], [], []))])
set_option maxRecDepth 100000 in
theorem p6x_146_e : ck_ok p1_O none [] [(132, [p6x_134])] 131 [] 76 p6x_146 = true := by decide +kernel
theorem p6x_146_s {X : Int → Int} {LX : Nat} : ck_Ok p1_O X LX 131 p6x_146 := ck_ok_s (ck_E1 (ck_S1 p6x_134_s ck_S0) ck_E0) ck_X0 ck_l0 p6x_146_e
set_option maxRecDepth 100000 in
def p6x_147 : ck_Sum := ((9, 1, 6), 245, [.inr (.inr (.inl 1)), .inl ((-2147483648), (-1), none), .inl (40, 2147483647, none), .inr (.inr (.inl 245))], ([], [], [(3, 0, 0, ck_one 3)]), ([], []), [(.inr (some (.inl (ck_one 1))), 245, ([], [], []))])
set_option maxRecDepth 100000 in
theorem p6x_147_e : ck_ok p1_O none [] [(131, [p6x_146])] 130 [] 88 p6x_147 = true := by decide +kernel
theorem p6x_147_s {X : Int → Int} {LX : Nat} : ck_Ok p1_O X LX 130 p6x_147 := ck_ok_s (ck_E1 (ck_S1 p6x_146_s ck_S0) ck_E0) ck_X0 ck_l0 p6x_147_e
set_option maxRecDepth 100000 in
def p6x_149 : ck_Sum := ((0, 0, 0), 245, [.inr (.inr (.inl 1)), .inl (0, 2, none), .inl (ck_one 3)], ([], [], []), ([], []), [(.inr none, 245, ([], [], []))])
set_option maxRecDepth 100000 in
theorem p6x_149_e : ck_ok p1_O none [] [] 133 [] 82 p6x_149 = true := by decide +kernel
theorem p6x_149_s {X : Int → Int} {LX : Nat} : ck_Ok p1_O X LX 133 p6x_149 := ck_ok_s (ck_E0) ck_X0 ck_l0 p6x_149_e
set_option maxRecDepth 100000 in
def p6x_150 : ck_Sum := ((1, 0, 0), 245, [.inr (.inr (.inl 1)), .inl (0, 2, none)], ([], [], [(3, 0, 0, ck_one 3)]), ([], []), [(.inr none, 245, ([], [], []))])
set_option maxRecDepth 100000 in
theorem p6x_150_e : ck_ok p1_O none [] [(133, [p6x_149])] 132 [] 84 p6x_150 = true := by decide +kernel
theorem p6x_150_s {X : Int → Int} {LX : Nat} : ck_Ok p1_O X LX 132 p6x_150 := ck_ok_s (ck_E1 (ck_S1 p6x_149_s ck_S0) ck_E0) ck_X0 ck_l0 p6x_150_e
set_option maxRecDepth 100000 in
def p6x_151 : ck_Sum := ((6, 1, 6), 245, [.inr (.inr (.inl 1)), .inl ((-2147483648), (-1), none), .inl (ck_one 40)], ([], [], []), ([], []), [(.inl 3, 245, ([], [], []))])
set_option maxRecDepth 100000 in
theorem p6x_151_e : ck_ok p1_O none [] [] 133 [] 76 p6x_151 = true := by decide +kernel
theorem p6x_151_s {X : Int → Int} {LX : Nat} : ck_Ok p1_O X LX 133 p6x_151 := ck_ok_s (ck_E0) ck_X0 ck_l0 p6x_151_e
set_option maxRecDepth 100000 in
def p6x_152 : ck_Sum := ((7, 1, 6), 245, [.inr (.inr (.inl 1)), .inl ((-2147483648), (-1), none)], ([], [], [(3, 1, 1, ck_one 40)]), ([], []), [(.inl 3, 245, ([], [], []))])
set_option maxRecDepth 100000 in
theorem p6x_152_e : ck_ok p1_O none [] [(133, [p6x_151])] 134 [] 82 p6x_152 = true := by decide +kernel
theorem p6x_152_s {X : Int → Int} {LX : Nat} : ck_Ok p1_O X LX 134 p6x_152 := ck_ok_s (ck_E1 (ck_S1 p6x_151_s ck_S0) ck_E0) ck_X0 ck_l0 p6x_152_e
set_option maxRecDepth 100000 in
def p6x_153 : ck_Sum := ((8, 1, 6), 245, [.inr (.inr (.inl 1)), .inl (0, 2, none), .inl ((-2147483648), (-1), none)], ([], [], [(3, 1, 1, ck_one 40), (3, 0, 0, ck_one 3)]), ([], []), [(.inl 3, 245, ([], [], []))])
set_option maxRecDepth 100000 in
theorem p6x_153_e : ck_ok p1_O none [] [(132, [p6x_150]), (134, [p6x_152])] 131 [] 82 p6x_153 = true := by decide +kernel
theorem p6x_153_s {X : Int → Int} {LX : Nat} : ck_Ok p1_O X LX 131 p6x_153 := ck_ok_s (ck_E1 (ck_S1 p6x_150_s ck_S0) (ck_E1 (ck_S1 p6x_152_s ck_S0) ck_E0)) ck_X0 ck_l0 p6x_153_e
set_option maxRecDepth 100000 in
def p6x_154 : ck_Sum := ((9, 1, 6), 245, [.inr (.inr (.inl 1)), .inl (0, 2, none), .inl ((-2147483648), (-1), none), .inr (.inr (.inl 245))], ([], [], [(3, 1, 1, ck_one 40), (3, 0, 0, ck_one 3)]), ([], []), [(.inr (some (.inl (ck_one 1))), 245, ([], [], []))])
set_option maxRecDepth 100000 in
theorem p6x_154_e : ck_ok p1_O none [] [(131, [p6x_153])] 130 [] 88 p6x_154 = true := by decide +kernel
theorem p6x_154_s {X : Int → Int} {LX : Nat} : ck_Ok p1_O X LX 130 p6x_154 := ck_ok_s (ck_E1 (ck_S1 p6x_153_s ck_S0) ck_E0) ck_X0 ck_l0 p6x_154_e
set_option maxRecDepth 100000 in
def p6x_161 : ck_Sum := ((0, 0, 0), 245, [.inr (.inr (.inl 1)), .inl (0, 39, none), .inl (ck_one 40)], ([], [], []), ([], []), [(.inr none, 245, ([], [], []))])
set_option maxRecDepth 100000 in
theorem p6x_161_e : ck_ok p1_O none [] [] 133 [] 82 p6x_161 = true := by decide +kernel
theorem p6x_161_s {X : Int → Int} {LX : Nat} : ck_Ok p1_O X LX 133 p6x_161 := ck_ok_s (ck_E0) ck_X0 ck_l0 p6x_161_e
set_option maxRecDepth 100000 in
def p6x_162 : ck_Sum := ((1, 0, 0), 245, [.inr (.inr (.inl 1)), .inl (0, 39, none)], ([], [], [(3, 1, 1, ck_one 40)]), ([], []), [(.inr none, 245, ([], [], []))])
set_option maxRecDepth 100000 in
theorem p6x_162_e : ck_ok p1_O none [] [(133, [p6x_161])] 134 [] 84 p6x_162 = true := by decide +kernel
theorem p6x_162_s {X : Int → Int} {LX : Nat} : ck_Ok p1_O X LX 134 p6x_162 := ck_ok_s (ck_E1 (ck_S1 p6x_161_s ck_S0) ck_E0) ck_X0 ck_l0 p6x_162_e
set_option maxRecDepth 100000 in
def p6x_163 : ck_Sum := ((0, 0, 0), 245, [.inr (.inr (.inl 200)), .inl (0, 2, none), .inl (0, 39, none)], ([], [], [(202, 0, 593, ck_one 0)]), ([], []), [(.inr (some (.inl (ck_one 0))), 245, ([], [], []))])
set_option maxRecDepth 100000 in
theorem p6x_163_e : ck_ok p1_O none [] [] 36 [] 108 p6x_163 = true := by decide +kernel
theorem p6x_163_s {X : Int → Int} {LX : Nat} : ck_Ok p1_O X LX 36 p6x_163 := ck_ok_s (ck_E0) ck_X0 ck_l0 p6x_163_e
set_option maxRecDepth 100000 in
def p6x_164 : ck_Sum := ((2, 0, 0), 245, [.inr (.inr (.inl 1)), .inl (0, 2, none), .inl (0, 39, none)], ([], [], [(3, 1, 1, ck_one 40), (3, 0, 0, ck_one 3), (202, 0, 593, ck_one 0)]), ([], []), [(.inr (some (.inl (ck_one 0))), 245, ([], [], []))])
set_option maxRecDepth 100000 in
theorem p6x_164_e : ck_ok p1_O none [] [(132, [p6x_150]), (134, [p6x_162]), (36, [p6x_163])] 131 [] 94 p6x_164 = true := by decide +kernel
theorem p6x_164_s {X : Int → Int} {LX : Nat} : ck_Ok p1_O X LX 131 p6x_164 := ck_ok_s (ck_E1 (ck_S1 p6x_150_s ck_S0) (ck_E1 (ck_S1 p6x_162_s ck_S0) (ck_E1 (ck_S1 p6x_163_s ck_S0) ck_E0))) ck_X0 ck_l0 p6x_164_e
set_option maxRecDepth 100000 in
def p6x_165 : ck_Sum := ((3, 0, 0), 245, [.inr (.inr (.inl 1)), .inl (0, 2, none), .inl (0, 39, none), .inr (.inr (.inl 245))], ([], [], [(3, 1, 1, ck_one 40), (3, 0, 0, ck_one 3), (202, 0, 593, ck_one 0)]), ([(245, 0, 0)], []), [(.inr (some (.inl (ck_one 0))), 245, ([], [], [(245, 0, 0, ck_one 0)]))])
set_option maxRecDepth 100000 in
theorem p6x_165_e : ck_ok p1_O none [] [(131, [p6x_164])] 130 [] 92 p6x_165 = true := by decide +kernel
theorem p6x_165_s {X : Int → Int} {LX : Nat} : ck_Ok p1_O X LX 130 p6x_165 := ck_ok_s (ck_E1 (ck_S1 p6x_164_s ck_S0) ck_E0) ck_X0 ck_l0 p6x_165_e
set_option maxRecDepth 100000 in
def p6x_172 : ck_Sum := ((6, 1, 6), 245, [.inr (.inr (.inl 1)), .inl (40, 2147483647, none), .inl (ck_one 40)], ([], [], []), ([], []), [(.inl 3, 245, ([], [], []))])
set_option maxRecDepth 100000 in
theorem p6x_172_e : ck_ok p1_O none [] [] 133 [] 82 p6x_172 = true := by decide +kernel
theorem p6x_172_s {X : Int → Int} {LX : Nat} : ck_Ok p1_O X LX 133 p6x_172 := ck_ok_s (ck_E0) ck_X0 ck_l0 p6x_172_e
set_option maxRecDepth 100000 in
def p6x_173 : ck_Sum := ((7, 1, 6), 245, [.inr (.inr (.inl 1)), .inl (40, 2147483647, none)], ([], [], [(3, 1, 1, ck_one 40)]), ([], []), [(.inl 3, 245, ([], [], []))])
set_option maxRecDepth 100000 in
theorem p6x_173_e : ck_ok p1_O none [] [(133, [p6x_172])] 134 [] 82 p6x_173 = true := by decide +kernel
theorem p6x_173_s {X : Int → Int} {LX : Nat} : ck_Ok p1_O X LX 134 p6x_173 := ck_ok_s (ck_E1 (ck_S1 p6x_172_s ck_S0) ck_E0) ck_X0 ck_l0 p6x_173_e
set_option maxRecDepth 100000 in
def p6x_174 : ck_Sum := ((8, 1, 6), 245, [.inr (.inr (.inl 1)), .inl (0, 2, none), .inl (40, 2147483647, none)], ([], [], [(3, 1, 1, ck_one 40), (3, 0, 0, ck_one 3)]), ([], []), [(.inl 3, 245, ([], [], []))])
set_option maxRecDepth 100000 in
theorem p6x_174_e : ck_ok p1_O none [] [(132, [p6x_150]), (134, [p6x_173])] 131 [] 82 p6x_174 = true := by decide +kernel
theorem p6x_174_s {X : Int → Int} {LX : Nat} : ck_Ok p1_O X LX 131 p6x_174 := ck_ok_s (ck_E1 (ck_S1 p6x_150_s ck_S0) (ck_E1 (ck_S1 p6x_173_s ck_S0) ck_E0)) ck_X0 ck_l0 p6x_174_e
set_option maxRecDepth 100000 in
def p6x_175 : ck_Sum := ((9, 1, 6), 245, [.inr (.inr (.inl 1)), .inl (0, 2, none), .inl (40, 2147483647, none), .inr (.inr (.inl 245))], ([], [], [(3, 1, 1, ck_one 40), (3, 0, 0, ck_one 3)]), ([], []), [(.inr (some (.inl (ck_one 1))), 245, ([], [], []))])
set_option maxRecDepth 100000 in
theorem p6x_175_e : ck_ok p1_O none [] [(131, [p6x_174])] 130 [] 88 p6x_175 = true := by decide +kernel
theorem p6x_175_s {X : Int → Int} {LX : Nat} : ck_Ok p1_O X LX 130 p6x_175 := ck_ok_s (ck_E1 (ck_S1 p6x_174_s ck_S0) ck_E0) ck_X0 ck_l0 p6x_175_e
set_option maxRecDepth 100000 in
def p6x_179 : ck_Sum := ((6, 1, 6), 245, [.inr (.inr (.inl 1)), .inl (3, 2147483647, none), .inl (ck_one 3)], ([], [], []), ([], []), [(.inl 3, 245, ([], [], []))])
set_option maxRecDepth 100000 in
theorem p6x_179_e : ck_ok p1_O none [] [] 133 [] 82 p6x_179 = true := by decide +kernel
theorem p6x_179_s {X : Int → Int} {LX : Nat} : ck_Ok p1_O X LX 133 p6x_179 := ck_ok_s (ck_E0) ck_X0 ck_l0 p6x_179_e
set_option maxRecDepth 100000 in
def p6x_180 : ck_Sum := ((7, 1, 6), 245, [.inr (.inr (.inl 1)), .inl (3, 2147483647, none)], ([], [], [(3, 0, 0, ck_one 3)]), ([], []), [(.inl 3, 245, ([], [], []))])
set_option maxRecDepth 100000 in
theorem p6x_180_e : ck_ok p1_O none [] [(133, [p6x_179])] 132 [] 82 p6x_180 = true := by decide +kernel
theorem p6x_180_s {X : Int → Int} {LX : Nat} : ck_Ok p1_O X LX 132 p6x_180 := ck_ok_s (ck_E1 (ck_S1 p6x_179_s ck_S0) ck_E0) ck_X0 ck_l0 p6x_180_e
set_option maxRecDepth 100000 in
def p6x_181 : ck_Sum := ((8, 1, 6), 245, [.inr (.inr (.inl 1)), .inl (3, 2147483647, none), .inl ((-2147483648), (-1), none)], ([], [], [(3, 0, 0, ck_one 3)]), ([], []), [(.inl 3, 245, ([], [], []))])
set_option maxRecDepth 100000 in
theorem p6x_181_e : ck_ok p1_O none [] [(132, [p6x_180])] 131 [] 76 p6x_181 = true := by decide +kernel
theorem p6x_181_s {X : Int → Int} {LX : Nat} : ck_Ok p1_O X LX 131 p6x_181 := ck_ok_s (ck_E1 (ck_S1 p6x_180_s ck_S0) ck_E0) ck_X0 ck_l0 p6x_181_e
set_option maxRecDepth 100000 in
def p6x_182 : ck_Sum := ((9, 1, 6), 245, [.inr (.inr (.inl 1)), .inl (3, 2147483647, none), .inl ((-2147483648), (-1), none), .inr (.inr (.inl 245))], ([], [], [(3, 0, 0, ck_one 3)]), ([], []), [(.inr (some (.inl (ck_one 1))), 245, ([], [], []))])
set_option maxRecDepth 100000 in
theorem p6x_182_e : ck_ok p1_O none [] [(131, [p6x_181])] 130 [] 88 p6x_182 = true := by decide +kernel
theorem p6x_182_s {X : Int → Int} {LX : Nat} : ck_Ok p1_O X LX 130 p6x_182 := ck_ok_s (ck_E1 (ck_S1 p6x_181_s ck_S0) ck_E0) ck_X0 ck_l0 p6x_182_e
set_option maxRecDepth 100000 in
def p6x_186 : ck_Sum := ((8, 1, 6), 245, [.inr (.inr (.inl 1)), .inl (3, 2147483647, none), .inl (0, 39, none)], ([], [], [(3, 0, 0, ck_one 3)]), ([], []), [(.inl 3, 245, ([], [], []))])
set_option maxRecDepth 100000 in
theorem p6x_186_e : ck_ok p1_O none [] [(132, [p6x_180])] 131 [] 76 p6x_186 = true := by decide +kernel
theorem p6x_186_s {X : Int → Int} {LX : Nat} : ck_Ok p1_O X LX 131 p6x_186 := ck_ok_s (ck_E1 (ck_S1 p6x_180_s ck_S0) ck_E0) ck_X0 ck_l0 p6x_186_e
set_option maxRecDepth 100000 in
def p6x_187 : ck_Sum := ((9, 1, 6), 245, [.inr (.inr (.inl 1)), .inl (3, 2147483647, none), .inl (0, 39, none), .inr (.inr (.inl 245))], ([], [], [(3, 0, 0, ck_one 3)]), ([], []), [(.inr (some (.inl (ck_one 1))), 245, ([], [], []))])
set_option maxRecDepth 100000 in
theorem p6x_187_e : ck_ok p1_O none [] [(131, [p6x_186])] 130 [] 88 p6x_187 = true := by decide +kernel
theorem p6x_187_s {X : Int → Int} {LX : Nat} : ck_Ok p1_O X LX 130 p6x_187 := ck_ok_s (ck_E1 (ck_S1 p6x_186_s ck_S0) ck_E0) ck_X0 ck_l0 p6x_187_e
set_option maxRecDepth 100000 in
def p6x_189 : ck_Sum := ((8, 1, 6), 245, [.inr (.inr (.inl 1)), .inl (3, 2147483647, none), .inl (40, 2147483647, none)], ([], [], [(3, 0, 0, ck_one 3)]), ([], []), [(.inl 3, 245, ([], [], []))])
set_option maxRecDepth 100000 in
theorem p6x_189_e : ck_ok p1_O none [] [(132, [p6x_180])] 131 [] 76 p6x_189 = true := by decide +kernel
theorem p6x_189_s {X : Int → Int} {LX : Nat} : ck_Ok p1_O X LX 131 p6x_189 := ck_ok_s (ck_E1 (ck_S1 p6x_180_s ck_S0) ck_E0) ck_X0 ck_l0 p6x_189_e
set_option maxRecDepth 100000 in
def p6x_190 : ck_Sum := ((9, 1, 6), 245, [.inr (.inr (.inl 1)), .inl (3, 2147483647, none), .inl (40, 2147483647, none), .inr (.inr (.inl 245))], ([], [], [(3, 0, 0, ck_one 3)]), ([], []), [(.inr (some (.inl (ck_one 1))), 245, ([], [], []))])
set_option maxRecDepth 100000 in
theorem p6x_190_e : ck_ok p1_O none [] [(131, [p6x_189])] 130 [] 88 p6x_190 = true := by decide +kernel
theorem p6x_190_s {X : Int → Int} {LX : Nat} : ck_Ok p1_O X LX 130 p6x_190 := ck_ok_s (ck_E1 (ck_S1 p6x_189_s ck_S0) ck_E0) ck_X0 ck_l0 p6x_190_e
set_option maxRecDepth 100000 in
def p6x_137 : ck_Sum := ((0, 0, 0), 245, [.inr (.inr (.inl 226))], ([], [], [(227, 0, 0, ck_one 3)]), ([], []), [(.inr (some (.inl (ck_one 3))), 245, ([], [], []))])
set_option maxRecDepth 100000 in
theorem p6x_137_e : ck_ok p1_O none [] [] 262 [] 80 p6x_137 = true := by decide +kernel
theorem p6x_137_s {X : Int → Int} {LX : Nat} : ck_Ok p1_O X LX 262 p6x_137 := ck_ok_s (ck_E0) ck_X0 ck_l0 p6x_137_e
set_option maxRecDepth 100000 in
def p6x_138 : ck_Sum := ((0, 0, 0), 245, [.inl ((-2147483648), (-1), none), .inl (ck_one 0), .inl (ck_one 2)], ([], [], []), ([], []), [(.inr (some (.inl (ck_one 0))), 245, ([], [], []))])
set_option maxRecDepth 100000 in
theorem p6x_138_e : ck_ok p1_O none [] [] 287 [] 80 p6x_138 = true := by decide +kernel
theorem p6x_138_s {X : Int → Int} {LX : Nat} : ck_Ok p1_O X LX 287 p6x_138 := ck_ok_s (ck_E0) ck_X0 ck_l0 p6x_138_e
set_option maxRecDepth 100000 in
def p6x_139 : ck_Sum := ((1, 0, 0), 245, [.inr (.inr (.inl 226)), .inl ((-2147483648), (-1), none)], ([], [], [(227, 0, 0, ck_one 3)]), ([], []), [(.inr (some (.inl (ck_one 1))), 245, ([], [], []))])
set_option maxRecDepth 100000 in
theorem p6x_139_e : ck_ok p1_O none [] [(262, [p6x_137]), (287, [p6x_138])] 289 [] 92 p6x_139 = true := by decide +kernel
theorem p6x_139_s {X : Int → Int} {LX : Nat} : ck_Ok p1_O X LX 289 p6x_139 := ck_ok_s (ck_E1 (ck_S1 p6x_137_s ck_S0) (ck_E1 (ck_S1 p6x_138_s ck_S0) ck_E0)) ck_X0 ck_l0 p6x_139_e
set_option maxRecDepth 100000 in
def p6x_140 : ck_Sum := ((0, 0, 0), 245, [.inr (.inr (.inl 226)), .inl (ck_one 1), .inl (ck_one 1)], ([], [], []), ([(226, 0, 0)], []), [(.inr (some (.inl (ck_one 1))), 245, ([], [], [(226, 0, 0, ck_one 1)]))])
set_option maxRecDepth 100000 in
theorem p6x_140_e : ck_ok p1_O none [] [] 283 [] 84 p6x_140 = true := by decide +kernel
theorem p6x_140_s {X : Int → Int} {LX : Nat} : ck_Ok p1_O X LX 283 p6x_140 := ck_ok_s (ck_E0) ck_X0 ck_l0 p6x_140_e
set_option maxRecDepth 100000 in
def p6x_141 : ck_Sum := ((2, 0, 0), 245, [.inr (.inr (.inl 226)), .inl ((-2147483648), (-1), none), .inl ((-2147483648), (-1), none)], ([], [], [(227, 0, 0, ck_one 3)]), ([(226, 0, 0)], []), [(.inr (some (.inl (ck_one 0))), 245, ([], [], [(226, 0, 0, ck_one 1)]))])
set_option maxRecDepth 100000 in
theorem p6x_141_e : ck_ok p1_O none [] [(289, [p6x_139]), (283, [p6x_140])] 288 [] 102 p6x_141 = true := by decide +kernel
theorem p6x_141_s {X : Int → Int} {LX : Nat} : ck_Ok p1_O X LX 288 p6x_141 := ck_ok_s (ck_E1 (ck_S1 p6x_139_s ck_S0) (ck_E1 (ck_S1 p6x_140_s ck_S0) ck_E0)) ck_X0 ck_l0 p6x_141_e
set_option maxRecDepth 100000 in
def p6x_145 : ck_Sum := ((2, 0, 0), 245, [.inr (.inr (.inl 226)), .inl ((-2147483648), (-1), none), .inl (0, 39, none)], ([], [], [(227, 0, 0, ck_one 3)]), ([(226, 0, 0)], []), [(.inr (some (.inl (ck_one 0))), 245, ([], [], [(226, 0, 0, ck_one 1)]))])
set_option maxRecDepth 100000 in
theorem p6x_145_e : ck_ok p1_O none [] [(289, [p6x_139]), (283, [p6x_140])] 288 [] 102 p6x_145 = true := by decide +kernel
theorem p6x_145_s {X : Int → Int} {LX : Nat} : ck_Ok p1_O X LX 288 p6x_145 := ck_ok_s (ck_E1 (ck_S1 p6x_139_s ck_S0) (ck_E1 (ck_S1 p6x_140_s ck_S0) ck_E0)) ck_X0 ck_l0 p6x_145_e
set_option maxRecDepth 100000 in
def p6x_148 : ck_Sum := ((2, 0, 0), 245, [.inr (.inr (.inl 226)), .inl ((-2147483648), (-1), none), .inl (40, 2147483647, none)], ([], [], [(227, 0, 0, ck_one 3)]), ([(226, 0, 0)], []), [(.inr (some (.inl (ck_one 0))), 245, ([], [], [(226, 0, 0, ck_one 1)]))])
set_option maxRecDepth 100000 in
theorem p6x_148_e : ck_ok p1_O none [] [(289, [p6x_139]), (283, [p6x_140])] 288 [] 102 p6x_148 = true := by decide +kernel
theorem p6x_148_s {X : Int → Int} {LX : Nat} : ck_Ok p1_O X LX 288 p6x_148 := ck_ok_s (ck_E1 (ck_S1 p6x_139_s ck_S0) (ck_E1 (ck_S1 p6x_140_s ck_S0) ck_E0)) ck_X0 ck_l0 p6x_148_e
set_option maxRecDepth 100000 in
def p6x_155 : ck_Sum := ((0, 0, 0), 245, [.inl (0, 2, none), .inl (ck_one 0), .inl (ck_one 2)], ([], [], []), ([], []), [(.inr (some (.inl (ck_one 1))), 245, ([], [], []))])
set_option maxRecDepth 100000 in
theorem p6x_155_e : ck_ok p1_O none [] [] 287 [] 88 p6x_155 = true := by decide +kernel
theorem p6x_155_s {X : Int → Int} {LX : Nat} : ck_Ok p1_O X LX 287 p6x_155 := ck_ok_s (ck_E0) ck_X0 ck_l0 p6x_155_e
set_option maxRecDepth 100000 in
def p6x_156 : ck_Sum := ((1, 0, 0), 245, [.inr (.inr (.inl 226)), .inl (0, 2, none)], ([], [], [(227, 0, 0, ck_one 3)]), ([], []), [(.inr (some (.inl (ck_one 0))), 245, ([], [], []))])
set_option maxRecDepth 100000 in
theorem p6x_156_e : ck_ok p1_O none [] [(262, [p6x_137]), (287, [p6x_155])] 289 [] 90 p6x_156 = true := by decide +kernel
theorem p6x_156_s {X : Int → Int} {LX : Nat} : ck_Ok p1_O X LX 289 p6x_156 := ck_ok_s (ck_E1 (ck_S1 p6x_137_s ck_S0) (ck_E1 (ck_S1 p6x_155_s ck_S0) ck_E0)) ck_X0 ck_l0 p6x_156_e
set_option maxRecDepth 100000 in
def p6x_157 : ck_Sum := ((0, 0, 0), 245, [.inr (.inr (.inl 226))], ([], [], [(227, 1, 1, ck_one 40)]), ([], []), [(.inr (some (.inl (ck_one 40))), 245, ([], [], []))])
set_option maxRecDepth 100000 in
theorem p6x_157_e : ck_ok p1_O none [] [] 260 [] 80 p6x_157 = true := by decide +kernel
theorem p6x_157_s {X : Int → Int} {LX : Nat} : ck_Ok p1_O X LX 260 p6x_157 := ck_ok_s (ck_E0) ck_X0 ck_l0 p6x_157_e
set_option maxRecDepth 100000 in
def p6x_158 : ck_Sum := ((0, 0, 0), 245, [.inl ((-2147483648), (-1), none), .inl (ck_one 0), .inl (ck_one 39)], ([], [], []), ([], []), [(.inr (some (.inl (ck_one 0))), 245, ([], [], []))])
set_option maxRecDepth 100000 in
theorem p6x_158_e : ck_ok p1_O none [] [] 287 [] 80 p6x_158 = true := by decide +kernel
theorem p6x_158_s {X : Int → Int} {LX : Nat} : ck_Ok p1_O X LX 287 p6x_158 := ck_ok_s (ck_E0) ck_X0 ck_l0 p6x_158_e
set_option maxRecDepth 100000 in
def p6x_159 : ck_Sum := ((1, 0, 0), 245, [.inr (.inr (.inl 226)), .inl ((-2147483648), (-1), none)], ([], [], [(227, 1, 1, ck_one 40)]), ([], []), [(.inr (some (.inl (ck_one 1))), 245, ([], [], []))])
set_option maxRecDepth 100000 in
theorem p6x_159_e : ck_ok p1_O none [] [(260, [p6x_157]), (287, [p6x_158])] 290 [] 92 p6x_159 = true := by decide +kernel
theorem p6x_159_s {X : Int → Int} {LX : Nat} : ck_Ok p1_O X LX 290 p6x_159 := ck_ok_s (ck_E1 (ck_S1 p6x_157_s ck_S0) (ck_E1 (ck_S1 p6x_158_s ck_S0) ck_E0)) ck_X0 ck_l0 p6x_159_e
set_option maxRecDepth 100000 in
def p6x_160 : ck_Sum := ((2, 0, 0), 245, [.inr (.inr (.inl 226)), .inl (0, 2, none), .inl ((-2147483648), (-1), none)], ([], [], [(227, 1, 1, ck_one 40), (227, 0, 0, ck_one 3)]), ([(226, 0, 0)], []), [(.inr (some (.inl (ck_one 0))), 245, ([], [], [(226, 0, 0, ck_one 1)]))])
set_option maxRecDepth 100000 in
theorem p6x_160_e : ck_ok p1_O none [] [(289, [p6x_156]), (290, [p6x_159]), (283, [p6x_140])] 288 [] 110 p6x_160 = true := by decide +kernel
theorem p6x_160_s {X : Int → Int} {LX : Nat} : ck_Ok p1_O X LX 288 p6x_160 := ck_ok_s (ck_E1 (ck_S1 p6x_156_s ck_S0) (ck_E1 (ck_S1 p6x_159_s ck_S0) (ck_E1 (ck_S1 p6x_140_s ck_S0) ck_E0))) ck_X0 ck_l0 p6x_160_e
set_option maxRecDepth 100000 in
def p6x_166 : ck_Sum := ((0, 0, 0), 245, [.inl (0, 39, none), .inl (ck_one 0), .inl (ck_one 39)], ([], [], []), ([], []), [(.inr (some (.inl (ck_one 1))), 245, ([], [], []))])
set_option maxRecDepth 100000 in
theorem p6x_166_e : ck_ok p1_O none [] [] 287 [] 88 p6x_166 = true := by decide +kernel
theorem p6x_166_s {X : Int → Int} {LX : Nat} : ck_Ok p1_O X LX 287 p6x_166 := ck_ok_s (ck_E0) ck_X0 ck_l0 p6x_166_e
set_option maxRecDepth 100000 in
def p6x_167 : ck_Sum := ((1, 0, 0), 245, [.inr (.inr (.inl 226)), .inl (0, 39, none)], ([], [], [(227, 1, 1, ck_one 40)]), ([], []), [(.inr (some (.inl (ck_one 0))), 245, ([], [], []))])
set_option maxRecDepth 100000 in
theorem p6x_167_e : ck_ok p1_O none [] [(260, [p6x_157]), (287, [p6x_166])] 290 [] 90 p6x_167 = true := by decide +kernel
theorem p6x_167_s {X : Int → Int} {LX : Nat} : ck_Ok p1_O X LX 290 p6x_167 := ck_ok_s (ck_E1 (ck_S1 p6x_157_s ck_S0) (ck_E1 (ck_S1 p6x_166_s ck_S0) ck_E0)) ck_X0 ck_l0 p6x_167_e
set_option maxRecDepth 100000 in
def p6x_168 : ck_Sum := ((0, 0, 0), 245, [.inr (.inr (.inl 226)), .inl (ck_one 0), .inl (ck_one 1)], ([], [], []), ([], []), [(.inr (some (.inl (ck_one 0))), 245, ([], [], []))])
set_option maxRecDepth 100000 in
theorem p6x_168_e : ck_ok p1_O none [] [] 283 [] 78 p6x_168 = true := by decide +kernel
theorem p6x_168_s {X : Int → Int} {LX : Nat} : ck_Ok p1_O X LX 283 p6x_168 := ck_ok_s (ck_E0) ck_X0 ck_l0 p6x_168_e
set_option maxRecDepth 100000 in
def p6x_169 : ck_Sum := ((0, 0, 0), 245, [.inr (.inr (.inl 226)), .inl (0, 2, none), .inl (0, 39, none)], ([], [], [(227, 2, 9, ck_one 0)]), ([], []), [(.inr (some (.inl (ck_one 0))), 245, ([], [], []))])
set_option maxRecDepth 100000 in
theorem p6x_169_e : ck_ok p1_O none [] [] 291 [(5, [some (.inr (.inr (.inl 226))), some (.inl (0, 2, none)), some (.inl (0, 39, none)), some (.inl (ck_one 0)), some (.inl (ck_one 0))], ([], [], [(227, 2, 9, ck_one 0)]), 100, .inl 3, true)] 122 p6x_169 = true := by decide +kernel
theorem p6x_169_s {X : Int → Int} {LX : Nat} : ck_Ok p1_O X LX 291 p6x_169 := ck_ok_s (ck_E0) ck_X0 ck_l0 p6x_169_e
set_option maxRecDepth 100000 in
def p6x_170 : ck_Sum := ((2, 0, 0), 245, [.inr (.inr (.inl 226)), .inl (0, 2, none), .inl (0, 39, none)], ([], [], [(227, 1, 1, ck_one 40), (227, 0, 0, ck_one 3), (227, 2, 9, ck_one 0)]), ([(226, 0, 0)], []), [(.inr (some (.inl (ck_one 0))), 245, ([], [], [(226, 0, 0, ck_one 0)]))])
set_option maxRecDepth 100000 in
theorem p6x_170_e : ck_ok p1_O none [] [(289, [p6x_156]), (290, [p6x_167]), (283, [p6x_168]), (291, [p6x_169])] 288 [] 112 p6x_170 = true := by decide +kernel
theorem p6x_170_s {X : Int → Int} {LX : Nat} : ck_Ok p1_O X LX 288 p6x_170 := ck_ok_s (ck_E1 (ck_S1 p6x_156_s ck_S0) (ck_E1 (ck_S1 p6x_167_s ck_S0) (ck_E1 (ck_S1 p6x_168_s ck_S0) (ck_E1 (ck_S1 p6x_169_s ck_S0) ck_E0)))) ck_X0 ck_l0 p6x_170_e
set_option maxRecDepth 100000 in
def p6x_176 : ck_Sum := ((0, 0, 0), 245, [.inl (40, 2147483647, none), .inl (ck_one 0), .inl (ck_one 39)], ([], [], []), ([], []), [(.inr (some (.inl (ck_one 0))), 245, ([], [], []))])
set_option maxRecDepth 100000 in
theorem p6x_176_e : ck_ok p1_O none [] [] 287 [] 86 p6x_176 = true := by decide +kernel
theorem p6x_176_s {X : Int → Int} {LX : Nat} : ck_Ok p1_O X LX 287 p6x_176 := ck_ok_s (ck_E0) ck_X0 ck_l0 p6x_176_e
set_option maxRecDepth 100000 in
def p6x_177 : ck_Sum := ((1, 0, 0), 245, [.inr (.inr (.inl 226)), .inl (40, 2147483647, none)], ([], [], [(227, 1, 1, ck_one 40)]), ([], []), [(.inr (some (.inl (ck_one 1))), 245, ([], [], []))])
set_option maxRecDepth 100000 in
theorem p6x_177_e : ck_ok p1_O none [] [(260, [p6x_157]), (287, [p6x_176])] 290 [] 92 p6x_177 = true := by decide +kernel
theorem p6x_177_s {X : Int → Int} {LX : Nat} : ck_Ok p1_O X LX 290 p6x_177 := ck_ok_s (ck_E1 (ck_S1 p6x_157_s ck_S0) (ck_E1 (ck_S1 p6x_176_s ck_S0) ck_E0)) ck_X0 ck_l0 p6x_177_e
set_option maxRecDepth 100000 in
def p6x_178 : ck_Sum := ((2, 0, 0), 245, [.inr (.inr (.inl 226)), .inl (0, 2, none), .inl (40, 2147483647, none)], ([], [], [(227, 1, 1, ck_one 40), (227, 0, 0, ck_one 3)]), ([(226, 0, 0)], []), [(.inr (some (.inl (ck_one 0))), 245, ([], [], [(226, 0, 0, ck_one 1)]))])
set_option maxRecDepth 100000 in
theorem p6x_178_e : ck_ok p1_O none [] [(289, [p6x_156]), (290, [p6x_177]), (283, [p6x_140])] 288 [] 110 p6x_178 = true := by decide +kernel
theorem p6x_178_s {X : Int → Int} {LX : Nat} : ck_Ok p1_O X LX 288 p6x_178 := ck_ok_s (ck_E1 (ck_S1 p6x_156_s ck_S0) (ck_E1 (ck_S1 p6x_177_s ck_S0) (ck_E1 (ck_S1 p6x_140_s ck_S0) ck_E0))) ck_X0 ck_l0 p6x_178_e
set_option maxRecDepth 100000 in
def p6x_183 : ck_Sum := ((0, 0, 0), 245, [.inl (3, 2147483647, none), .inl (ck_one 0), .inl (ck_one 2)], ([], [], []), ([], []), [(.inr (some (.inl (ck_one 0))), 245, ([], [], []))])
set_option maxRecDepth 100000 in
theorem p6x_183_e : ck_ok p1_O none [] [] 287 [] 86 p6x_183 = true := by decide +kernel
theorem p6x_183_s {X : Int → Int} {LX : Nat} : ck_Ok p1_O X LX 287 p6x_183 := ck_ok_s (ck_E0) ck_X0 ck_l0 p6x_183_e
set_option maxRecDepth 100000 in
def p6x_184 : ck_Sum := ((1, 0, 0), 245, [.inr (.inr (.inl 226)), .inl (3, 2147483647, none)], ([], [], [(227, 0, 0, ck_one 3)]), ([], []), [(.inr (some (.inl (ck_one 1))), 245, ([], [], []))])
set_option maxRecDepth 100000 in
theorem p6x_184_e : ck_ok p1_O none [] [(262, [p6x_137]), (287, [p6x_183])] 289 [] 92 p6x_184 = true := by decide +kernel
theorem p6x_184_s {X : Int → Int} {LX : Nat} : ck_Ok p1_O X LX 289 p6x_184 := ck_ok_s (ck_E1 (ck_S1 p6x_137_s ck_S0) (ck_E1 (ck_S1 p6x_183_s ck_S0) ck_E0)) ck_X0 ck_l0 p6x_184_e
set_option maxRecDepth 100000 in
def p6x_185 : ck_Sum := ((2, 0, 0), 245, [.inr (.inr (.inl 226)), .inl (3, 2147483647, none), .inl ((-2147483648), (-1), none)], ([], [], [(227, 0, 0, ck_one 3)]), ([(226, 0, 0)], []), [(.inr (some (.inl (ck_one 0))), 245, ([], [], [(226, 0, 0, ck_one 1)]))])
set_option maxRecDepth 100000 in
theorem p6x_185_e : ck_ok p1_O none [] [(289, [p6x_184]), (283, [p6x_140])] 288 [] 102 p6x_185 = true := by decide +kernel
theorem p6x_185_s {X : Int → Int} {LX : Nat} : ck_Ok p1_O X LX 288 p6x_185 := ck_ok_s (ck_E1 (ck_S1 p6x_184_s ck_S0) (ck_E1 (ck_S1 p6x_140_s ck_S0) ck_E0)) ck_X0 ck_l0 p6x_185_e
set_option maxRecDepth 100000 in
def p6x_188 : ck_Sum := ((2, 0, 0), 245, [.inr (.inr (.inl 226)), .inl (3, 2147483647, none), .inl (0, 39, none)], ([], [], [(227, 0, 0, ck_one 3)]), ([(226, 0, 0)], []), [(.inr (some (.inl (ck_one 0))), 245, ([], [], [(226, 0, 0, ck_one 1)]))])
set_option maxRecDepth 100000 in
theorem p6x_188_e : ck_ok p1_O none [] [(289, [p6x_184]), (283, [p6x_140])] 288 [] 102 p6x_188 = true := by decide +kernel
theorem p6x_188_s {X : Int → Int} {LX : Nat} : ck_Ok p1_O X LX 288 p6x_188 := ck_ok_s (ck_E1 (ck_S1 p6x_184_s ck_S0) (ck_E1 (ck_S1 p6x_140_s ck_S0) ck_E0)) ck_X0 ck_l0 p6x_188_e
set_option maxRecDepth 100000 in
def p6x_191 : ck_Sum := ((2, 0, 0), 245, [.inr (.inr (.inl 226)), .inl (3, 2147483647, none), .inl (40, 2147483647, none)], ([], [], [(227, 0, 0, ck_one 3)]), ([(226, 0, 0)], []), [(.inr (some (.inl (ck_one 0))), 245, ([], [], [(226, 0, 0, ck_one 1)]))])
set_option maxRecDepth 100000 in
theorem p6x_191_e : ck_ok p1_O none [] [(289, [p6x_184]), (283, [p6x_140])] 288 [] 102 p6x_191 = true := by decide +kernel
theorem p6x_191_s {X : Int → Int} {LX : Nat} : ck_Ok p1_O X LX 288 p6x_191 := ck_ok_s (ck_E1 (ck_S1 p6x_184_s ck_S0) (ck_E1 (ck_S1 p6x_140_s ck_S0) ck_E0)) ck_X0 ck_l0 p6x_191_e
set_option maxRecDepth 100000 in
def p6x_142 : ck_Sum := ((0, 0, 0), 245, [.inr (.inr (.inl 226))], ([], [], [(226, 0, 0, ck_one 1)]), ([], []), [(.inr (some (.inl (ck_one 1))), 245, ([], [], []))])
set_option maxRecDepth 100000 in
theorem p6x_142_e : ck_ok p1_O none [] [] 234 [] 76 p6x_142 = true := by decide +kernel
theorem p6x_142_s {X : Int → Int} {LX : Nat} : ck_Ok p1_O X LX 234 p6x_142 := ck_ok_s (ck_E0) ck_X0 ck_l0 p6x_142_e
set_option maxRecDepth 100000 in
def p6x_171 : ck_Sum := ((0, 0, 0), 245, [.inr (.inr (.inl 226))], ([], [], [(226, 0, 0, ck_one 0)]), ([], []), [(.inr (some (.inl (ck_one 0))), 245, ([], [], []))])
set_option maxRecDepth 100000 in
theorem p6x_171_e : ck_ok p1_O none [] [] 234 [] 76 p6x_171 = true := by decide +kernel
theorem p6x_171_s {X : Int → Int} {LX : Nat} : ck_Ok p1_O X LX 234 p6x_171 := ck_ok_s (ck_E0) ck_X0 ck_l0 p6x_171_e
set_option maxRecDepth 100000 in
def p6_F : ck_F := ([], [(3, 8, 0), (16, 8, 0), (29, 8, 0), (44, 8, 0), (57, 8, 0), (70, 8, 0), (83, 8, 0), (96, 8, 0), (109, 8, 0), (122, 8, 0), (135, 8, 0), (148, 8, 0), (161, 8, 0), (174, 8, 0), (187, 8, 0)], [(245, 0, 0, ck_one 0), (227, 1, 1, ck_one 40), (227, 0, 0, ck_one 3), (227, 2, 9, ck_one 0), (226, 0, 0, ck_one 0), (3, 1, 1, ck_one 40), (3, 0, 0, ck_one 3), (202, 0, 593, ck_one 0)])
def p6_E : List (Nat × List ck_Sum) := [(130, [p6x_136, p6x_144, p6x_147, p6x_154, p6x_165, p6x_175, p6x_182, p6x_187, p6x_190]), (288, [p6x_141, p6x_145, p6x_148, p6x_160, p6x_170, p6x_178, p6x_185, p6x_188, p6x_191]), (234, [p6x_142, p6x_171])]
theorem p6_h {X : Int → Int} {LX : Nat} : ck_OkE p1_O X LX p6_E := ck_E1 (ck_S1 p6x_136_s (ck_S1 p6x_144_s (ck_S1 p6x_147_s (ck_S1 p6x_154_s (ck_S1 p6x_165_s (ck_S1 p6x_175_s (ck_S1 p6x_182_s (ck_S1 p6x_187_s (ck_S1 p6x_190_s ck_S0))))))))) (ck_E1 (ck_S1 p6x_141_s (ck_S1 p6x_145_s (ck_S1 p6x_148_s (ck_S1 p6x_160_s (ck_S1 p6x_170_s (ck_S1 p6x_178_s (ck_S1 p6x_185_s (ck_S1 p6x_188_s (ck_S1 p6x_191_s ck_S0))))))))) (ck_E1 (ck_S1 p6x_142_s (ck_S1 p6x_171_s ck_S0)) ck_E0))
set_option maxRecDepth 100000 in
theorem p6_b : (ck_prod [(1, [((-2147483648), (-1)), (0, 2), (3, 2147483647)]), (2, [((-2147483648), (-1)), (0, 39), (40, 2147483647)])]).all (fun xf => ck_go p1_O (some 6) xf p6_E 370 280 245 p1_W p1_outs [] 152 false [] 1000 2000 499 p1_L [] 245 p6_F) = true := by decide +kernel
theorem p6_s {X : Int → Int} {LX : Nat} (hLX : 6 = LX) (hX : ∀ j, gm_ir (X j)) {σ : Nat → Int} {L : gm_L} {K0 K : gm_K} {R0 R : gm_R} {M0 M : gm_M} (hS : ck_St p1_O σ p1_W 245 K0 R0 M0 p1_L [] p6_F L [] 245 K R M) : gm_Wp X LX 280 1000 2000 370 499 L [] 245 K R M (ck_Q p1_O σ p1_W 245 K0 R0 M0 p1_outs) := ck_boxes p6_h hLX hX (by decide +kernel) p6_b hS
