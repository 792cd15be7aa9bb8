/-! count, on a new object: laid by wip/am/p1g.py. -/
set_option maxRecDepth 100000 in
def p46x_133 : ck_Sum := ((0, 0, 0), 245, [.inr (.inr (.inl 1)), .inl ((-2147483648), (-1), none)], ([], [], []), ([], []), [(.inr (some (.inl (ck_one (-1)))), 245, ([], [], []))])
set_option maxRecDepth 100000 in
theorem p46x_133_e : ck_ok p1_O none [] [] 63 [] 78 p46x_133 = true := by decide +kernel
theorem p46x_133_s {X : Int → Int} {LX : Nat} : ck_Ok p1_O X LX 63 p46x_133 := ck_ok_s (ck_E0) ck_X0 ck_l0 p46x_133_e
set_option maxRecDepth 100000 in
def p46x_136 : ck_Sum := ((0, 0, 0), 245, [.inr (.inr (.inl 1)), .inl (ck_one 0)], ([], [], [(3, 0, 0, ck_one 3)]), ([], []), [(.inr (some (.inl (ck_one 3))), 245, ([], [], []))])
set_option maxRecDepth 100000 in
theorem p46x_136_e : ck_ok p1_O none [] [] 63 [] 82 p46x_136 = true := by decide +kernel
theorem p46x_136_s {X : Int → Int} {LX : Nat} : ck_Ok p1_O X LX 63 p46x_136 := ck_ok_s (ck_E0) ck_X0 ck_l0 p46x_136_e
set_option maxRecDepth 100000 in
def p46x_139 : ck_Sum := ((0, 0, 0), 245, [.inr (.inr (.inl 1)), .inl (ck_one 1)], ([], [], [(3, 1, 1, ck_one 40)]), ([], []), [(.inr (some (.inl (ck_one 40))), 245, ([], [], []))])
set_option maxRecDepth 100000 in
theorem p46x_139_e : ck_ok p1_O none [] [] 63 [] 82 p46x_139 = true := by decide +kernel
theorem p46x_139_s {X : Int → Int} {LX : Nat} : ck_Ok p1_O X LX 63 p46x_139 := ck_ok_s (ck_E0) ck_X0 ck_l0 p46x_139_e
set_option maxRecDepth 100000 in
def p46x_142 : ck_Sum := ((0, 0, 0), 245, [.inr (.inr (.inl 4))], ([], [], [(4, 3, 3, ck_one 0)]), ([], []), [(.inr (some (.inl (ck_one 0))), 245, ([], [], []))])
set_option maxRecDepth 100000 in
theorem p46x_142_e : ck_ok p1_O none [] [] 9 [] 76 p46x_142 = true := by decide +kernel
theorem p46x_142_s {X : Int → Int} {LX : Nat} : ck_Ok p1_O X LX 9 p46x_142 := ck_ok_s (ck_E0) ck_X0 ck_l0 p46x_142_e
set_option maxRecDepth 100000 in
def p46x_143 : ck_Sum := ((1, 0, 0), 245, [.inr (.inr (.inl 1)), .inl (ck_one 2)], ([], [], [(4, 3, 3, ck_one 0)]), ([], []), [(.inr (some (.inl (ck_one 0))), 245, ([], [], []))])
set_option maxRecDepth 100000 in
theorem p46x_143_e : ck_ok p1_O none [] [(9, [p46x_142])] 63 [] 84 p46x_143 = true := by decide +kernel
theorem p46x_143_s {X : Int → Int} {LX : Nat} : ck_Ok p1_O X LX 63 p46x_143 := ck_ok_s (ck_E1 (ck_S1 p46x_142_s ck_S0) ck_E0) ck_X0 ck_l0 p46x_143_e
set_option maxRecDepth 100000 in
def p46x_146 : ck_Sum := ((0, 0, 0), 245, [.inr (.inr (.inl 8))], ([], [], [(8, 3, 3, ck_one 0)]), ([], []), [(.inr (some (.inl (ck_one 0))), 245, ([], [], []))])
set_option maxRecDepth 100000 in
theorem p46x_146_e : ck_ok p1_O none [] [] 9 [] 76 p46x_146 = true := by decide +kernel
theorem p46x_146_s {X : Int → Int} {LX : Nat} : ck_Ok p1_O X LX 9 p46x_146 := ck_ok_s (ck_E0) ck_X0 ck_l0 p46x_146_e
set_option maxRecDepth 100000 in
def p46x_147 : ck_Sum := ((1, 0, 0), 245, [.inr (.inr (.inl 1)), .inl (ck_one 3)], ([], [], [(8, 3, 3, ck_one 0)]), ([], []), [(.inr (some (.inl (ck_one 0))), 245, ([], [], []))])
set_option maxRecDepth 100000 in
theorem p46x_147_e : ck_ok p1_O none [] [(9, [p46x_146])] 63 [] 84 p46x_147 = true := by decide +kernel
theorem p46x_147_s {X : Int → Int} {LX : Nat} : ck_Ok p1_O X LX 63 p46x_147 := ck_ok_s (ck_E1 (ck_S1 p46x_146_s ck_S0) ck_E0) ck_X0 ck_l0 p46x_147_e
set_option maxRecDepth 100000 in
def p46x_150 : ck_Sum := ((0, 0, 0), 245, [.inr (.inr (.inl 10))], ([], [], [(10, 3, 3, ck_one 0)]), ([], []), [(.inr (some (.inl (ck_one 0))), 245, ([], [], []))])
set_option maxRecDepth 100000 in
theorem p46x_150_e : ck_ok p1_O none [] [] 9 [] 76 p46x_150 = true := by decide +kernel
theorem p46x_150_s {X : Int → Int} {LX : Nat} : ck_Ok p1_O X LX 9 p46x_150 := ck_ok_s (ck_E0) ck_X0 ck_l0 p46x_150_e
set_option maxRecDepth 100000 in
def p46x_151 : ck_Sum := ((1, 0, 0), 245, [.inr (.inr (.inl 1)), .inl (ck_one 4)], ([], [], [(10, 3, 3, ck_one 0)]), ([], []), [(.inr (some (.inl (ck_one 0))), 245, ([], [], []))])
set_option maxRecDepth 100000 in
theorem p46x_151_e : ck_ok p1_O none [] [(9, [p46x_150])] 63 [] 84 p46x_151 = true := by decide +kernel
theorem p46x_151_s {X : Int → Int} {LX : Nat} : ck_Ok p1_O X LX 63 p46x_151 := ck_ok_s (ck_E1 (ck_S1 p46x_150_s ck_S0) ck_E0) ck_X0 ck_l0 p46x_151_e
set_option maxRecDepth 100000 in
def p46x_154 : ck_Sum := ((0, 0, 0), 245, [.inr (.inr (.inl 6))], ([], [], [(6, 3, 3, ck_one 0)]), ([], []), [(.inr (some (.inl (ck_one 0))), 245, ([], [], []))])
set_option maxRecDepth 100000 in
theorem p46x_154_e : ck_ok p1_O none [] [] 9 [] 76 p46x_154 = true := by decide +kernel
theorem p46x_154_s {X : Int → Int} {LX : Nat} : ck_Ok p1_O X LX 9 p46x_154 := ck_ok_s (ck_E0) ck_X0 ck_l0 p46x_154_e
set_option maxRecDepth 100000 in
def p46x_155 : ck_Sum := ((1, 0, 0), 245, [.inr (.inr (.inl 1)), .inl (ck_one 5)], ([], [], [(6, 3, 3, ck_one 0)]), ([], []), [(.inr (some (.inl (ck_one 0))), 245, ([], [], []))])
set_option maxRecDepth 100000 in
theorem p46x_155_e : ck_ok p1_O none [] [(9, [p46x_154])] 63 [] 84 p46x_155 = true := by decide +kernel
theorem p46x_155_s {X : Int → Int} {LX : Nat} : ck_Ok p1_O X LX 63 p46x_155 := ck_ok_s (ck_E1 (ck_S1 p46x_154_s ck_S0) ck_E0) ck_X0 ck_l0 p46x_155_e
set_option maxRecDepth 100000 in
def p46x_158 : ck_Sum := ((0, 0, 0), 245, [.inr (.inr (.inl 12))], ([], [], [(12, 3, 3, ck_one 0)]), ([], []), [(.inr (some (.inl (ck_one 0))), 245, ([], [], []))])
set_option maxRecDepth 100000 in
theorem p46x_158_e : ck_ok p1_O none [] [] 9 [] 76 p46x_158 = true := by decide +kernel
theorem p46x_158_s {X : Int → Int} {LX : Nat} : ck_Ok p1_O X LX 9 p46x_158 := ck_ok_s (ck_E0) ck_X0 ck_l0 p46x_158_e
set_option maxRecDepth 100000 in
def p46x_159 : ck_Sum := ((1, 0, 0), 245, [.inr (.inr (.inl 1)), .inl (ck_one 6)], ([], [], [(12, 3, 3, ck_one 0)]), ([], []), [(.inr (some (.inl (ck_one 0))), 245, ([], [], []))])
set_option maxRecDepth 100000 in
theorem p46x_159_e : ck_ok p1_O none [] [(9, [p46x_158])] 63 [] 84 p46x_159 = true := by decide +kernel
theorem p46x_159_s {X : Int → Int} {LX : Nat} : ck_Ok p1_O X LX 63 p46x_159 := ck_ok_s (ck_E1 (ck_S1 p46x_158_s ck_S0) ck_E0) ck_X0 ck_l0 p46x_159_e
set_option maxRecDepth 100000 in
def p46x_162 : ck_Sum := ((0, 0, 0), 245, [.inr (.inr (.inl 1)), .inl (ck_one 7)], ([], [], [(3, 7, 7, ck_one 0)]), ([], []), [(.inr (some (.inl (ck_one 0))), 245, ([], [], []))])
set_option maxRecDepth 100000 in
theorem p46x_162_e : ck_ok p1_O none [] [] 63 [] 82 p46x_162 = true := by decide +kernel
theorem p46x_162_s {X : Int → Int} {LX : Nat} : ck_Ok p1_O X LX 63 p46x_162 := ck_ok_s (ck_E0) ck_X0 ck_l0 p46x_162_e
set_option maxRecDepth 100000 in
def p46x_165 : ck_Sum := ((0, 0, 0), 245, [.inr (.inr (.inl 1))], ([], [(3, 8, 0)], []), ([], []), [(.inr (some (.inl (ck_one (-1)))), 245, ([], [], []))])
set_option maxRecDepth 100000 in
theorem p46x_165_e : ck_ok p1_O none [] [] 64 [] 84 p46x_165 = true := by decide +kernel
theorem p46x_165_s {X : Int → Int} {LX : Nat} : ck_Ok p1_O X LX 64 p46x_165 := ck_ok_s (ck_E0) ck_X0 ck_l0 p46x_165_e
set_option maxRecDepth 100000 in
def p46x_166 : ck_Sum := ((1, 0, 0), 245, [.inr (.inr (.inl 1)), .inl (ck_one 8)], ([], [(3, 8, 0)], []), ([], []), [(.inr (some (.inl (ck_one (-1)))), 245, ([], [], []))])
set_option maxRecDepth 100000 in
theorem p46x_166_e : ck_ok p1_O none [] [(64, [p46x_165])] 63 [] 80 p46x_166 = true := by decide +kernel
theorem p46x_166_s {X : Int → Int} {LX : Nat} : ck_Ok p1_O X LX 63 p46x_166 := ck_ok_s (ck_E1 (ck_S1 p46x_165_s ck_S0) ck_E0) ck_X0 ck_l0 p46x_166_e
set_option maxRecDepth 100000 in
def p46x_168 : ck_Sum := ((0, 0, 0), 245, [.inr (.inr (.inl 1)), .inl (ck_one 9)], ([], [], [(3, 6, 6, ck_one 0)]), ([], []), [(.inr (some (.inl (ck_one 0))), 245, ([], [], []))])
set_option maxRecDepth 100000 in
theorem p46x_168_e : ck_ok p1_O none [] [] 63 [] 82 p46x_168 = true := by decide +kernel
theorem p46x_168_s {X : Int → Int} {LX : Nat} : ck_Ok p1_O X LX 63 p46x_168 := ck_ok_s (ck_E0) ck_X0 ck_l0 p46x_168_e
set_option maxRecDepth 100000 in
def p46x_171 : ck_Sum := ((0, 0, 0), 245, [.inr (.inr (.inl 1)), .inl (ck_one 10)], ([], [], [(3, 2, 2, ck_one 10)]), ([], []), [(.inr (some (.inl (ck_one 10))), 245, ([], [], []))])
set_option maxRecDepth 100000 in
theorem p46x_171_e : ck_ok p1_O none [] [] 63 [] 82 p46x_171 = true := by decide +kernel
theorem p46x_171_s {X : Int → Int} {LX : Nat} : ck_Ok p1_O X LX 63 p46x_171 := ck_ok_s (ck_E0) ck_X0 ck_l0 p46x_171_e
set_option maxRecDepth 100000 in
def p46x_174 : ck_Sum := ((0, 0, 0), 245, [.inr (.inr (.inl 1)), .inl (ck_one 11)], ([], [], [(3, 3, 3, ck_one 2)]), ([], []), [(.inr (some (.inl (ck_one 2))), 245, ([], [], []))])
set_option maxRecDepth 100000 in
theorem p46x_174_e : ck_ok p1_O none [] [] 63 [] 82 p46x_174 = true := by decide +kernel
theorem p46x_174_s {X : Int → Int} {LX : Nat} : ck_Ok p1_O X LX 63 p46x_174 := ck_ok_s (ck_E0) ck_X0 ck_l0 p46x_174_e
set_option maxRecDepth 100000 in
def p46x_177 : ck_Sum := ((0, 0, 0), 245, [.inr (.inr (.inl 1)), .inl (ck_one 12)], ([], [], [(3, 4, 4, ck_one 3)]), ([], []), [(.inr (some (.inl (ck_one 3))), 245, ([], [], []))])
set_option maxRecDepth 100000 in
theorem p46x_177_e : ck_ok p1_O none [] [] 63 [] 82 p46x_177 = true := by decide +kernel
theorem p46x_177_s {X : Int → Int} {LX : Nat} : ck_Ok p1_O X LX 63 p46x_177 := ck_ok_s (ck_E0) ck_X0 ck_l0 p46x_177_e
set_option maxRecDepth 100000 in
def p46x_180 : ck_Sum := ((0, 0, 0), 245, [.inr (.inr (.inl 1)), .inl (ck_one 13)], ([], [], [(3, 5, 5, ck_one 1)]), ([], []), [(.inr (some (.inl (ck_one 1))), 245, ([], [], []))])
set_option maxRecDepth 100000 in
theorem p46x_180_e : ck_ok p1_O none [] [] 63 [] 82 p46x_180 = true := by decide +kernel
theorem p46x_180_s {X : Int → Int} {LX : Nat} : ck_Ok p1_O X LX 63 p46x_180 := ck_ok_s (ck_E0) ck_X0 ck_l0 p46x_180_e
set_option maxRecDepth 100000 in
def p46x_183 : ck_Sum := ((0, 0, 0), 245, [.inr (.inr (.inl 14))], ([], [], [(14, 3, 3, ck_one 0)]), ([], []), [(.inr (some (.inl (ck_one 0))), 245, ([], [], []))])
set_option maxRecDepth 100000 in
theorem p46x_183_e : ck_ok p1_O none [] [] 9 [] 76 p46x_183 = true := by decide +kernel
theorem p46x_183_s {X : Int → Int} {LX : Nat} : ck_Ok p1_O X LX 9 p46x_183 := ck_ok_s (ck_E0) ck_X0 ck_l0 p46x_183_e
set_option maxRecDepth 100000 in
def p46x_184 : ck_Sum := ((1, 0, 0), 245, [.inr (.inr (.inl 1)), .inl (ck_one 14)], ([], [], [(14, 3, 3, ck_one 0)]), ([], []), [(.inr (some (.inl (ck_one 0))), 245, ([], [], []))])
set_option maxRecDepth 100000 in
theorem p46x_184_e : ck_ok p1_O none [] [(9, [p46x_183])] 63 [] 84 p46x_184 = true := by decide +kernel
theorem p46x_184_s {X : Int → Int} {LX : Nat} : ck_Ok p1_O X LX 63 p46x_184 := ck_ok_s (ck_E1 (ck_S1 p46x_183_s ck_S0) ck_E0) ck_X0 ck_l0 p46x_184_e
set_option maxRecDepth 100000 in
def p46x_188 : ck_Sum := ((0, 0, 0), 245, [.inr (.inr (.inl 220))], ([], [], [(220, 3, 3, ck_one 0)]), ([], []), [(.inr (some (.inl (ck_one 0))), 245, ([], [], []))])
set_option maxRecDepth 100000 in
theorem p46x_188_e : ck_ok p1_O none [] [] 9 [] 76 p46x_188 = true := by decide +kernel
theorem p46x_188_s {X : Int → Int} {LX : Nat} : ck_Ok p1_O X LX 9 p46x_188 := ck_ok_s (ck_E0) ck_X0 ck_l0 p46x_188_e
set_option maxRecDepth 100000 in
def p46x_186 : ck_Sum := ((0, 0, 0), 245, [.inr (.inr (.inl 221)), .inl (ck_one 0)], ([], [], []), ([(221, 0, 47)], []), [(.inr none, 245, ([], [], []))])
set_option maxRecDepth 100000 in
theorem p46x_186_e : ck_ok p1_O none [] [] 8 [(5, [some (.inr (.inr (.inl 221))), some (.inl (ck_one 0)), some (.inl (0, 48, none)), some (.inl (ck_one 48))], ([], [], []), 100, .inl 2, true)] 130 p46x_186 = true := by decide +kernel
theorem p46x_186_s {X : Int → Int} {LX : Nat} : ck_Ok p1_O X LX 8 p46x_186 := ck_ok_s (ck_E0) ck_X0 ck_l0 p46x_186_e
set_option maxRecDepth 100000 in
def p46x_187 : ck_Sum := ((1, 0, 0), 245, [.inr (.inr (.inl 220)), .inl (ck_one 0)], ([], [], [(220, 0, 0, ck_one 24)]), ([(220, 3, 3), (221, 0, 47)], []), [(.inr none, 245, ([], [], [(220, 3, 3, ck_one 0)]))])
set_option maxRecDepth 100000 in
theorem p46x_187_e : ck_ok p1_O none [] [(8, [p46x_186])] 25 [] 96 p46x_187 = true := by decide +kernel
theorem p46x_187_s {X : Int → Int} {LX : Nat} : ck_Ok p1_O X LX 25 p46x_187 := ck_ok_s (ck_E1 (ck_S1 p46x_186_s ck_S0) ck_E0) ck_X0 ck_l0 p46x_187_e
set_option maxRecDepth 100000 in
def p46x_189 : ck_Sum := ((2, 0, 0), 245, [.inr (.inr (.inl 1))], ([], [], [(1, 15, 15, ck_one 0), (220, 0, 0, ck_one 24), (220, 3, 3, ck_one 0), (10, 3, 3, ck_one 0)]), ([(1, 15, 15), (220, 3, 3), (221, 0, 47)], []), [(.inr none, 245, ([], [], [(1, 15, 15, ck_one 1), (220, 3, 3, ck_one 0)]))])
set_option maxRecDepth 100000 in
theorem p46x_189_e : ck_ok p1_O none [] [(9, [p46x_150, p46x_188]), (25, [p46x_187])] 24 [(27, [some (.inr (.inr (.inl 1))), some (.inl (ck_one 0))], ([], [], [(220, 3, 3, ck_one 0), (1, 15, 15, ck_one 0), (220, 0, 0, ck_one 24), (10, 3, 3, ck_one 0)]), 100, .inl 1, true)] 142 p46x_189 = true := by decide +kernel
theorem p46x_189_s {X : Int → Int} {LX : Nat} : ck_Ok p1_O X LX 24 p46x_189 := ck_ok_s (ck_E1 (ck_S1 p46x_150_s (ck_S1 p46x_188_s ck_S0)) (ck_E1 (ck_S1 p46x_187_s ck_S0) ck_E0)) ck_X0 ck_l0 p46x_189_e
set_option maxRecDepth 100000 in
def p46x_190 : ck_Sum := ((3, 0, 0), 245, [.inr (.inr (.inl 1)), .inl (ck_one (-1))], ([], [], [(1, 15, 15, ck_one 0), (220, 0, 0, ck_one 24), (220, 3, 3, ck_one 0), (10, 3, 3, ck_one 0)]), ([(1, 15, 15), (220, 3, 3), (221, 0, 47)], []), [(.inr (some (.inl (ck_one 0))), 245, ([], [], [(1, 15, 15, ck_one 1), (220, 3, 3, ck_one 0)]))])
set_option maxRecDepth 100000 in
theorem p46x_190_e : ck_ok p1_O none [] [(24, [p46x_189]), (9, [p46x_150])] 65 [(8, [some (.inr (.inr (.inl 1))), some (.inl (ck_one (-1))), some (.inl (ck_one 0)), some (.inl (ck_one 0)), none], ([], [], [(1, 15, 15, ck_one 1), (220, 3, 3, ck_one 0), (220, 0, 0, ck_one 24), (10, 3, 3, ck_one 0)]), 100, .inl 2, true)] 122 p46x_190 = true := by decide +kernel
theorem p46x_190_s {X : Int → Int} {LX : Nat} : ck_Ok p1_O X LX 65 p46x_190 := ck_ok_s (ck_E1 (ck_S1 p46x_189_s ck_S0) (ck_E1 (ck_S1 p46x_150_s ck_S0) ck_E0)) ck_X0 ck_l0 p46x_190_e
set_option maxRecDepth 100000 in
def p46x_191 : ck_Sum := ((4, 0, 0), 245, [.inr (.inr (.inl 1)), .inl (ck_one 15)], ([], [], [(1, 15, 15, ck_one 0), (220, 0, 0, ck_one 24), (220, 3, 3, ck_one 0), (10, 3, 3, ck_one 0)]), ([(1, 15, 15), (220, 3, 3), (221, 0, 47)], []), [(.inr (some (.inl (ck_one 0))), 245, ([], [], [(1, 15, 15, ck_one 1), (220, 3, 3, ck_one 0)]))])
set_option maxRecDepth 100000 in
theorem p46x_191_e : ck_ok p1_O none [] [(65, [p46x_190])] 63 [] 82 p46x_191 = true := by decide +kernel
theorem p46x_191_s {X : Int → Int} {LX : Nat} : ck_Ok p1_O X LX 63 p46x_191 := ck_ok_s (ck_E1 (ck_S1 p46x_190_s ck_S0) ck_E0) ck_X0 ck_l0 p46x_191_e
set_option maxRecDepth 100000 in
def p46x_194 : ck_Sum := ((3, 0, 0), 245, [.inr (.inr (.inl 1))], ([], [], [(1, 15, 15, ck_one 0), (220, 0, 0, ck_one 24), (220, 3, 3, ck_one 0), (10, 3, 3, ck_one 0)]), ([(1, 15, 15), (220, 3, 3), (221, 0, 47)], []), [(.inr (some (.inl (ck_one 0))), 245, ([], [], [(1, 15, 15, ck_one 1), (220, 3, 3, ck_one 0)]))])
set_option maxRecDepth 100000 in
theorem p46x_194_e : ck_ok p1_O none [] [(24, [p46x_189]), (9, [p46x_150])] 68 [(8, [some (.inr (.inr (.inl 1))), some (.inl (ck_one 0)), some (.inl (ck_one 0))], ([], [], [(1, 15, 15, ck_one 1), (220, 3, 3, ck_one 0), (220, 0, 0, ck_one 24), (10, 3, 3, ck_one 0)]), 100, .inl 1, true)] 122 p46x_194 = true := by decide +kernel
theorem p46x_194_s {X : Int → Int} {LX : Nat} : ck_Ok p1_O X LX 68 p46x_194 := ck_ok_s (ck_E1 (ck_S1 p46x_189_s ck_S0) (ck_E1 (ck_S1 p46x_150_s ck_S0) ck_E0)) ck_X0 ck_l0 p46x_194_e
set_option maxRecDepth 100000 in
def p46x_195 : ck_Sum := ((4, 0, 0), 245, [.inr (.inr (.inl 1)), .inl (ck_one 16)], ([], [], [(1, 15, 15, ck_one 0), (220, 0, 0, ck_one 24), (220, 3, 3, ck_one 0), (10, 3, 3, ck_one 0)]), ([(1, 15, 15), (220, 3, 3), (221, 0, 47)], []), [(.inr (some (.inl (ck_one 0))), 245, ([], [], [(1, 15, 15, ck_one 1), (220, 3, 3, ck_one 0)]))])
set_option maxRecDepth 100000 in
theorem p46x_195_e : ck_ok p1_O none [] [(68, [p46x_194])] 63 [] 80 p46x_195 = true := by decide +kernel
theorem p46x_195_s {X : Int → Int} {LX : Nat} : ck_Ok p1_O X LX 63 p46x_195 := ck_ok_s (ck_E1 (ck_S1 p46x_194_s ck_S0) ck_E0) ck_X0 ck_l0 p46x_195_e
set_option maxRecDepth 100000 in
def p46x_197 : ck_Sum := ((0, 0, 0), 245, [.inr (.inr (.inl 42))], ([], [], [(42, 2, 2, ck_one 0)]), ([], []), [(.inr (some (.inl (ck_one 0))), 245, ([], [], []))])
set_option maxRecDepth 100000 in
theorem p46x_197_e : ck_ok p1_O none [] [] 69 [] 76 p46x_197 = true := by decide +kernel
theorem p46x_197_s {X : Int → Int} {LX : Nat} : ck_Ok p1_O X LX 69 p46x_197 := ck_ok_s (ck_E0) ck_X0 ck_l0 p46x_197_e
set_option maxRecDepth 100000 in
def p46x_198 : ck_Sum := ((1, 0, 0), 245, [.inr (.inr (.inl 1)), .inl (ck_one 17)], ([], [], [(42, 2, 2, ck_one 0)]), ([], []), [(.inr (some (.inl (ck_one 0))), 245, ([], [], []))])
set_option maxRecDepth 100000 in
theorem p46x_198_e : ck_ok p1_O none [] [(69, [p46x_197])] 63 [] 82 p46x_198 = true := by decide +kernel
theorem p46x_198_s {X : Int → Int} {LX : Nat} : ck_Ok p1_O X LX 63 p46x_198 := ck_ok_s (ck_E1 (ck_S1 p46x_197_s ck_S0) ck_E0) ck_X0 ck_l0 p46x_198_e
set_option maxRecDepth 100000 in
def p46x_200 : ck_Sum := ((0, 0, 0), 245, [.inr (.inr (.inl 1)), .inl (18, 2147483647, none)], ([], [], []), ([], []), [(.inr (some (.inl (ck_one (-1)))), 245, ([], [], []))])
set_option maxRecDepth 100000 in
theorem p46x_200_e : ck_ok p1_O none [] [] 63 [] 78 p46x_200 = true := by decide +kernel
theorem p46x_200_s {X : Int → Int} {LX : Nat} : ck_Ok p1_O X LX 63 p46x_200 := ck_ok_s (ck_E0) ck_X0 ck_l0 p46x_200_e
set_option maxRecDepth 100000 in
def p46x_134 : ck_Sum := ((0, 0, 0), 245, [.inl ((-2147483648), (-1), none), .inl (ck_one 0), .inl (ck_one 13)], ([], [], []), ([], []), [(.inr (some (.inl (ck_one 0))), 245, ([], [], []))])
set_option maxRecDepth 100000 in
theorem p46x_134_e : ck_ok p1_O none [] [] 287 [] 80 p46x_134 = true := by decide +kernel
theorem p46x_134_s {X : Int → Int} {LX : Nat} : ck_Ok p1_O X LX 287 p46x_134 := ck_ok_s (ck_E0) ck_X0 ck_l0 p46x_134_e
set_option maxRecDepth 100000 in
def p46x_135 : ck_Sum := ((1, 0, 0), 245, [.inr (.inr (.inl 226)), .inl ((-2147483648), (-1), none)], ([], [], []), ([(226, 0, 0)], []), [(.inr (some (.inl (ck_one (-1)))), 245, ([], [], [(226, 0, 0, ck_one 0)]))])
set_option maxRecDepth 100000 in
theorem p46x_135_e : ck_ok p1_O none [] [(287, [p46x_134])] 369 [] 98 p46x_135 = true := by decide +kernel
theorem p46x_135_s {X : Int → Int} {LX : Nat} : ck_Ok p1_O X LX 369 p46x_135 := ck_ok_s (ck_E1 (ck_S1 p46x_134_s ck_S0) ck_E0) ck_X0 ck_l0 p46x_135_e
set_option maxRecDepth 100000 in
def p46x_137 : ck_Sum := ((0, 0, 0), 245, [.inl (ck_one 0), .inl (ck_one 0), .inl (ck_one 13)], ([], [], []), ([], []), [(.inr (some (.inl (ck_one 1))), 245, ([], [], []))])
set_option maxRecDepth 100000 in
theorem p46x_137_e : ck_ok p1_O none [] [] 287 [] 88 p46x_137 = true := by decide +kernel
theorem p46x_137_s {X : Int → Int} {LX : Nat} : ck_Ok p1_O X LX 287 p46x_137 := ck_ok_s (ck_E0) ck_X0 ck_l0 p46x_137_e
set_option maxRecDepth 100000 in
def p46x_138 : ck_Sum := ((1, 0, 0), 245, [.inr (.inr (.inl 226)), .inl (ck_one 0)], ([], [], [(227, 0, 0, ck_one 3)]), ([(226, 0, 0)], []), [(.inr (some (.inl (ck_one 3))), 245, ([], [], [(226, 0, 0, ck_one 0)]))])
set_option maxRecDepth 100000 in
theorem p46x_138_e : ck_ok p1_O none [] [(287, [p46x_137])] 369 [] 106 p46x_138 = true := by decide +kernel
theorem p46x_138_s {X : Int → Int} {LX : Nat} : ck_Ok p1_O X LX 369 p46x_138 := ck_ok_s (ck_E1 (ck_S1 p46x_137_s ck_S0) ck_E0) ck_X0 ck_l0 p46x_138_e
set_option maxRecDepth 100000 in
def p46x_140 : ck_Sum := ((0, 0, 0), 245, [.inl (ck_one 1), .inl (ck_one 0), .inl (ck_one 13)], ([], [], []), ([], []), [(.inr (some (.inl (ck_one 1))), 245, ([], [], []))])
set_option maxRecDepth 100000 in
theorem p46x_140_e : ck_ok p1_O none [] [] 287 [] 88 p46x_140 = true := by decide +kernel
theorem p46x_140_s {X : Int → Int} {LX : Nat} : ck_Ok p1_O X LX 287 p46x_140 := ck_ok_s (ck_E0) ck_X0 ck_l0 p46x_140_e
set_option maxRecDepth 100000 in
def p46x_141 : ck_Sum := ((1, 0, 0), 245, [.inr (.inr (.inl 226)), .inl (ck_one 1)], ([], [], [(227, 1, 1, ck_one 40)]), ([(226, 0, 0)], []), [(.inr (some (.inl (ck_one 40))), 245, ([], [], [(226, 0, 0, ck_one 0)]))])
set_option maxRecDepth 100000 in
theorem p46x_141_e : ck_ok p1_O none [] [(287, [p46x_140])] 369 [] 106 p46x_141 = true := by decide +kernel
theorem p46x_141_s {X : Int → Int} {LX : Nat} : ck_Ok p1_O X LX 369 p46x_141 := ck_ok_s (ck_E1 (ck_S1 p46x_140_s ck_S0) ck_E0) ck_X0 ck_l0 p46x_141_e
set_option maxRecDepth 100000 in
def p46x_144 : ck_Sum := ((0, 0, 0), 245, [.inl (ck_one 2), .inl (ck_one 0), .inl (ck_one 13)], ([], [], []), ([], []), [(.inr (some (.inl (ck_one 1))), 245, ([], [], []))])
set_option maxRecDepth 100000 in
theorem p46x_144_e : ck_ok p1_O none [] [] 287 [] 88 p46x_144 = true := by decide +kernel
theorem p46x_144_s {X : Int → Int} {LX : Nat} : ck_Ok p1_O X LX 287 p46x_144 := ck_ok_s (ck_E0) ck_X0 ck_l0 p46x_144_e
set_option maxRecDepth 100000 in
def p46x_145 : ck_Sum := ((1, 0, 0), 245, [.inr (.inr (.inl 226)), .inl (ck_one 2)], ([], [], [(227, 2, 9, ck_one 0)]), ([(226, 0, 0)], []), [(.inr (some (.inl (ck_one 0))), 245, ([], [], [(226, 0, 0, ck_one 0)]))])
set_option maxRecDepth 100000 in
theorem p46x_145_e : ck_ok p1_O none [] [(287, [p46x_144])] 369 [] 106 p46x_145 = true := by decide +kernel
theorem p46x_145_s {X : Int → Int} {LX : Nat} : ck_Ok p1_O X LX 369 p46x_145 := ck_ok_s (ck_E1 (ck_S1 p46x_144_s ck_S0) ck_E0) ck_X0 ck_l0 p46x_145_e
set_option maxRecDepth 100000 in
def p46x_148 : ck_Sum := ((0, 0, 0), 245, [.inl (ck_one 3), .inl (ck_one 0), .inl (ck_one 13)], ([], [], []), ([], []), [(.inr (some (.inl (ck_one 1))), 245, ([], [], []))])
set_option maxRecDepth 100000 in
theorem p46x_148_e : ck_ok p1_O none [] [] 287 [] 88 p46x_148 = true := by decide +kernel
theorem p46x_148_s {X : Int → Int} {LX : Nat} : ck_Ok p1_O X LX 287 p46x_148 := ck_ok_s (ck_E0) ck_X0 ck_l0 p46x_148_e
set_option maxRecDepth 100000 in
def p46x_149 : ck_Sum := ((1, 0, 0), 245, [.inr (.inr (.inl 226)), .inl (ck_one 3)], ([], [], [(227, 2, 9, ck_one 0)]), ([(226, 0, 0)], []), [(.inr (some (.inl (ck_one 0))), 245, ([], [], [(226, 0, 0, ck_one 0)]))])
set_option maxRecDepth 100000 in
theorem p46x_149_e : ck_ok p1_O none [] [(287, [p46x_148])] 369 [] 106 p46x_149 = true := by decide +kernel
theorem p46x_149_s {X : Int → Int} {LX : Nat} : ck_Ok p1_O X LX 369 p46x_149 := ck_ok_s (ck_E1 (ck_S1 p46x_148_s ck_S0) ck_E0) ck_X0 ck_l0 p46x_149_e
set_option maxRecDepth 100000 in
def p46x_152 : ck_Sum := ((0, 0, 0), 245, [.inl (ck_one 4), .inl (ck_one 0), .inl (ck_one 13)], ([], [], []), ([], []), [(.inr (some (.inl (ck_one 1))), 245, ([], [], []))])
set_option maxRecDepth 100000 in
theorem p46x_152_e : ck_ok p1_O none [] [] 287 [] 88 p46x_152 = true := by decide +kernel
theorem p46x_152_s {X : Int → Int} {LX : Nat} : ck_Ok p1_O X LX 287 p46x_152 := ck_ok_s (ck_E0) ck_X0 ck_l0 p46x_152_e
set_option maxRecDepth 100000 in
def p46x_153 : ck_Sum := ((1, 0, 0), 245, [.inr (.inr (.inl 226)), .inl (ck_one 4)], ([], [], [(227, 2, 9, ck_one 0)]), ([(226, 0, 0)], []), [(.inr (some (.inl (ck_one 0))), 245, ([], [], [(226, 0, 0, ck_one 0)]))])
set_option maxRecDepth 100000 in
theorem p46x_153_e : ck_ok p1_O none [] [(287, [p46x_152])] 369 [] 106 p46x_153 = true := by decide +kernel
theorem p46x_153_s {X : Int → Int} {LX : Nat} : ck_Ok p1_O X LX 369 p46x_153 := ck_ok_s (ck_E1 (ck_S1 p46x_152_s ck_S0) ck_E0) ck_X0 ck_l0 p46x_153_e
set_option maxRecDepth 100000 in
def p46x_156 : ck_Sum := ((0, 0, 0), 245, [.inl (ck_one 5), .inl (ck_one 0), .inl (ck_one 13)], ([], [], []), ([], []), [(.inr (some (.inl (ck_one 1))), 245, ([], [], []))])
set_option maxRecDepth 100000 in
theorem p46x_156_e : ck_ok p1_O none [] [] 287 [] 88 p46x_156 = true := by decide +kernel
theorem p46x_156_s {X : Int → Int} {LX : Nat} : ck_Ok p1_O X LX 287 p46x_156 := ck_ok_s (ck_E0) ck_X0 ck_l0 p46x_156_e
set_option maxRecDepth 100000 in
def p46x_157 : ck_Sum := ((1, 0, 0), 245, [.inr (.inr (.inl 226)), .inl (ck_one 5)], ([], [], [(227, 2, 9, ck_one 0)]), ([(226, 0, 0)], []), [(.inr (some (.inl (ck_one 0))), 245, ([], [], [(226, 0, 0, ck_one 0)]))])
set_option maxRecDepth 100000 in
theorem p46x_157_e : ck_ok p1_O none [] [(287, [p46x_156])] 369 [] 106 p46x_157 = true := by decide +kernel
theorem p46x_157_s {X : Int → Int} {LX : Nat} : ck_Ok p1_O X LX 369 p46x_157 := ck_ok_s (ck_E1 (ck_S1 p46x_156_s ck_S0) ck_E0) ck_X0 ck_l0 p46x_157_e
set_option maxRecDepth 100000 in
def p46x_160 : ck_Sum := ((0, 0, 0), 245, [.inl (ck_one 6), .inl (ck_one 0), .inl (ck_one 13)], ([], [], []), ([], []), [(.inr (some (.inl (ck_one 1))), 245, ([], [], []))])
set_option maxRecDepth 100000 in
theorem p46x_160_e : ck_ok p1_O none [] [] 287 [] 88 p46x_160 = true := by decide +kernel
theorem p46x_160_s {X : Int → Int} {LX : Nat} : ck_Ok p1_O X LX 287 p46x_160 := ck_ok_s (ck_E0) ck_X0 ck_l0 p46x_160_e
set_option maxRecDepth 100000 in
def p46x_161 : ck_Sum := ((1, 0, 0), 245, [.inr (.inr (.inl 226)), .inl (ck_one 6)], ([], [], [(227, 2, 9, ck_one 0)]), ([(226, 0, 0)], []), [(.inr (some (.inl (ck_one 0))), 245, ([], [], [(226, 0, 0, ck_one 0)]))])
set_option maxRecDepth 100000 in
theorem p46x_161_e : ck_ok p1_O none [] [(287, [p46x_160])] 369 [] 106 p46x_161 = true := by decide +kernel
theorem p46x_161_s {X : Int → Int} {LX : Nat} : ck_Ok p1_O X LX 369 p46x_161 := ck_ok_s (ck_E1 (ck_S1 p46x_160_s ck_S0) ck_E0) ck_X0 ck_l0 p46x_161_e
set_option maxRecDepth 100000 in
def p46x_163 : ck_Sum := ((0, 0, 0), 245, [.inl (ck_one 7), .inl (ck_one 0), .inl (ck_one 13)], ([], [], []), ([], []), [(.inr (some (.inl (ck_one 1))), 245, ([], [], []))])
set_option maxRecDepth 100000 in
theorem p46x_163_e : ck_ok p1_O none [] [] 287 [] 88 p46x_163 = true := by decide +kernel
theorem p46x_163_s {X : Int → Int} {LX : Nat} : ck_Ok p1_O X LX 287 p46x_163 := ck_ok_s (ck_E0) ck_X0 ck_l0 p46x_163_e
set_option maxRecDepth 100000 in
def p46x_164 : ck_Sum := ((1, 0, 0), 245, [.inr (.inr (.inl 226)), .inl (ck_one 7)], ([], [], [(227, 2, 9, ck_one 0)]), ([(226, 0, 0)], []), [(.inr (some (.inl (ck_one 0))), 245, ([], [], [(226, 0, 0, ck_one 0)]))])
set_option maxRecDepth 100000 in
theorem p46x_164_e : ck_ok p1_O none [] [(287, [p46x_163])] 369 [] 106 p46x_164 = true := by decide +kernel
theorem p46x_164_s {X : Int → Int} {LX : Nat} : ck_Ok p1_O X LX 369 p46x_164 := ck_ok_s (ck_E1 (ck_S1 p46x_163_s ck_S0) ck_E0) ck_X0 ck_l0 p46x_164_e
set_option maxRecDepth 100000 in
def p46x_167 : ck_Sum := ((0, 0, 0), 245, [.inr (.inr (.inl 226)), .inl (ck_one 8)], ([], [], [(227, 2, 9, ck_one 0)]), ([(226, 0, 0)], []), [(.inr (some (.inl (ck_one (-1)))), 245, ([], [], [(226, 0, 0, ck_one 0)]))])
set_option maxRecDepth 100000 in
theorem p46x_167_e : ck_ok p1_O none [] [] 369 [] 100 p46x_167 = true := by decide +kernel
theorem p46x_167_s {X : Int → Int} {LX : Nat} : ck_Ok p1_O X LX 369 p46x_167 := ck_ok_s (ck_E0) ck_X0 ck_l0 p46x_167_e
set_option maxRecDepth 100000 in
def p46x_169 : ck_Sum := ((0, 0, 0), 245, [.inl (ck_one 9), .inl (ck_one 0), .inl (ck_one 13)], ([], [], []), ([], []), [(.inr (some (.inl (ck_one 1))), 245, ([], [], []))])
set_option maxRecDepth 100000 in
theorem p46x_169_e : ck_ok p1_O none [] [] 287 [] 88 p46x_169 = true := by decide +kernel
theorem p46x_169_s {X : Int → Int} {LX : Nat} : ck_Ok p1_O X LX 287 p46x_169 := ck_ok_s (ck_E0) ck_X0 ck_l0 p46x_169_e
set_option maxRecDepth 100000 in
def p46x_170 : ck_Sum := ((1, 0, 0), 245, [.inr (.inr (.inl 226)), .inl (ck_one 9)], ([], [], [(227, 2, 9, ck_one 0)]), ([(226, 0, 0)], []), [(.inr (some (.inl (ck_one 0))), 245, ([], [], [(226, 0, 0, ck_one 0)]))])
set_option maxRecDepth 100000 in
theorem p46x_170_e : ck_ok p1_O none [] [(287, [p46x_169])] 369 [] 106 p46x_170 = true := by decide +kernel
theorem p46x_170_s {X : Int → Int} {LX : Nat} : ck_Ok p1_O X LX 369 p46x_170 := ck_ok_s (ck_E1 (ck_S1 p46x_169_s ck_S0) ck_E0) ck_X0 ck_l0 p46x_170_e
set_option maxRecDepth 100000 in
def p46x_172 : ck_Sum := ((0, 0, 0), 245, [.inl (ck_one 10), .inl (ck_one 0), .inl (ck_one 13)], ([], [], []), ([], []), [(.inr (some (.inl (ck_one 1))), 245, ([], [], []))])
set_option maxRecDepth 100000 in
theorem p46x_172_e : ck_ok p1_O none [] [] 287 [] 88 p46x_172 = true := by decide +kernel
theorem p46x_172_s {X : Int → Int} {LX : Nat} : ck_Ok p1_O X LX 287 p46x_172 := ck_ok_s (ck_E0) ck_X0 ck_l0 p46x_172_e
set_option maxRecDepth 100000 in
def p46x_173 : ck_Sum := ((1, 0, 0), 245, [.inr (.inr (.inl 226)), .inl (ck_one 10)], ([], [], [(227, 10, 10, ck_one 10)]), ([(226, 0, 0)], []), [(.inr (some (.inl (ck_one 10))), 245, ([], [], [(226, 0, 0, ck_one 0)]))])
set_option maxRecDepth 100000 in
theorem p46x_173_e : ck_ok p1_O none [] [(287, [p46x_172])] 369 [] 106 p46x_173 = true := by decide +kernel
theorem p46x_173_s {X : Int → Int} {LX : Nat} : ck_Ok p1_O X LX 369 p46x_173 := ck_ok_s (ck_E1 (ck_S1 p46x_172_s ck_S0) ck_E0) ck_X0 ck_l0 p46x_173_e
set_option maxRecDepth 100000 in
def p46x_175 : ck_Sum := ((0, 0, 0), 245, [.inl (ck_one 11), .inl (ck_one 0), .inl (ck_one 13)], ([], [], []), ([], []), [(.inr (some (.inl (ck_one 1))), 245, ([], [], []))])
set_option maxRecDepth 100000 in
theorem p46x_175_e : ck_ok p1_O none [] [] 287 [] 88 p46x_175 = true := by decide +kernel
theorem p46x_175_s {X : Int → Int} {LX : Nat} : ck_Ok p1_O X LX 287 p46x_175 := ck_ok_s (ck_E0) ck_X0 ck_l0 p46x_175_e
set_option maxRecDepth 100000 in
def p46x_176 : ck_Sum := ((1, 0, 0), 245, [.inr (.inr (.inl 226)), .inl (ck_one 11)], ([], [], [(227, 11, 11, ck_one 2)]), ([(226, 0, 0)], []), [(.inr (some (.inl (ck_one 2))), 245, ([], [], [(226, 0, 0, ck_one 0)]))])
set_option maxRecDepth 100000 in
theorem p46x_176_e : ck_ok p1_O none [] [(287, [p46x_175])] 369 [] 106 p46x_176 = true := by decide +kernel
theorem p46x_176_s {X : Int → Int} {LX : Nat} : ck_Ok p1_O X LX 369 p46x_176 := ck_ok_s (ck_E1 (ck_S1 p46x_175_s ck_S0) ck_E0) ck_X0 ck_l0 p46x_176_e
set_option maxRecDepth 100000 in
def p46x_178 : ck_Sum := ((0, 0, 0), 245, [.inl (ck_one 12), .inl (ck_one 0), .inl (ck_one 13)], ([], [], []), ([], []), [(.inr (some (.inl (ck_one 1))), 245, ([], [], []))])
set_option maxRecDepth 100000 in
theorem p46x_178_e : ck_ok p1_O none [] [] 287 [] 88 p46x_178 = true := by decide +kernel
theorem p46x_178_s {X : Int → Int} {LX : Nat} : ck_Ok p1_O X LX 287 p46x_178 := ck_ok_s (ck_E0) ck_X0 ck_l0 p46x_178_e
set_option maxRecDepth 100000 in
def p46x_179 : ck_Sum := ((1, 0, 0), 245, [.inr (.inr (.inl 226)), .inl (ck_one 12)], ([], [], [(227, 12, 12, ck_one 3)]), ([(226, 0, 0)], []), [(.inr (some (.inl (ck_one 3))), 245, ([], [], [(226, 0, 0, ck_one 0)]))])
set_option maxRecDepth 100000 in
theorem p46x_179_e : ck_ok p1_O none [] [(287, [p46x_178])] 369 [] 106 p46x_179 = true := by decide +kernel
theorem p46x_179_s {X : Int → Int} {LX : Nat} : ck_Ok p1_O X LX 369 p46x_179 := ck_ok_s (ck_E1 (ck_S1 p46x_178_s ck_S0) ck_E0) ck_X0 ck_l0 p46x_179_e
set_option maxRecDepth 100000 in
def p46x_181 : ck_Sum := ((0, 0, 0), 245, [.inl (ck_one 13), .inl (ck_one 0), .inl (ck_one 13)], ([], [], []), ([], []), [(.inr (some (.inl (ck_one 1))), 245, ([], [], []))])
set_option maxRecDepth 100000 in
theorem p46x_181_e : ck_ok p1_O none [] [] 287 [] 88 p46x_181 = true := by decide +kernel
theorem p46x_181_s {X : Int → Int} {LX : Nat} : ck_Ok p1_O X LX 287 p46x_181 := ck_ok_s (ck_E0) ck_X0 ck_l0 p46x_181_e
set_option maxRecDepth 100000 in
def p46x_182 : ck_Sum := ((1, 0, 0), 245, [.inr (.inr (.inl 226)), .inl (ck_one 13)], ([], [], [(227, 13, 13, ck_one 1)]), ([(226, 0, 0)], []), [(.inr (some (.inl (ck_one 1))), 245, ([], [], [(226, 0, 0, ck_one 0)]))])
set_option maxRecDepth 100000 in
theorem p46x_182_e : ck_ok p1_O none [] [(287, [p46x_181])] 369 [] 106 p46x_182 = true := by decide +kernel
theorem p46x_182_s {X : Int → Int} {LX : Nat} : ck_Ok p1_O X LX 369 p46x_182 := ck_ok_s (ck_E1 (ck_S1 p46x_181_s ck_S0) ck_E0) ck_X0 ck_l0 p46x_182_e
set_option maxRecDepth 100000 in
def p46x_185 : ck_Sum := ((0, 0, 0), 245, [.inr (.inr (.inl 226)), .inl (ck_one 14)], ([], [], [(227, 14, 2092, ck_one 0)]), ([(226, 0, 0)], []), [(.inr (some (.inl (ck_one 0))), 245, ([], [], [(226, 0, 0, ck_one 0)]))])
set_option maxRecDepth 100000 in
theorem p46x_185_e : ck_ok p1_O none [] [] 369 [] 94 p46x_185 = true := by decide +kernel
theorem p46x_185_s {X : Int → Int} {LX : Nat} : ck_Ok p1_O X LX 369 p46x_185 := ck_ok_s (ck_E0) ck_X0 ck_l0 p46x_185_e
set_option maxRecDepth 100000 in
def p46x_192 : ck_Sum := ((0, 0, 0), 245, [.inr (.inr (.inl 226))], ([], [], [(227, 2, 9, ck_one 0)]), ([], []), [(.inr (some (.inl (ck_one 0))), 245, ([], [], []))])
set_option maxRecDepth 100000 in
theorem p46x_192_e : ck_ok p1_O none [] [] 255 [] 80 p46x_192 = true := by decide +kernel
theorem p46x_192_s {X : Int → Int} {LX : Nat} : ck_Ok p1_O X LX 255 p46x_192 := ck_ok_s (ck_E0) ck_X0 ck_l0 p46x_192_e
set_option maxRecDepth 100000 in
def p46x_193 : ck_Sum := ((1, 0, 0), 245, [.inr (.inr (.inl 226)), .inl (ck_one 15)], ([], [], [(227, 2, 9, ck_one 0), (226, 0, 0, ck_one 0)]), ([(226, 0, 0)], []), [(.inr (some (.inl (ck_one 0))), 245, ([], [], [(226, 0, 0, ck_one 0)]))])
set_option maxRecDepth 100000 in
theorem p46x_193_e : ck_ok p1_O none [] [(255, [p46x_192])] 369 [(98, [some (.inr (.inr (.inl 226))), some (.inl (ck_one 15)), some (.inl (ck_one 0)), some (.inl (ck_one 0)), none], ([], [], [(226, 0, 0, ck_one 0), (227, 2, 9, ck_one 0)]), 100, .inl 2, true)] 130 p46x_193 = true := by decide +kernel
theorem p46x_193_s {X : Int → Int} {LX : Nat} : ck_Ok p1_O X LX 369 p46x_193 := ck_ok_s (ck_E1 (ck_S1 p46x_192_s ck_S0) ck_E0) ck_X0 ck_l0 p46x_193_e
set_option maxRecDepth 100000 in
def p46x_196 : ck_Sum := ((1, 0, 0), 245, [.inr (.inr (.inl 226)), .inl (ck_one 16)], ([], [], [(227, 2, 9, ck_one 0), (226, 0, 0, ck_one 0)]), ([(226, 0, 0)], []), [(.inr (some (.inl (ck_one 0))), 245, ([], [], [(226, 0, 0, ck_one 0)]))])
set_option maxRecDepth 100000 in
theorem p46x_196_e : ck_ok p1_O none [] [(255, [p46x_192])] 369 [(132, [some (.inr (.inr (.inl 226))), some (.inl (ck_one 16)), some (.inl (ck_one 0)), some (.inl (ck_one 0)), none], ([], [], [(226, 0, 0, ck_one 0), (227, 2, 9, ck_one 0)]), 300, .inl 2, true)] 130 p46x_196 = true := by decide +kernel
theorem p46x_196_s {X : Int → Int} {LX : Nat} : ck_Ok p1_O X LX 369 p46x_196 := ck_ok_s (ck_E1 (ck_S1 p46x_192_s ck_S0) ck_E0) ck_X0 ck_l0 p46x_196_e
set_option maxRecDepth 100000 in
def p46x_199 : ck_Sum := ((0, 0, 0), 245, [.inr (.inr (.inl 226)), .inl (ck_one 17)], ([], [], [(226, 6, 6, ck_one 0)]), ([(226, 0, 0)], []), [(.inr (some (.inl (ck_one 0))), 245, ([], [], [(226, 0, 0, ck_one 0)]))])
set_option maxRecDepth 100000 in
theorem p46x_199_e : ck_ok p1_O none [] [] 369 [] 90 p46x_199 = true := by decide +kernel
theorem p46x_199_s {X : Int → Int} {LX : Nat} : ck_Ok p1_O X LX 369 p46x_199 := ck_ok_s (ck_E0) ck_X0 ck_l0 p46x_199_e
set_option maxRecDepth 100000 in
def p46x_201 : ck_Sum := ((0, 0, 0), 245, [.inl (18, 2147483647, none), .inl (ck_one 0), .inl (ck_one 13)], ([], [], []), ([], []), [(.inr (some (.inl (ck_one 0))), 245, ([], [], []))])
set_option maxRecDepth 100000 in
theorem p46x_201_e : ck_ok p1_O none [] [] 287 [] 86 p46x_201 = true := by decide +kernel
theorem p46x_201_s {X : Int → Int} {LX : Nat} : ck_Ok p1_O X LX 287 p46x_201 := ck_ok_s (ck_E0) ck_X0 ck_l0 p46x_201_e
set_option maxRecDepth 100000 in
def p46x_202 : ck_Sum := ((1, 0, 0), 245, [.inr (.inr (.inl 226)), .inl (18, 2147483647, none)], ([], [], []), ([(226, 0, 0)], []), [(.inr (some (.inl (ck_one (-1)))), 245, ([], [], [(226, 0, 0, ck_one 0)]))])
set_option maxRecDepth 100000 in
theorem p46x_202_e : ck_ok p1_O none [] [(287, [p46x_201])] 369 [] 98 p46x_202 = true := by decide +kernel
theorem p46x_202_s {X : Int → Int} {LX : Nat} : ck_Ok p1_O X LX 369 p46x_202 := ck_ok_s (ck_E1 (ck_S1 p46x_201_s ck_S0) ck_E0) ck_X0 ck_l0 p46x_202_e
set_option maxRecDepth 100000 in
def p46_F : ck_F := ([], [(3, 8, 0), (16, 8, 0), (29, 8, 0), (44, 8, 0), (57, 8, 0), (70, 8, 0), (83, 8, 0), (96, 8, 0), (109, 8, 0), (122, 8, 0), (135, 8, 0), (148, 8, 0), (161, 8, 0), (174, 8, 0), (187, 8, 0)], [(227, 13, 13, ck_one 1), (227, 12, 12, ck_one 3), (227, 11, 11, ck_one 2), (227, 10, 10, ck_one 10), (227, 1, 1, ck_one 40), (227, 0, 0, ck_one 3), (227, 2, 9, ck_one 0), (227, 14, 2092, ck_one 0), (226, 0, 0, ck_one 0), (226, 6, 6, ck_one 0), (1, 15, 15, ck_one 0), (220, 0, 0, ck_one 24), (220, 3, 3, ck_one 0), (42, 2, 2, ck_one 0), (14, 3, 3, ck_one 0), (12, 3, 3, ck_one 0), (10, 3, 3, ck_one 0), (8, 3, 3, ck_one 0), (6, 3, 3, ck_one 0), (4, 3, 3, ck_one 0), (3, 7, 7, ck_one 0), (3, 6, 6, ck_one 0), (3, 5, 5, ck_one 1), (3, 4, 4, ck_one 3), (3, 3, 3, ck_one 2), (3, 2, 2, ck_one 10), (3, 1, 1, ck_one 40), (3, 0, 0, ck_one 3)])
def p46_E : List (Nat × List ck_Sum) := [(63, [p46x_133, p46x_136, p46x_139, p46x_143, p46x_147, p46x_151, p46x_155, p46x_159, p46x_162, p46x_166, p46x_168, p46x_171, p46x_174, p46x_177, p46x_180, p46x_184, p46x_191, p46x_195, p46x_198, p46x_200]), (369, [p46x_135, p46x_138, p46x_141, p46x_145, p46x_149, p46x_153, p46x_157, p46x_161, p46x_164, p46x_167, p46x_170, p46x_173, p46x_176, p46x_179, p46x_182, p46x_185, p46x_193, p46x_196, p46x_199, p46x_202])]
theorem p46_h {X : Int → Int} {LX : Nat} : ck_OkE p1_O X LX p46_E := ck_E1 (ck_S1 p46x_133_s (ck_S1 p46x_136_s (ck_S1 p46x_139_s (ck_S1 p46x_143_s (ck_S1 p46x_147_s (ck_S1 p46x_151_s (ck_S1 p46x_155_s (ck_S1 p46x_159_s (ck_S1 p46x_162_s (ck_S1 p46x_166_s (ck_S1 p46x_168_s (ck_S1 p46x_171_s (ck_S1 p46x_174_s (ck_S1 p46x_177_s (ck_S1 p46x_180_s (ck_S1 p46x_184_s (ck_S1 p46x_191_s (ck_S1 p46x_195_s (ck_S1 p46x_198_s (ck_S1 p46x_200_s ck_S0)))))))))))))))))))) (ck_E1 (ck_S1 p46x_135_s (ck_S1 p46x_138_s (ck_S1 p46x_141_s (ck_S1 p46x_145_s (ck_S1 p46x_149_s (ck_S1 p46x_153_s (ck_S1 p46x_157_s (ck_S1 p46x_161_s (ck_S1 p46x_164_s (ck_S1 p46x_167_s (ck_S1 p46x_170_s (ck_S1 p46x_173_s (ck_S1 p46x_176_s (ck_S1 p46x_179_s (ck_S1 p46x_182_s (ck_S1 p46x_185_s (ck_S1 p46x_193_s (ck_S1 p46x_196_s (ck_S1 p46x_199_s (ck_S1 p46x_202_s ck_S0)))))))))))))))))))) ck_E0)
set_option maxRecDepth 100000 in
theorem p46_b : (ck_prod [(1, [((-2147483648), (-1)), (0, 0), (1, 1), (2, 2), (3, 3), (4, 4), (5, 5), (6, 6), (7, 7), (8, 8), (9, 9), (10, 10), (11, 11), (12, 12), (13, 13), (14, 14), (15, 15), (16, 16), (17, 17), (18, 2147483647)])]).all (fun xf => ck_go p1_O (some 6) xf p46_E 370 280 245 p1_W p1_outs [] 100 false [] 1000 2000 2955 p1_L [] 245 p46_F) = true := by decide +kernel
theorem p46_s {X : Int → Int} {LX : Nat} (hLX : 6 = LX) (hX : ∀ j, gm_ir (X j)) {σ : Nat → Int} {L : gm_L} {K0 K : gm_K} {R0 R : gm_R} {M0 M : gm_M} (hS : ck_St p1_O σ p1_W 245 K0 R0 M0 p1_L [] p46_F L [] 245 K R M) : gm_Wp X LX 280 1000 2000 370 2955 L [] 245 K R M (ck_Q p1_O σ p1_W 245 K0 R0 M0 p1_outs) := ck_boxes p46_h hLX hX (by decide +kernel) p46_b hS
