/-! heat, on a new object, piece 0: laid by wip/am/p1g.py. -/
set_option maxRecDepth 100000 in
def p5y0_133 : ck_Sum := ((6, 1, 6), 245, [.inr (.inr (.inl 1)), .inl ((-2147483648), (-1), none)], ([], [], []), ([], []), [(.inl 0, 245, ([], [], []))])
set_option maxRecDepth 100000 in
theorem p5y0_133_e : ck_ok p1_O none [] [] 129 [] 76 p5y0_133 = true := by decide +kernel
theorem p5y0_133_s {X : Int → Int} {LX : Nat} : ck_Ok p1_O X LX 129 p5y0_133 := ck_ok_s (ck_E0) ck_X0 ck_l0 p5y0_133_e
set_option maxRecDepth 100000 in
def p5y0_134 : ck_Sum := ((7, 1, 6), 245, [.inr (.inr (.inl 1)), .inl ((-2147483648), (-1), none)], ([], [], []), ([], []), [(.inl 0, 245, ([], [], []))])
set_option maxRecDepth 100000 in
theorem p5y0_134_e : ck_ok p1_O none [] [(129, [p5y0_133])] 128 [] 76 p5y0_134 = true := by decide +kernel
theorem p5y0_134_s {X : Int → Int} {LX : Nat} : ck_Ok p1_O X LX 128 p5y0_134 := ck_ok_s (ck_E1 (ck_S1 p5y0_133_s ck_S0) ck_E0) ck_X0 ck_l0 p5y0_134_e
set_option maxRecDepth 100000 in
def p5y0_135 : ck_Sum := ((8, 1, 6), 245, [.inr (.inr (.inl 1)), .inl ((-2147483648), (-1), none), .inr (.inr (.inl 245))], ([], [], []), ([], []), [(.inr (some (.inl (ck_one 1))), 245, ([], [], []))])
set_option maxRecDepth 100000 in
theorem p5y0_135_e : ck_ok p1_O none [] [(128, [p5y0_134])] 127 [] 86 p5y0_135 = true := by decide +kernel
theorem p5y0_135_s {X : Int → Int} {LX : Nat} : ck_Ok p1_O X LX 127 p5y0_135 := ck_ok_s (ck_E1 (ck_S1 p5y0_134_s ck_S0) ck_E0) ck_X0 ck_l0 p5y0_135_e
set_option maxRecDepth 100000 in
def p5y0_141 : ck_Sum := ((0, 0, 0), 245, [.inr (.inr (.inl 1)), .inl (ck_one 0)], ([], [], []), ([], []), [(.inr none, 245, ([], [], []))])
set_option maxRecDepth 100000 in
theorem p5y0_141_e : ck_ok p1_O none [] [] 129 [] 82 p5y0_141 = true := by decide +kernel
theorem p5y0_141_s {X : Int → Int} {LX : Nat} : ck_Ok p1_O X LX 129 p5y0_141 := ck_ok_s (ck_E0) ck_X0 ck_l0 p5y0_141_e
set_option maxRecDepth 100000 in
def p5y0_142 : ck_Sum := ((0, 0, 0), 245, [.inr (.inr (.inl 200)), .inl (ck_one 0)], ([], [], [(201, 0, 0, ck_one 8)]), ([], []), [(.inr (some (.inl (ck_one 8))), 245, ([], [], []))])
set_option maxRecDepth 100000 in
theorem p5y0_142_e : ck_ok p1_O none [] [] 34 [] 92 p5y0_142 = true := by decide +kernel
theorem p5y0_142_s {X : Int → Int} {LX : Nat} : ck_Ok p1_O X LX 34 p5y0_142 := ck_ok_s (ck_E0) ck_X0 ck_l0 p5y0_142_e
set_option maxRecDepth 100000 in
def p5y0_143 : ck_Sum := ((1, 0, 0), 245, [.inr (.inr (.inl 1)), .inl (ck_one 0)], ([], [], [(201, 0, 0, ck_one 8)]), ([], []), [(.inr (some (.inl (ck_one 8))), 245, ([], [], []))])
set_option maxRecDepth 100000 in
theorem p5y0_143_e : ck_ok p1_O none [] [(129, [p5y0_141]), (34, [p5y0_142])] 128 [] 86 p5y0_143 = true := by decide +kernel
theorem p5y0_143_s {X : Int → Int} {LX : Nat} : ck_Ok p1_O X LX 128 p5y0_143 := ck_ok_s (ck_E1 (ck_S1 p5y0_141_s ck_S0) (ck_E1 (ck_S1 p5y0_142_s ck_S0) ck_E0)) ck_X0 ck_l0 p5y0_143_e
set_option maxRecDepth 100000 in
def p5y0_144 : ck_Sum := ((2, 0, 0), 245, [.inr (.inr (.inl 1)), .inl (ck_one 0), .inr (.inr (.inl 245))], ([], [], [(201, 0, 0, ck_one 8)]), ([(245, 0, 0)], []), [(.inr (some (.inl (ck_one 0))), 245, ([], [], [(245, 0, 0, ck_one 8)]))])
set_option maxRecDepth 100000 in
theorem p5y0_144_e : ck_ok p1_O none [] [(128, [p5y0_143])] 127 [] 90 p5y0_144 = true := by decide +kernel
theorem p5y0_144_s {X : Int → Int} {LX : Nat} : ck_Ok p1_O X LX 127 p5y0_144 := ck_ok_s (ck_E1 (ck_S1 p5y0_143_s ck_S0) ck_E0) ck_X0 ck_l0 p5y0_144_e
set_option maxRecDepth 100000 in
def p5y0_150 : ck_Sum := ((0, 0, 0), 245, [.inr (.inr (.inl 1)), .inl (ck_one 1)], ([], [], []), ([], []), [(.inr none, 245, ([], [], []))])
set_option maxRecDepth 100000 in
theorem p5y0_150_e : ck_ok p1_O none [] [] 129 [] 82 p5y0_150 = true := by decide +kernel
theorem p5y0_150_s {X : Int → Int} {LX : Nat} : ck_Ok p1_O X LX 129 p5y0_150 := ck_ok_s (ck_E0) ck_X0 ck_l0 p5y0_150_e
set_option maxRecDepth 100000 in
def p5y0_151 : ck_Sum := ((0, 0, 0), 245, [.inr (.inr (.inl 200)), .inl (ck_one 1)], ([], [], [(201, 1, 1, ck_one 8)]), ([], []), [(.inr (some (.inl (ck_one 8))), 245, ([], [], []))])
set_option maxRecDepth 100000 in
theorem p5y0_151_e : ck_ok p1_O none [] [] 34 [] 92 p5y0_151 = true := by decide +kernel
theorem p5y0_151_s {X : Int → Int} {LX : Nat} : ck_Ok p1_O X LX 34 p5y0_151 := ck_ok_s (ck_E0) ck_X0 ck_l0 p5y0_151_e
set_option maxRecDepth 100000 in
def p5y0_152 : ck_Sum := ((1, 0, 0), 245, [.inr (.inr (.inl 1)), .inl (ck_one 1)], ([], [], [(201, 1, 1, ck_one 8)]), ([], []), [(.inr (some (.inl (ck_one 8))), 245, ([], [], []))])
set_option maxRecDepth 100000 in
theorem p5y0_152_e : ck_ok p1_O none [] [(129, [p5y0_150]), (34, [p5y0_151])] 128 [] 86 p5y0_152 = true := by decide +kernel
theorem p5y0_152_s {X : Int → Int} {LX : Nat} : ck_Ok p1_O X LX 128 p5y0_152 := ck_ok_s (ck_E1 (ck_S1 p5y0_150_s ck_S0) (ck_E1 (ck_S1 p5y0_151_s ck_S0) ck_E0)) ck_X0 ck_l0 p5y0_152_e
set_option maxRecDepth 100000 in
def p5y0_153 : ck_Sum := ((2, 0, 0), 245, [.inr (.inr (.inl 1)), .inl (ck_one 1), .inr (.inr (.inl 245))], ([], [], [(201, 1, 1, ck_one 8)]), ([(245, 0, 0)], []), [(.inr (some (.inl (ck_one 0))), 245, ([], [], [(245, 0, 0, ck_one 8)]))])
set_option maxRecDepth 100000 in
theorem p5y0_153_e : ck_ok p1_O none [] [(128, [p5y0_152])] 127 [] 90 p5y0_153 = true := by decide +kernel
theorem p5y0_153_s {X : Int → Int} {LX : Nat} : ck_Ok p1_O X LX 127 p5y0_153 := ck_ok_s (ck_E1 (ck_S1 p5y0_152_s ck_S0) ck_E0) ck_X0 ck_l0 p5y0_153_e
set_option maxRecDepth 100000 in
def p5y0_157 : ck_Sum := ((0, 0, 0), 245, [.inr (.inr (.inl 1)), .inl (ck_one 2)], ([], [], []), ([], []), [(.inr none, 245, ([], [], []))])
set_option maxRecDepth 100000 in
theorem p5y0_157_e : ck_ok p1_O none [] [] 129 [] 82 p5y0_157 = true := by decide +kernel
theorem p5y0_157_s {X : Int → Int} {LX : Nat} : ck_Ok p1_O X LX 129 p5y0_157 := ck_ok_s (ck_E0) ck_X0 ck_l0 p5y0_157_e
set_option maxRecDepth 100000 in
def p5y0_158 : ck_Sum := ((0, 0, 0), 245, [.inr (.inr (.inl 200)), .inl (ck_one 2)], ([], [], [(201, 2, 2, ck_one 3)]), ([], []), [(.inr (some (.inl (ck_one 3))), 245, ([], [], []))])
set_option maxRecDepth 100000 in
theorem p5y0_158_e : ck_ok p1_O none [] [] 34 [] 92 p5y0_158 = true := by decide +kernel
theorem p5y0_158_s {X : Int → Int} {LX : Nat} : ck_Ok p1_O X LX 34 p5y0_158 := ck_ok_s (ck_E0) ck_X0 ck_l0 p5y0_158_e
set_option maxRecDepth 100000 in
def p5y0_159 : ck_Sum := ((1, 0, 0), 245, [.inr (.inr (.inl 1)), .inl (ck_one 2)], ([], [], [(201, 2, 2, ck_one 3)]), ([], []), [(.inr (some (.inl (ck_one 3))), 245, ([], [], []))])
set_option maxRecDepth 100000 in
theorem p5y0_159_e : ck_ok p1_O none [] [(129, [p5y0_157]), (34, [p5y0_158])] 128 [] 86 p5y0_159 = true := by decide +kernel
theorem p5y0_159_s {X : Int → Int} {LX : Nat} : ck_Ok p1_O X LX 128 p5y0_159 := ck_ok_s (ck_E1 (ck_S1 p5y0_157_s ck_S0) (ck_E1 (ck_S1 p5y0_158_s ck_S0) ck_E0)) ck_X0 ck_l0 p5y0_159_e
set_option maxRecDepth 100000 in
def p5y0_160 : ck_Sum := ((2, 0, 0), 245, [.inr (.inr (.inl 1)), .inl (ck_one 2), .inr (.inr (.inl 245))], ([], [], [(201, 2, 2, ck_one 3)]), ([(245, 0, 0)], []), [(.inr (some (.inl (ck_one 0))), 245, ([], [], [(245, 0, 0, ck_one 3)]))])
set_option maxRecDepth 100000 in
theorem p5y0_160_e : ck_ok p1_O none [] [(128, [p5y0_159])] 127 [] 90 p5y0_160 = true := by decide +kernel
theorem p5y0_160_s {X : Int → Int} {LX : Nat} : ck_Ok p1_O X LX 127 p5y0_160 := ck_ok_s (ck_E1 (ck_S1 p5y0_159_s ck_S0) ck_E0) ck_X0 ck_l0 p5y0_160_e
set_option maxRecDepth 100000 in
def p5y0_164 : ck_Sum := ((0, 0, 0), 245, [.inr (.inr (.inl 1)), .inl (ck_one 3)], ([], [], []), ([], []), [(.inr none, 245, ([], [], []))])
set_option maxRecDepth 100000 in
theorem p5y0_164_e : ck_ok p1_O none [] [] 129 [] 82 p5y0_164 = true := by decide +kernel
theorem p5y0_164_s {X : Int → Int} {LX : Nat} : ck_Ok p1_O X LX 129 p5y0_164 := ck_ok_s (ck_E0) ck_X0 ck_l0 p5y0_164_e
set_option maxRecDepth 100000 in
def p5y0_165 : ck_Sum := ((0, 0, 0), 245, [.inr (.inr (.inl 200)), .inl (ck_one 3)], ([], [], [(201, 3, 3, ck_one 5)]), ([], []), [(.inr (some (.inl (ck_one 5))), 245, ([], [], []))])
set_option maxRecDepth 100000 in
theorem p5y0_165_e : ck_ok p1_O none [] [] 34 [] 92 p5y0_165 = true := by decide +kernel
theorem p5y0_165_s {X : Int → Int} {LX : Nat} : ck_Ok p1_O X LX 34 p5y0_165 := ck_ok_s (ck_E0) ck_X0 ck_l0 p5y0_165_e
set_option maxRecDepth 100000 in
def p5y0_166 : ck_Sum := ((1, 0, 0), 245, [.inr (.inr (.inl 1)), .inl (ck_one 3)], ([], [], [(201, 3, 3, ck_one 5)]), ([], []), [(.inr (some (.inl (ck_one 5))), 245, ([], [], []))])
set_option maxRecDepth 100000 in
theorem p5y0_166_e : ck_ok p1_O none [] [(129, [p5y0_164]), (34, [p5y0_165])] 128 [] 86 p5y0_166 = true := by decide +kernel
theorem p5y0_166_s {X : Int → Int} {LX : Nat} : ck_Ok p1_O X LX 128 p5y0_166 := ck_ok_s (ck_E1 (ck_S1 p5y0_164_s ck_S0) (ck_E1 (ck_S1 p5y0_165_s ck_S0) ck_E0)) ck_X0 ck_l0 p5y0_166_e
set_option maxRecDepth 100000 in
def p5y0_167 : ck_Sum := ((2, 0, 0), 245, [.inr (.inr (.inl 1)), .inl (ck_one 3), .inr (.inr (.inl 245))], ([], [], [(201, 3, 3, ck_one 5)]), ([(245, 0, 0)], []), [(.inr (some (.inl (ck_one 0))), 245, ([], [], [(245, 0, 0, ck_one 5)]))])
set_option maxRecDepth 100000 in
theorem p5y0_167_e : ck_ok p1_O none [] [(128, [p5y0_166])] 127 [] 90 p5y0_167 = true := by decide +kernel
theorem p5y0_167_s {X : Int → Int} {LX : Nat} : ck_Ok p1_O X LX 127 p5y0_167 := ck_ok_s (ck_E1 (ck_S1 p5y0_166_s ck_S0) ck_E0) ck_X0 ck_l0 p5y0_167_e
set_option maxRecDepth 100000 in
def p5y0_171 : ck_Sum := ((0, 0, 0), 245, [.inr (.inr (.inl 1)), .inl (ck_one 4)], ([], [], []), ([], []), [(.inr none, 245, ([], [], []))])
set_option maxRecDepth 100000 in
theorem p5y0_171_e : ck_ok p1_O none [] [] 129 [] 82 p5y0_171 = true := by decide +kernel
theorem p5y0_171_s {X : Int → Int} {LX : Nat} : ck_Ok p1_O X LX 129 p5y0_171 := ck_ok_s (ck_E0) ck_X0 ck_l0 p5y0_171_e
set_option maxRecDepth 100000 in
def p5y0_172 : ck_Sum := ((0, 0, 0), 245, [.inr (.inr (.inl 200)), .inl (ck_one 4)], ([], [], [(201, 4, 4, ck_one 1)]), ([], []), [(.inr (some (.inl (ck_one 1))), 245, ([], [], []))])
set_option maxRecDepth 100000 in
theorem p5y0_172_e : ck_ok p1_O none [] [] 34 [] 92 p5y0_172 = true := by decide +kernel
theorem p5y0_172_s {X : Int → Int} {LX : Nat} : ck_Ok p1_O X LX 34 p5y0_172 := ck_ok_s (ck_E0) ck_X0 ck_l0 p5y0_172_e
set_option maxRecDepth 100000 in
def p5y0_173 : ck_Sum := ((1, 0, 0), 245, [.inr (.inr (.inl 1)), .inl (ck_one 4)], ([], [], [(201, 4, 4, ck_one 1)]), ([], []), [(.inr (some (.inl (ck_one 1))), 245, ([], [], []))])
set_option maxRecDepth 100000 in
theorem p5y0_173_e : ck_ok p1_O none [] [(129, [p5y0_171]), (34, [p5y0_172])] 128 [] 86 p5y0_173 = true := by decide +kernel
theorem p5y0_173_s {X : Int → Int} {LX : Nat} : ck_Ok p1_O X LX 128 p5y0_173 := ck_ok_s (ck_E1 (ck_S1 p5y0_171_s ck_S0) (ck_E1 (ck_S1 p5y0_172_s ck_S0) ck_E0)) ck_X0 ck_l0 p5y0_173_e
set_option maxRecDepth 100000 in
def p5y0_174 : ck_Sum := ((2, 0, 0), 245, [.inr (.inr (.inl 1)), .inl (ck_one 4), .inr (.inr (.inl 245))], ([], [], [(201, 4, 4, ck_one 1)]), ([(245, 0, 0)], []), [(.inr (some (.inl (ck_one 0))), 245, ([], [], [(245, 0, 0, ck_one 1)]))])
set_option maxRecDepth 100000 in
theorem p5y0_174_e : ck_ok p1_O none [] [(128, [p5y0_173])] 127 [] 90 p5y0_174 = true := by decide +kernel
theorem p5y0_174_s {X : Int → Int} {LX : Nat} : ck_Ok p1_O X LX 127 p5y0_174 := ck_ok_s (ck_E1 (ck_S1 p5y0_173_s ck_S0) ck_E0) ck_X0 ck_l0 p5y0_174_e
set_option maxRecDepth 100000 in
def p5y0_178 : ck_Sum := ((0, 0, 0), 245, [.inr (.inr (.inl 1)), .inl (ck_one 5)], ([], [], []), ([], []), [(.inr none, 245, ([], [], []))])
set_option maxRecDepth 100000 in
theorem p5y0_178_e : ck_ok p1_O none [] [] 129 [] 82 p5y0_178 = true := by decide +kernel
theorem p5y0_178_s {X : Int → Int} {LX : Nat} : ck_Ok p1_O X LX 129 p5y0_178 := ck_ok_s (ck_E0) ck_X0 ck_l0 p5y0_178_e
set_option maxRecDepth 100000 in
def p5y0_179 : ck_Sum := ((0, 0, 0), 245, [.inr (.inr (.inl 200)), .inl (ck_one 5)], ([], [], [(201, 5, 5, ck_one 7)]), ([], []), [(.inr (some (.inl (ck_one 7))), 245, ([], [], []))])
set_option maxRecDepth 100000 in
theorem p5y0_179_e : ck_ok p1_O none [] [] 34 [] 92 p5y0_179 = true := by decide +kernel
theorem p5y0_179_s {X : Int → Int} {LX : Nat} : ck_Ok p1_O X LX 34 p5y0_179 := ck_ok_s (ck_E0) ck_X0 ck_l0 p5y0_179_e
set_option maxRecDepth 100000 in
def p5y0_180 : ck_Sum := ((1, 0, 0), 245, [.inr (.inr (.inl 1)), .inl (ck_one 5)], ([], [], [(201, 5, 5, ck_one 7)]), ([], []), [(.inr (some (.inl (ck_one 7))), 245, ([], [], []))])
set_option maxRecDepth 100000 in
theorem p5y0_180_e : ck_ok p1_O none [] [(129, [p5y0_178]), (34, [p5y0_179])] 128 [] 86 p5y0_180 = true := by decide +kernel
theorem p5y0_180_s {X : Int → Int} {LX : Nat} : ck_Ok p1_O X LX 128 p5y0_180 := ck_ok_s (ck_E1 (ck_S1 p5y0_178_s ck_S0) (ck_E1 (ck_S1 p5y0_179_s ck_S0) ck_E0)) ck_X0 ck_l0 p5y0_180_e
set_option maxRecDepth 100000 in
def p5y0_181 : ck_Sum := ((2, 0, 0), 245, [.inr (.inr (.inl 1)), .inl (ck_one 5), .inr (.inr (.inl 245))], ([], [], [(201, 5, 5, ck_one 7)]), ([(245, 0, 0)], []), [(.inr (some (.inl (ck_one 0))), 245, ([], [], [(245, 0, 0, ck_one 7)]))])
set_option maxRecDepth 100000 in
theorem p5y0_181_e : ck_ok p1_O none [] [(128, [p5y0_180])] 127 [] 90 p5y0_181 = true := by decide +kernel
theorem p5y0_181_s {X : Int → Int} {LX : Nat} : ck_Ok p1_O X LX 127 p5y0_181 := ck_ok_s (ck_E1 (ck_S1 p5y0_180_s ck_S0) ck_E0) ck_X0 ck_l0 p5y0_181_e
set_option maxRecDepth 100000 in
def p5y0_185 : ck_Sum := ((0, 0, 0), 245, [.inr (.inr (.inl 1)), .inl (ck_one 6)], ([], [], []), ([], []), [(.inr none, 245, ([], [], []))])
set_option maxRecDepth 100000 in
theorem p5y0_185_e : ck_ok p1_O none [] [] 129 [] 82 p5y0_185 = true := by decide +kernel
theorem p5y0_185_s {X : Int → Int} {LX : Nat} : ck_Ok p1_O X LX 129 p5y0_185 := ck_ok_s (ck_E0) ck_X0 ck_l0 p5y0_185_e
set_option maxRecDepth 100000 in
def p5y0_186 : ck_Sum := ((0, 0, 0), 245, [.inr (.inr (.inl 200)), .inl (ck_one 6)], ([], [], [(201, 6, 6, ck_one 0)]), ([], []), [(.inr (some (.inl (ck_one 0))), 245, ([], [], []))])
set_option maxRecDepth 100000 in
theorem p5y0_186_e : ck_ok p1_O none [] [] 34 [] 92 p5y0_186 = true := by decide +kernel
theorem p5y0_186_s {X : Int → Int} {LX : Nat} : ck_Ok p1_O X LX 34 p5y0_186 := ck_ok_s (ck_E0) ck_X0 ck_l0 p5y0_186_e
set_option maxRecDepth 100000 in
def p5y0_187 : ck_Sum := ((1, 0, 0), 245, [.inr (.inr (.inl 1)), .inl (ck_one 6)], ([], [], [(201, 6, 6, ck_one 0)]), ([], []), [(.inr (some (.inl (ck_one 0))), 245, ([], [], []))])
set_option maxRecDepth 100000 in
theorem p5y0_187_e : ck_ok p1_O none [] [(129, [p5y0_185]), (34, [p5y0_186])] 128 [] 86 p5y0_187 = true := by decide +kernel
theorem p5y0_187_s {X : Int → Int} {LX : Nat} : ck_Ok p1_O X LX 128 p5y0_187 := ck_ok_s (ck_E1 (ck_S1 p5y0_185_s ck_S0) (ck_E1 (ck_S1 p5y0_186_s ck_S0) ck_E0)) ck_X0 ck_l0 p5y0_187_e
set_option maxRecDepth 100000 in
def p5y0_188 : ck_Sum := ((2, 0, 0), 245, [.inr (.inr (.inl 1)), .inl (ck_one 6), .inr (.inr (.inl 245))], ([], [], [(201, 6, 6, ck_one 0)]), ([(245, 0, 0)], []), [(.inr (some (.inl (ck_one 0))), 245, ([], [], [(245, 0, 0, ck_one 0)]))])
set_option maxRecDepth 100000 in
theorem p5y0_188_e : ck_ok p1_O none [] [(128, [p5y0_187])] 127 [] 90 p5y0_188 = true := by decide +kernel
theorem p5y0_188_s {X : Int → Int} {LX : Nat} : ck_Ok p1_O X LX 127 p5y0_188 := ck_ok_s (ck_E1 (ck_S1 p5y0_187_s ck_S0) ck_E0) ck_X0 ck_l0 p5y0_188_e
set_option maxRecDepth 100000 in
def p5y0_192 : ck_Sum := ((0, 0, 0), 245, [.inr (.inr (.inl 1)), .inl (ck_one 7)], ([], [], []), ([], []), [(.inr none, 245, ([], [], []))])
set_option maxRecDepth 100000 in
theorem p5y0_192_e : ck_ok p1_O none [] [] 129 [] 82 p5y0_192 = true := by decide +kernel
theorem p5y0_192_s {X : Int → Int} {LX : Nat} : ck_Ok p1_O X LX 129 p5y0_192 := ck_ok_s (ck_E0) ck_X0 ck_l0 p5y0_192_e
set_option maxRecDepth 100000 in
def p5y0_193 : ck_Sum := ((0, 0, 0), 245, [.inr (.inr (.inl 200)), .inl (ck_one 7)], ([], [], [(201, 7, 7, ck_one 9)]), ([], []), [(.inr (some (.inl (ck_one 9))), 245, ([], [], []))])
set_option maxRecDepth 100000 in
theorem p5y0_193_e : ck_ok p1_O none [] [] 34 [] 92 p5y0_193 = true := by decide +kernel
theorem p5y0_193_s {X : Int → Int} {LX : Nat} : ck_Ok p1_O X LX 34 p5y0_193 := ck_ok_s (ck_E0) ck_X0 ck_l0 p5y0_193_e
set_option maxRecDepth 100000 in
def p5y0_194 : ck_Sum := ((1, 0, 0), 245, [.inr (.inr (.inl 1)), .inl (ck_one 7)], ([], [], [(201, 7, 7, ck_one 9)]), ([], []), [(.inr (some (.inl (ck_one 9))), 245, ([], [], []))])
set_option maxRecDepth 100000 in
theorem p5y0_194_e : ck_ok p1_O none [] [(129, [p5y0_192]), (34, [p5y0_193])] 128 [] 86 p5y0_194 = true := by decide +kernel
theorem p5y0_194_s {X : Int → Int} {LX : Nat} : ck_Ok p1_O X LX 128 p5y0_194 := ck_ok_s (ck_E1 (ck_S1 p5y0_192_s ck_S0) (ck_E1 (ck_S1 p5y0_193_s ck_S0) ck_E0)) ck_X0 ck_l0 p5y0_194_e
set_option maxRecDepth 100000 in
def p5y0_195 : ck_Sum := ((2, 0, 0), 245, [.inr (.inr (.inl 1)), .inl (ck_one 7), .inr (.inr (.inl 245))], ([], [], [(201, 7, 7, ck_one 9)]), ([(245, 0, 0)], []), [(.inr (some (.inl (ck_one 0))), 245, ([], [], [(245, 0, 0, ck_one 9)]))])
set_option maxRecDepth 100000 in
theorem p5y0_195_e : ck_ok p1_O none [] [(128, [p5y0_194])] 127 [] 90 p5y0_195 = true := by decide +kernel
theorem p5y0_195_s {X : Int → Int} {LX : Nat} : ck_Ok p1_O X LX 127 p5y0_195 := ck_ok_s (ck_E1 (ck_S1 p5y0_194_s ck_S0) ck_E0) ck_X0 ck_l0 p5y0_195_e
set_option maxRecDepth 100000 in
def p5y0_199 : ck_Sum := ((0, 0, 0), 245, [.inr (.inr (.inl 1)), .inl (ck_one 8)], ([], [], []), ([], []), [(.inr none, 245, ([], [], []))])
set_option maxRecDepth 100000 in
theorem p5y0_199_e : ck_ok p1_O none [] [] 129 [] 82 p5y0_199 = true := by decide +kernel
theorem p5y0_199_s {X : Int → Int} {LX : Nat} : ck_Ok p1_O X LX 129 p5y0_199 := ck_ok_s (ck_E0) ck_X0 ck_l0 p5y0_199_e
set_option maxRecDepth 100000 in
def p5y0_200 : ck_Sum := ((0, 0, 0), 245, [.inr (.inr (.inl 200)), .inl (ck_one 8)], ([], [], [(201, 8, 8, ck_one 2)]), ([], []), [(.inr (some (.inl (ck_one 2))), 245, ([], [], []))])
set_option maxRecDepth 100000 in
theorem p5y0_200_e : ck_ok p1_O none [] [] 34 [] 92 p5y0_200 = true := by decide +kernel
theorem p5y0_200_s {X : Int → Int} {LX : Nat} : ck_Ok p1_O X LX 34 p5y0_200 := ck_ok_s (ck_E0) ck_X0 ck_l0 p5y0_200_e
set_option maxRecDepth 100000 in
def p5y0_201 : ck_Sum := ((1, 0, 0), 245, [.inr (.inr (.inl 1)), .inl (ck_one 8)], ([], [], [(201, 8, 8, ck_one 2)]), ([], []), [(.inr (some (.inl (ck_one 2))), 245, ([], [], []))])
set_option maxRecDepth 100000 in
theorem p5y0_201_e : ck_ok p1_O none [] [(129, [p5y0_199]), (34, [p5y0_200])] 128 [] 86 p5y0_201 = true := by decide +kernel
theorem p5y0_201_s {X : Int → Int} {LX : Nat} : ck_Ok p1_O X LX 128 p5y0_201 := ck_ok_s (ck_E1 (ck_S1 p5y0_199_s ck_S0) (ck_E1 (ck_S1 p5y0_200_s ck_S0) ck_E0)) ck_X0 ck_l0 p5y0_201_e
set_option maxRecDepth 100000 in
def p5y0_202 : ck_Sum := ((2, 0, 0), 245, [.inr (.inr (.inl 1)), .inl (ck_one 8), .inr (.inr (.inl 245))], ([], [], [(201, 8, 8, ck_one 2)]), ([(245, 0, 0)], []), [(.inr (some (.inl (ck_one 0))), 245, ([], [], [(245, 0, 0, ck_one 2)]))])
set_option maxRecDepth 100000 in
theorem p5y0_202_e : ck_ok p1_O none [] [(128, [p5y0_201])] 127 [] 90 p5y0_202 = true := by decide +kernel
theorem p5y0_202_s {X : Int → Int} {LX : Nat} : ck_Ok p1_O X LX 127 p5y0_202 := ck_ok_s (ck_E1 (ck_S1 p5y0_201_s ck_S0) ck_E0) ck_X0 ck_l0 p5y0_202_e
set_option maxRecDepth 100000 in
def p5y0_206 : ck_Sum := ((0, 0, 0), 245, [.inr (.inr (.inl 1)), .inl (ck_one 9)], ([], [], []), ([], []), [(.inr none, 245, ([], [], []))])
set_option maxRecDepth 100000 in
theorem p5y0_206_e : ck_ok p1_O none [] [] 129 [] 82 p5y0_206 = true := by decide +kernel
theorem p5y0_206_s {X : Int → Int} {LX : Nat} : ck_Ok p1_O X LX 129 p5y0_206 := ck_ok_s (ck_E0) ck_X0 ck_l0 p5y0_206_e
set_option maxRecDepth 100000 in
def p5y0_207 : ck_Sum := ((0, 0, 0), 245, [.inr (.inr (.inl 200)), .inl (ck_one 9)], ([], [], [(201, 9, 9, ck_one 6)]), ([], []), [(.inr (some (.inl (ck_one 6))), 245, ([], [], []))])
set_option maxRecDepth 100000 in
theorem p5y0_207_e : ck_ok p1_O none [] [] 34 [] 92 p5y0_207 = true := by decide +kernel
theorem p5y0_207_s {X : Int → Int} {LX : Nat} : ck_Ok p1_O X LX 34 p5y0_207 := ck_ok_s (ck_E0) ck_X0 ck_l0 p5y0_207_e
set_option maxRecDepth 100000 in
def p5y0_208 : ck_Sum := ((1, 0, 0), 245, [.inr (.inr (.inl 1)), .inl (ck_one 9)], ([], [], [(201, 9, 9, ck_one 6)]), ([], []), [(.inr (some (.inl (ck_one 6))), 245, ([], [], []))])
set_option maxRecDepth 100000 in
theorem p5y0_208_e : ck_ok p1_O none [] [(129, [p5y0_206]), (34, [p5y0_207])] 128 [] 86 p5y0_208 = true := by decide +kernel
theorem p5y0_208_s {X : Int → Int} {LX : Nat} : ck_Ok p1_O X LX 128 p5y0_208 := ck_ok_s (ck_E1 (ck_S1 p5y0_206_s ck_S0) (ck_E1 (ck_S1 p5y0_207_s ck_S0) ck_E0)) ck_X0 ck_l0 p5y0_208_e
set_option maxRecDepth 100000 in
def p5y0_209 : ck_Sum := ((2, 0, 0), 245, [.inr (.inr (.inl 1)), .inl (ck_one 9), .inr (.inr (.inl 245))], ([], [], [(201, 9, 9, ck_one 6)]), ([(245, 0, 0)], []), [(.inr (some (.inl (ck_one 0))), 245, ([], [], [(245, 0, 0, ck_one 6)]))])
set_option maxRecDepth 100000 in
theorem p5y0_209_e : ck_ok p1_O none [] [(128, [p5y0_208])] 127 [] 90 p5y0_209 = true := by decide +kernel
theorem p5y0_209_s {X : Int → Int} {LX : Nat} : ck_Ok p1_O X LX 127 p5y0_209 := ck_ok_s (ck_E1 (ck_S1 p5y0_208_s ck_S0) ck_E0) ck_X0 ck_l0 p5y0_209_e
set_option maxRecDepth 100000 in
def p5y0_213 : ck_Sum := ((0, 0, 0), 245, [.inr (.inr (.inl 1)), .inl (ck_one 10)], ([], [], []), ([], []), [(.inr none, 245, ([], [], []))])
set_option maxRecDepth 100000 in
theorem p5y0_213_e : ck_ok p1_O none [] [] 129 [] 82 p5y0_213 = true := by decide +kernel
theorem p5y0_213_s {X : Int → Int} {LX : Nat} : ck_Ok p1_O X LX 129 p5y0_213 := ck_ok_s (ck_E0) ck_X0 ck_l0 p5y0_213_e
set_option maxRecDepth 100000 in
def p5y0_214 : ck_Sum := ((0, 0, 0), 245, [.inr (.inr (.inl 200)), .inl (ck_one 10)], ([], [], [(201, 10, 10, ck_one 9)]), ([], []), [(.inr (some (.inl (ck_one 9))), 245, ([], [], []))])
set_option maxRecDepth 100000 in
theorem p5y0_214_e : ck_ok p1_O none [] [] 34 [] 92 p5y0_214 = true := by decide +kernel
theorem p5y0_214_s {X : Int → Int} {LX : Nat} : ck_Ok p1_O X LX 34 p5y0_214 := ck_ok_s (ck_E0) ck_X0 ck_l0 p5y0_214_e
set_option maxRecDepth 100000 in
def p5y0_215 : ck_Sum := ((1, 0, 0), 245, [.inr (.inr (.inl 1)), .inl (ck_one 10)], ([], [], [(201, 10, 10, ck_one 9)]), ([], []), [(.inr (some (.inl (ck_one 9))), 245, ([], [], []))])
set_option maxRecDepth 100000 in
theorem p5y0_215_e : ck_ok p1_O none [] [(129, [p5y0_213]), (34, [p5y0_214])] 128 [] 86 p5y0_215 = true := by decide +kernel
theorem p5y0_215_s {X : Int → Int} {LX : Nat} : ck_Ok p1_O X LX 128 p5y0_215 := ck_ok_s (ck_E1 (ck_S1 p5y0_213_s ck_S0) (ck_E1 (ck_S1 p5y0_214_s ck_S0) ck_E0)) ck_X0 ck_l0 p5y0_215_e
set_option maxRecDepth 100000 in
def p5y0_216 : ck_Sum := ((2, 0, 0), 245, [.inr (.inr (.inl 1)), .inl (ck_one 10), .inr (.inr (.inl 245))], ([], [], [(201, 10, 10, ck_one 9)]), ([(245, 0, 0)], []), [(.inr (some (.inl (ck_one 0))), 245, ([], [], [(245, 0, 0, ck_one 9)]))])
set_option maxRecDepth 100000 in
theorem p5y0_216_e : ck_ok p1_O none [] [(128, [p5y0_215])] 127 [] 90 p5y0_216 = true := by decide +kernel
theorem p5y0_216_s {X : Int → Int} {LX : Nat} : ck_Ok p1_O X LX 127 p5y0_216 := ck_ok_s (ck_E1 (ck_S1 p5y0_215_s ck_S0) ck_E0) ck_X0 ck_l0 p5y0_216_e
set_option maxRecDepth 100000 in
def p5y0_220 : ck_Sum := ((0, 0, 0), 245, [.inr (.inr (.inl 1)), .inl (ck_one 11)], ([], [], []), ([], []), [(.inr none, 245, ([], [], []))])
set_option maxRecDepth 100000 in
theorem p5y0_220_e : ck_ok p1_O none [] [] 129 [] 82 p5y0_220 = true := by decide +kernel
theorem p5y0_220_s {X : Int → Int} {LX : Nat} : ck_Ok p1_O X LX 129 p5y0_220 := ck_ok_s (ck_E0) ck_X0 ck_l0 p5y0_220_e
set_option maxRecDepth 100000 in
def p5y0_221 : ck_Sum := ((0, 0, 0), 245, [.inr (.inr (.inl 200)), .inl (ck_one 11)], ([], [], [(201, 11, 11, ck_one 7)]), ([], []), [(.inr (some (.inl (ck_one 7))), 245, ([], [], []))])
set_option maxRecDepth 100000 in
theorem p5y0_221_e : ck_ok p1_O none [] [] 34 [] 92 p5y0_221 = true := by decide +kernel
theorem p5y0_221_s {X : Int → Int} {LX : Nat} : ck_Ok p1_O X LX 34 p5y0_221 := ck_ok_s (ck_E0) ck_X0 ck_l0 p5y0_221_e
set_option maxRecDepth 100000 in
def p5y0_222 : ck_Sum := ((1, 0, 0), 245, [.inr (.inr (.inl 1)), .inl (ck_one 11)], ([], [], [(201, 11, 11, ck_one 7)]), ([], []), [(.inr (some (.inl (ck_one 7))), 245, ([], [], []))])
set_option maxRecDepth 100000 in
theorem p5y0_222_e : ck_ok p1_O none [] [(129, [p5y0_220]), (34, [p5y0_221])] 128 [] 86 p5y0_222 = true := by decide +kernel
theorem p5y0_222_s {X : Int → Int} {LX : Nat} : ck_Ok p1_O X LX 128 p5y0_222 := ck_ok_s (ck_E1 (ck_S1 p5y0_220_s ck_S0) (ck_E1 (ck_S1 p5y0_221_s ck_S0) ck_E0)) ck_X0 ck_l0 p5y0_222_e
set_option maxRecDepth 100000 in
def p5y0_223 : ck_Sum := ((2, 0, 0), 245, [.inr (.inr (.inl 1)), .inl (ck_one 11), .inr (.inr (.inl 245))], ([], [], [(201, 11, 11, ck_one 7)]), ([(245, 0, 0)], []), [(.inr (some (.inl (ck_one 0))), 245, ([], [], [(245, 0, 0, ck_one 7)]))])
set_option maxRecDepth 100000 in
theorem p5y0_223_e : ck_ok p1_O none [] [(128, [p5y0_222])] 127 [] 90 p5y0_223 = true := by decide +kernel
theorem p5y0_223_s {X : Int → Int} {LX : Nat} : ck_Ok p1_O X LX 127 p5y0_223 := ck_ok_s (ck_E1 (ck_S1 p5y0_222_s ck_S0) ck_E0) ck_X0 ck_l0 p5y0_223_e
set_option maxRecDepth 100000 in
def p5y0_227 : ck_Sum := ((0, 0, 0), 245, [.inr (.inr (.inl 1)), .inl (ck_one 12)], ([], [], []), ([], []), [(.inr none, 245, ([], [], []))])
set_option maxRecDepth 100000 in
theorem p5y0_227_e : ck_ok p1_O none [] [] 129 [] 82 p5y0_227 = true := by decide +kernel
theorem p5y0_227_s {X : Int → Int} {LX : Nat} : ck_Ok p1_O X LX 129 p5y0_227 := ck_ok_s (ck_E0) ck_X0 ck_l0 p5y0_227_e
set_option maxRecDepth 100000 in
def p5y0_228 : ck_Sum := ((0, 0, 0), 245, [.inr (.inr (.inl 200)), .inl (ck_one 12)], ([], [], [(201, 12, 12, ck_one 4)]), ([], []), [(.inr (some (.inl (ck_one 4))), 245, ([], [], []))])
set_option maxRecDepth 100000 in
theorem p5y0_228_e : ck_ok p1_O none [] [] 34 [] 92 p5y0_228 = true := by decide +kernel
theorem p5y0_228_s {X : Int → Int} {LX : Nat} : ck_Ok p1_O X LX 34 p5y0_228 := ck_ok_s (ck_E0) ck_X0 ck_l0 p5y0_228_e
set_option maxRecDepth 100000 in
def p5y0_229 : ck_Sum := ((1, 0, 0), 245, [.inr (.inr (.inl 1)), .inl (ck_one 12)], ([], [], [(201, 12, 12, ck_one 4)]), ([], []), [(.inr (some (.inl (ck_one 4))), 245, ([], [], []))])
set_option maxRecDepth 100000 in
theorem p5y0_229_e : ck_ok p1_O none [] [(129, [p5y0_227]), (34, [p5y0_228])] 128 [] 86 p5y0_229 = true := by decide +kernel
theorem p5y0_229_s {X : Int → Int} {LX : Nat} : ck_Ok p1_O X LX 128 p5y0_229 := ck_ok_s (ck_E1 (ck_S1 p5y0_227_s ck_S0) (ck_E1 (ck_S1 p5y0_228_s ck_S0) ck_E0)) ck_X0 ck_l0 p5y0_229_e
set_option maxRecDepth 100000 in
def p5y0_230 : ck_Sum := ((2, 0, 0), 245, [.inr (.inr (.inl 1)), .inl (ck_one 12), .inr (.inr (.inl 245))], ([], [], [(201, 12, 12, ck_one 4)]), ([(245, 0, 0)], []), [(.inr (some (.inl (ck_one 0))), 245, ([], [], [(245, 0, 0, ck_one 4)]))])
set_option maxRecDepth 100000 in
theorem p5y0_230_e : ck_ok p1_O none [] [(128, [p5y0_229])] 127 [] 90 p5y0_230 = true := by decide +kernel
theorem p5y0_230_s {X : Int → Int} {LX : Nat} : ck_Ok p1_O X LX 127 p5y0_230 := ck_ok_s (ck_E1 (ck_S1 p5y0_229_s ck_S0) ck_E0) ck_X0 ck_l0 p5y0_230_e
set_option maxRecDepth 100000 in
def p5y0_234 : ck_Sum := ((0, 0, 0), 245, [.inr (.inr (.inl 1)), .inl (ck_one 13)], ([], [], []), ([], []), [(.inr none, 245, ([], [], []))])
set_option maxRecDepth 100000 in
theorem p5y0_234_e : ck_ok p1_O none [] [] 129 [] 82 p5y0_234 = true := by decide +kernel
theorem p5y0_234_s {X : Int → Int} {LX : Nat} : ck_Ok p1_O X LX 129 p5y0_234 := ck_ok_s (ck_E0) ck_X0 ck_l0 p5y0_234_e
set_option maxRecDepth 100000 in
def p5y0_235 : ck_Sum := ((0, 0, 0), 245, [.inr (.inr (.inl 200)), .inl (ck_one 13)], ([], [], [(201, 13, 13, ck_one 0)]), ([], []), [(.inr (some (.inl (ck_one 0))), 245, ([], [], []))])
set_option maxRecDepth 100000 in
theorem p5y0_235_e : ck_ok p1_O none [] [] 34 [] 92 p5y0_235 = true := by decide +kernel
theorem p5y0_235_s {X : Int → Int} {LX : Nat} : ck_Ok p1_O X LX 34 p5y0_235 := ck_ok_s (ck_E0) ck_X0 ck_l0 p5y0_235_e
set_option maxRecDepth 100000 in
def p5y0_236 : ck_Sum := ((1, 0, 0), 245, [.inr (.inr (.inl 1)), .inl (ck_one 13)], ([], [], [(201, 13, 13, ck_one 0)]), ([], []), [(.inr (some (.inl (ck_one 0))), 245, ([], [], []))])
set_option maxRecDepth 100000 in
theorem p5y0_236_e : ck_ok p1_O none [] [(129, [p5y0_234]), (34, [p5y0_235])] 128 [] 86 p5y0_236 = true := by decide +kernel
theorem p5y0_236_s {X : Int → Int} {LX : Nat} : ck_Ok p1_O X LX 128 p5y0_236 := ck_ok_s (ck_E1 (ck_S1 p5y0_234_s ck_S0) (ck_E1 (ck_S1 p5y0_235_s ck_S0) ck_E0)) ck_X0 ck_l0 p5y0_236_e
set_option maxRecDepth 100000 in
def p5y0_237 : ck_Sum := ((2, 0, 0), 245, [.inr (.inr (.inl 1)), .inl (ck_one 13), .inr (.inr (.inl 245))], ([], [], [(201, 13, 13, ck_one 0)]), ([(245, 0, 0)], []), [(.inr (some (.inl (ck_one 0))), 245, ([], [], [(245, 0, 0, ck_one 0)]))])
set_option maxRecDepth 100000 in
theorem p5y0_237_e : ck_ok p1_O none [] [(128, [p5y0_236])] 127 [] 90 p5y0_237 = true := by decide +kernel
theorem p5y0_237_s {X : Int → Int} {LX : Nat} : ck_Ok p1_O X LX 127 p5y0_237 := ck_ok_s (ck_E1 (ck_S1 p5y0_236_s ck_S0) ck_E0) ck_X0 ck_l0 p5y0_237_e
set_option maxRecDepth 100000 in
def p5y0_241 : ck_Sum := ((0, 0, 0), 245, [.inr (.inr (.inl 1)), .inl (ck_one 14)], ([], [], []), ([], []), [(.inr none, 245, ([], [], []))])
set_option maxRecDepth 100000 in
theorem p5y0_241_e : ck_ok p1_O none [] [] 129 [] 82 p5y0_241 = true := by decide +kernel
theorem p5y0_241_s {X : Int → Int} {LX : Nat} : ck_Ok p1_O X LX 129 p5y0_241 := ck_ok_s (ck_E0) ck_X0 ck_l0 p5y0_241_e
set_option maxRecDepth 100000 in
def p5y0_242 : ck_Sum := ((0, 0, 0), 245, [.inr (.inr (.inl 200)), .inl (ck_one 14)], ([], [], [(201, 14, 14, ck_one 5)]), ([], []), [(.inr (some (.inl (ck_one 5))), 245, ([], [], []))])
set_option maxRecDepth 100000 in
theorem p5y0_242_e : ck_ok p1_O none [] [] 34 [] 92 p5y0_242 = true := by decide +kernel
theorem p5y0_242_s {X : Int → Int} {LX : Nat} : ck_Ok p1_O X LX 34 p5y0_242 := ck_ok_s (ck_E0) ck_X0 ck_l0 p5y0_242_e
set_option maxRecDepth 100000 in
def p5y0_243 : ck_Sum := ((1, 0, 0), 245, [.inr (.inr (.inl 1)), .inl (ck_one 14)], ([], [], [(201, 14, 14, ck_one 5)]), ([], []), [(.inr (some (.inl (ck_one 5))), 245, ([], [], []))])
set_option maxRecDepth 100000 in
theorem p5y0_243_e : ck_ok p1_O none [] [(129, [p5y0_241]), (34, [p5y0_242])] 128 [] 86 p5y0_243 = true := by decide +kernel
theorem p5y0_243_s {X : Int → Int} {LX : Nat} : ck_Ok p1_O X LX 128 p5y0_243 := ck_ok_s (ck_E1 (ck_S1 p5y0_241_s ck_S0) (ck_E1 (ck_S1 p5y0_242_s ck_S0) ck_E0)) ck_X0 ck_l0 p5y0_243_e
set_option maxRecDepth 100000 in
def p5y0_244 : ck_Sum := ((2, 0, 0), 245, [.inr (.inr (.inl 1)), .inl (ck_one 14), .inr (.inr (.inl 245))], ([], [], [(201, 14, 14, ck_one 5)]), ([(245, 0, 0)], []), [(.inr (some (.inl (ck_one 0))), 245, ([], [], [(245, 0, 0, ck_one 5)]))])
set_option maxRecDepth 100000 in
theorem p5y0_244_e : ck_ok p1_O none [] [(128, [p5y0_243])] 127 [] 90 p5y0_244 = true := by decide +kernel
theorem p5y0_244_s {X : Int → Int} {LX : Nat} : ck_Ok p1_O X LX 127 p5y0_244 := ck_ok_s (ck_E1 (ck_S1 p5y0_243_s ck_S0) ck_E0) ck_X0 ck_l0 p5y0_244_e
set_option maxRecDepth 100000 in
def p5y0_248 : ck_Sum := ((0, 0, 0), 245, [.inr (.inr (.inl 1)), .inl (ck_one 15)], ([], [], []), ([], []), [(.inr none, 245, ([], [], []))])
set_option maxRecDepth 100000 in
theorem p5y0_248_e : ck_ok p1_O none [] [] 129 [] 82 p5y0_248 = true := by decide +kernel
theorem p5y0_248_s {X : Int → Int} {LX : Nat} : ck_Ok p1_O X LX 129 p5y0_248 := ck_ok_s (ck_E0) ck_X0 ck_l0 p5y0_248_e
set_option maxRecDepth 100000 in
def p5y0_249 : ck_Sum := ((0, 0, 0), 245, [.inr (.inr (.inl 200)), .inl (ck_one 15)], ([], [], [(201, 15, 15, ck_one 3)]), ([], []), [(.inr (some (.inl (ck_one 3))), 245, ([], [], []))])
set_option maxRecDepth 100000 in
theorem p5y0_249_e : ck_ok p1_O none [] [] 34 [] 92 p5y0_249 = true := by decide +kernel
theorem p5y0_249_s {X : Int → Int} {LX : Nat} : ck_Ok p1_O X LX 34 p5y0_249 := ck_ok_s (ck_E0) ck_X0 ck_l0 p5y0_249_e
set_option maxRecDepth 100000 in
def p5y0_250 : ck_Sum := ((1, 0, 0), 245, [.inr (.inr (.inl 1)), .inl (ck_one 15)], ([], [], [(201, 15, 15, ck_one 3)]), ([], []), [(.inr (some (.inl (ck_one 3))), 245, ([], [], []))])
set_option maxRecDepth 100000 in
theorem p5y0_250_e : ck_ok p1_O none [] [(129, [p5y0_248]), (34, [p5y0_249])] 128 [] 86 p5y0_250 = true := by decide +kernel
theorem p5y0_250_s {X : Int → Int} {LX : Nat} : ck_Ok p1_O X LX 128 p5y0_250 := ck_ok_s (ck_E1 (ck_S1 p5y0_248_s ck_S0) (ck_E1 (ck_S1 p5y0_249_s ck_S0) ck_E0)) ck_X0 ck_l0 p5y0_250_e
set_option maxRecDepth 100000 in
def p5y0_251 : ck_Sum := ((2, 0, 0), 245, [.inr (.inr (.inl 1)), .inl (ck_one 15), .inr (.inr (.inl 245))], ([], [], [(201, 15, 15, ck_one 3)]), ([(245, 0, 0)], []), [(.inr (some (.inl (ck_one 0))), 245, ([], [], [(245, 0, 0, ck_one 3)]))])
set_option maxRecDepth 100000 in
theorem p5y0_251_e : ck_ok p1_O none [] [(128, [p5y0_250])] 127 [] 90 p5y0_251 = true := by decide +kernel
theorem p5y0_251_s {X : Int → Int} {LX : Nat} : ck_Ok p1_O X LX 127 p5y0_251 := ck_ok_s (ck_E1 (ck_S1 p5y0_250_s ck_S0) ck_E0) ck_X0 ck_l0 p5y0_251_e
set_option maxRecDepth 100000 in
def p5y0_255 : ck_Sum := ((0, 0, 0), 245, [.inr (.inr (.inl 1)), .inl (ck_one 16)], ([], [], []), ([], []), [(.inr none, 245, ([], [], []))])
set_option maxRecDepth 100000 in
theorem p5y0_255_e : ck_ok p1_O none [] [] 129 [] 82 p5y0_255 = true := by decide +kernel
theorem p5y0_255_s {X : Int → Int} {LX : Nat} : ck_Ok p1_O X LX 129 p5y0_255 := ck_ok_s (ck_E0) ck_X0 ck_l0 p5y0_255_e
set_option maxRecDepth 100000 in
def p5y0_256 : ck_Sum := ((0, 0, 0), 245, [.inr (.inr (.inl 200)), .inl (ck_one 16)], ([], [], [(201, 16, 16, ck_one 9)]), ([], []), [(.inr (some (.inl (ck_one 9))), 245, ([], [], []))])
set_option maxRecDepth 100000 in
theorem p5y0_256_e : ck_ok p1_O none [] [] 34 [] 92 p5y0_256 = true := by decide +kernel
theorem p5y0_256_s {X : Int → Int} {LX : Nat} : ck_Ok p1_O X LX 34 p5y0_256 := ck_ok_s (ck_E0) ck_X0 ck_l0 p5y0_256_e
set_option maxRecDepth 100000 in
def p5y0_257 : ck_Sum := ((1, 0, 0), 245, [.inr (.inr (.inl 1)), .inl (ck_one 16)], ([], [], [(201, 16, 16, ck_one 9)]), ([], []), [(.inr (some (.inl (ck_one 9))), 245, ([], [], []))])
set_option maxRecDepth 100000 in
theorem p5y0_257_e : ck_ok p1_O none [] [(129, [p5y0_255]), (34, [p5y0_256])] 128 [] 86 p5y0_257 = true := by decide +kernel
theorem p5y0_257_s {X : Int → Int} {LX : Nat} : ck_Ok p1_O X LX 128 p5y0_257 := ck_ok_s (ck_E1 (ck_S1 p5y0_255_s ck_S0) (ck_E1 (ck_S1 p5y0_256_s ck_S0) ck_E0)) ck_X0 ck_l0 p5y0_257_e
set_option maxRecDepth 100000 in
def p5y0_258 : ck_Sum := ((2, 0, 0), 245, [.inr (.inr (.inl 1)), .inl (ck_one 16), .inr (.inr (.inl 245))], ([], [], [(201, 16, 16, ck_one 9)]), ([(245, 0, 0)], []), [(.inr (some (.inl (ck_one 0))), 245, ([], [], [(245, 0, 0, ck_one 9)]))])
set_option maxRecDepth 100000 in
theorem p5y0_258_e : ck_ok p1_O none [] [(128, [p5y0_257])] 127 [] 90 p5y0_258 = true := by decide +kernel
theorem p5y0_258_s {X : Int → Int} {LX : Nat} : ck_Ok p1_O X LX 127 p5y0_258 := ck_ok_s (ck_E1 (ck_S1 p5y0_257_s ck_S0) ck_E0) ck_X0 ck_l0 p5y0_258_e
set_option maxRecDepth 100000 in
def p5y0_262 : ck_Sum := ((0, 0, 0), 245, [.inr (.inr (.inl 1)), .inl (ck_one 17)], ([], [], []), ([], []), [(.inr none, 245, ([], [], []))])
set_option maxRecDepth 100000 in
theorem p5y0_262_e : ck_ok p1_O none [] [] 129 [] 82 p5y0_262 = true := by decide +kernel
theorem p5y0_262_s {X : Int → Int} {LX : Nat} : ck_Ok p1_O X LX 129 p5y0_262 := ck_ok_s (ck_E0) ck_X0 ck_l0 p5y0_262_e
set_option maxRecDepth 100000 in
def p5y0_263 : ck_Sum := ((0, 0, 0), 245, [.inr (.inr (.inl 200)), .inl (ck_one 17)], ([], [], [(201, 17, 17, ck_one 3)]), ([], []), [(.inr (some (.inl (ck_one 3))), 245, ([], [], []))])
set_option maxRecDepth 100000 in
theorem p5y0_263_e : ck_ok p1_O none [] [] 34 [] 92 p5y0_263 = true := by decide +kernel
theorem p5y0_263_s {X : Int → Int} {LX : Nat} : ck_Ok p1_O X LX 34 p5y0_263 := ck_ok_s (ck_E0) ck_X0 ck_l0 p5y0_263_e
set_option maxRecDepth 100000 in
def p5y0_264 : ck_Sum := ((1, 0, 0), 245, [.inr (.inr (.inl 1)), .inl (ck_one 17)], ([], [], [(201, 17, 17, ck_one 3)]), ([], []), [(.inr (some (.inl (ck_one 3))), 245, ([], [], []))])
set_option maxRecDepth 100000 in
theorem p5y0_264_e : ck_ok p1_O none [] [(129, [p5y0_262]), (34, [p5y0_263])] 128 [] 86 p5y0_264 = true := by decide +kernel
theorem p5y0_264_s {X : Int → Int} {LX : Nat} : ck_Ok p1_O X LX 128 p5y0_264 := ck_ok_s (ck_E1 (ck_S1 p5y0_262_s ck_S0) (ck_E1 (ck_S1 p5y0_263_s ck_S0) ck_E0)) ck_X0 ck_l0 p5y0_264_e
set_option maxRecDepth 100000 in
def p5y0_265 : ck_Sum := ((2, 0, 0), 245, [.inr (.inr (.inl 1)), .inl (ck_one 17), .inr (.inr (.inl 245))], ([], [], [(201, 17, 17, ck_one 3)]), ([(245, 0, 0)], []), [(.inr (some (.inl (ck_one 0))), 245, ([], [], [(245, 0, 0, ck_one 3)]))])
set_option maxRecDepth 100000 in
theorem p5y0_265_e : ck_ok p1_O none [] [(128, [p5y0_264])] 127 [] 90 p5y0_265 = true := by decide +kernel
theorem p5y0_265_s {X : Int → Int} {LX : Nat} : ck_Ok p1_O X LX 127 p5y0_265 := ck_ok_s (ck_E1 (ck_S1 p5y0_264_s ck_S0) ck_E0) ck_X0 ck_l0 p5y0_265_e
set_option maxRecDepth 100000 in
def p5y0_269 : ck_Sum := ((0, 0, 0), 245, [.inr (.inr (.inl 1)), .inl (ck_one 18)], ([], [], []), ([], []), [(.inr none, 245, ([], [], []))])
set_option maxRecDepth 100000 in
theorem p5y0_269_e : ck_ok p1_O none [] [] 129 [] 82 p5y0_269 = true := by decide +kernel
theorem p5y0_269_s {X : Int → Int} {LX : Nat} : ck_Ok p1_O X LX 129 p5y0_269 := ck_ok_s (ck_E0) ck_X0 ck_l0 p5y0_269_e
set_option maxRecDepth 100000 in
def p5y0_270 : ck_Sum := ((0, 0, 0), 245, [.inr (.inr (.inl 200)), .inl (ck_one 18)], ([], [], [(201, 18, 18, ck_one 7)]), ([], []), [(.inr (some (.inl (ck_one 7))), 245, ([], [], []))])
set_option maxRecDepth 100000 in
theorem p5y0_270_e : ck_ok p1_O none [] [] 34 [] 92 p5y0_270 = true := by decide +kernel
theorem p5y0_270_s {X : Int → Int} {LX : Nat} : ck_Ok p1_O X LX 34 p5y0_270 := ck_ok_s (ck_E0) ck_X0 ck_l0 p5y0_270_e
set_option maxRecDepth 100000 in
def p5y0_271 : ck_Sum := ((1, 0, 0), 245, [.inr (.inr (.inl 1)), .inl (ck_one 18)], ([], [], [(201, 18, 18, ck_one 7)]), ([], []), [(.inr (some (.inl (ck_one 7))), 245, ([], [], []))])
set_option maxRecDepth 100000 in
theorem p5y0_271_e : ck_ok p1_O none [] [(129, [p5y0_269]), (34, [p5y0_270])] 128 [] 86 p5y0_271 = true := by decide +kernel
theorem p5y0_271_s {X : Int → Int} {LX : Nat} : ck_Ok p1_O X LX 128 p5y0_271 := ck_ok_s (ck_E1 (ck_S1 p5y0_269_s ck_S0) (ck_E1 (ck_S1 p5y0_270_s ck_S0) ck_E0)) ck_X0 ck_l0 p5y0_271_e
set_option maxRecDepth 100000 in
def p5y0_272 : ck_Sum := ((2, 0, 0), 245, [.inr (.inr (.inl 1)), .inl (ck_one 18), .inr (.inr (.inl 245))], ([], [], [(201, 18, 18, ck_one 7)]), ([(245, 0, 0)], []), [(.inr (some (.inl (ck_one 0))), 245, ([], [], [(245, 0, 0, ck_one 7)]))])
set_option maxRecDepth 100000 in
theorem p5y0_272_e : ck_ok p1_O none [] [(128, [p5y0_271])] 127 [] 90 p5y0_272 = true := by decide +kernel
theorem p5y0_272_s {X : Int → Int} {LX : Nat} : ck_Ok p1_O X LX 127 p5y0_272 := ck_ok_s (ck_E1 (ck_S1 p5y0_271_s ck_S0) ck_E0) ck_X0 ck_l0 p5y0_272_e
set_option maxRecDepth 100000 in
def p5y0_276 : ck_Sum := ((0, 0, 0), 245, [.inr (.inr (.inl 1)), .inl (ck_one 19)], ([], [], []), ([], []), [(.inr none, 245, ([], [], []))])
set_option maxRecDepth 100000 in
theorem p5y0_276_e : ck_ok p1_O none [] [] 129 [] 82 p5y0_276 = true := by decide +kernel
theorem p5y0_276_s {X : Int → Int} {LX : Nat} : ck_Ok p1_O X LX 129 p5y0_276 := ck_ok_s (ck_E0) ck_X0 ck_l0 p5y0_276_e
set_option maxRecDepth 100000 in
def p5y0_277 : ck_Sum := ((0, 0, 0), 245, [.inr (.inr (.inl 200)), .inl (ck_one 19)], ([], [], [(201, 19, 19, ck_one 6)]), ([], []), [(.inr (some (.inl (ck_one 6))), 245, ([], [], []))])
set_option maxRecDepth 100000 in
theorem p5y0_277_e : ck_ok p1_O none [] [] 34 [] 92 p5y0_277 = true := by decide +kernel
theorem p5y0_277_s {X : Int → Int} {LX : Nat} : ck_Ok p1_O X LX 34 p5y0_277 := ck_ok_s (ck_E0) ck_X0 ck_l0 p5y0_277_e
set_option maxRecDepth 100000 in
def p5y0_278 : ck_Sum := ((1, 0, 0), 245, [.inr (.inr (.inl 1)), .inl (ck_one 19)], ([], [], [(201, 19, 19, ck_one 6)]), ([], []), [(.inr (some (.inl (ck_one 6))), 245, ([], [], []))])
set_option maxRecDepth 100000 in
theorem p5y0_278_e : ck_ok p1_O none [] [(129, [p5y0_276]), (34, [p5y0_277])] 128 [] 86 p5y0_278 = true := by decide +kernel
theorem p5y0_278_s {X : Int → Int} {LX : Nat} : ck_Ok p1_O X LX 128 p5y0_278 := ck_ok_s (ck_E1 (ck_S1 p5y0_276_s ck_S0) (ck_E1 (ck_S1 p5y0_277_s ck_S0) ck_E0)) ck_X0 ck_l0 p5y0_278_e
set_option maxRecDepth 100000 in
def p5y0_279 : ck_Sum := ((2, 0, 0), 245, [.inr (.inr (.inl 1)), .inl (ck_one 19), .inr (.inr (.inl 245))], ([], [], [(201, 19, 19, ck_one 6)]), ([(245, 0, 0)], []), [(.inr (some (.inl (ck_one 0))), 245, ([], [], [(245, 0, 0, ck_one 6)]))])
set_option maxRecDepth 100000 in
theorem p5y0_279_e : ck_ok p1_O none [] [(128, [p5y0_278])] 127 [] 90 p5y0_279 = true := by decide +kernel
theorem p5y0_279_s {X : Int → Int} {LX : Nat} : ck_Ok p1_O X LX 127 p5y0_279 := ck_ok_s (ck_E1 (ck_S1 p5y0_278_s ck_S0) ck_E0) ck_X0 ck_l0 p5y0_279_e
set_option maxRecDepth 100000 in
def p5y0_283 : ck_Sum := ((0, 0, 0), 245, [.inr (.inr (.inl 1)), .inl (ck_one 20)], ([], [], []), ([], []), [(.inr none, 245, ([], [], []))])
set_option maxRecDepth 100000 in
theorem p5y0_283_e : ck_ok p1_O none [] [] 129 [] 82 p5y0_283 = true := by decide +kernel
theorem p5y0_283_s {X : Int → Int} {LX : Nat} : ck_Ok p1_O X LX 129 p5y0_283 := ck_ok_s (ck_E0) ck_X0 ck_l0 p5y0_283_e
set_option maxRecDepth 100000 in
def p5y0_284 : ck_Sum := ((0, 0, 0), 245, [.inr (.inr (.inl 200)), .inl (ck_one 20)], ([], [], [(201, 20, 20, ck_one 6)]), ([], []), [(.inr (some (.inl (ck_one 6))), 245, ([], [], []))])
set_option maxRecDepth 100000 in
theorem p5y0_284_e : ck_ok p1_O none [] [] 34 [] 92 p5y0_284 = true := by decide +kernel
theorem p5y0_284_s {X : Int → Int} {LX : Nat} : ck_Ok p1_O X LX 34 p5y0_284 := ck_ok_s (ck_E0) ck_X0 ck_l0 p5y0_284_e
set_option maxRecDepth 100000 in
def p5y0_285 : ck_Sum := ((1, 0, 0), 245, [.inr (.inr (.inl 1)), .inl (ck_one 20)], ([], [], [(201, 20, 20, ck_one 6)]), ([], []), [(.inr (some (.inl (ck_one 6))), 245, ([], [], []))])
set_option maxRecDepth 100000 in
theorem p5y0_285_e : ck_ok p1_O none [] [(129, [p5y0_283]), (34, [p5y0_284])] 128 [] 86 p5y0_285 = true := by decide +kernel
theorem p5y0_285_s {X : Int → Int} {LX : Nat} : ck_Ok p1_O X LX 128 p5y0_285 := ck_ok_s (ck_E1 (ck_S1 p5y0_283_s ck_S0) (ck_E1 (ck_S1 p5y0_284_s ck_S0) ck_E0)) ck_X0 ck_l0 p5y0_285_e
set_option maxRecDepth 100000 in
def p5y0_286 : ck_Sum := ((2, 0, 0), 245, [.inr (.inr (.inl 1)), .inl (ck_one 20), .inr (.inr (.inl 245))], ([], [], [(201, 20, 20, ck_one 6)]), ([(245, 0, 0)], []), [(.inr (some (.inl (ck_one 0))), 245, ([], [], [(245, 0, 0, ck_one 6)]))])
set_option maxRecDepth 100000 in
theorem p5y0_286_e : ck_ok p1_O none [] [(128, [p5y0_285])] 127 [] 90 p5y0_286 = true := by decide +kernel
theorem p5y0_286_s {X : Int → Int} {LX : Nat} : ck_Ok p1_O X LX 127 p5y0_286 := ck_ok_s (ck_E1 (ck_S1 p5y0_285_s ck_S0) ck_E0) ck_X0 ck_l0 p5y0_286_e
set_option maxRecDepth 100000 in
def p5y0_290 : ck_Sum := ((0, 0, 0), 245, [.inr (.inr (.inl 1)), .inl (ck_one 21)], ([], [], []), ([], []), [(.inr none, 245, ([], [], []))])
set_option maxRecDepth 100000 in
theorem p5y0_290_e : ck_ok p1_O none [] [] 129 [] 82 p5y0_290 = true := by decide +kernel
theorem p5y0_290_s {X : Int → Int} {LX : Nat} : ck_Ok p1_O X LX 129 p5y0_290 := ck_ok_s (ck_E0) ck_X0 ck_l0 p5y0_290_e
set_option maxRecDepth 100000 in
def p5y0_291 : ck_Sum := ((0, 0, 0), 245, [.inr (.inr (.inl 200)), .inl (ck_one 21)], ([], [], [(201, 21, 21, ck_one 8)]), ([], []), [(.inr (some (.inl (ck_one 8))), 245, ([], [], []))])
set_option maxRecDepth 100000 in
theorem p5y0_291_e : ck_ok p1_O none [] [] 34 [] 92 p5y0_291 = true := by decide +kernel
theorem p5y0_291_s {X : Int → Int} {LX : Nat} : ck_Ok p1_O X LX 34 p5y0_291 := ck_ok_s (ck_E0) ck_X0 ck_l0 p5y0_291_e
set_option maxRecDepth 100000 in
def p5y0_292 : ck_Sum := ((1, 0, 0), 245, [.inr (.inr (.inl 1)), .inl (ck_one 21)], ([], [], [(201, 21, 21, ck_one 8)]), ([], []), [(.inr (some (.inl (ck_one 8))), 245, ([], [], []))])
set_option maxRecDepth 100000 in
theorem p5y0_292_e : ck_ok p1_O none [] [(129, [p5y0_290]), (34, [p5y0_291])] 128 [] 86 p5y0_292 = true := by decide +kernel
theorem p5y0_292_s {X : Int → Int} {LX : Nat} : ck_Ok p1_O X LX 128 p5y0_292 := ck_ok_s (ck_E1 (ck_S1 p5y0_290_s ck_S0) (ck_E1 (ck_S1 p5y0_291_s ck_S0) ck_E0)) ck_X0 ck_l0 p5y0_292_e
set_option maxRecDepth 100000 in
def p5y0_293 : ck_Sum := ((2, 0, 0), 245, [.inr (.inr (.inl 1)), .inl (ck_one 21), .inr (.inr (.inl 245))], ([], [], [(201, 21, 21, ck_one 8)]), ([(245, 0, 0)], []), [(.inr (some (.inl (ck_one 0))), 245, ([], [], [(245, 0, 0, ck_one 8)]))])
set_option maxRecDepth 100000 in
theorem p5y0_293_e : ck_ok p1_O none [] [(128, [p5y0_292])] 127 [] 90 p5y0_293 = true := by decide +kernel
theorem p5y0_293_s {X : Int → Int} {LX : Nat} : ck_Ok p1_O X LX 127 p5y0_293 := ck_ok_s (ck_E1 (ck_S1 p5y0_292_s ck_S0) ck_E0) ck_X0 ck_l0 p5y0_293_e
set_option maxRecDepth 100000 in
def p5y0_297 : ck_Sum := ((0, 0, 0), 245, [.inr (.inr (.inl 1)), .inl (ck_one 22)], ([], [], []), ([], []), [(.inr none, 245, ([], [], []))])
set_option maxRecDepth 100000 in
theorem p5y0_297_e : ck_ok p1_O none [] [] 129 [] 82 p5y0_297 = true := by decide +kernel
theorem p5y0_297_s {X : Int → Int} {LX : Nat} : ck_Ok p1_O X LX 129 p5y0_297 := ck_ok_s (ck_E0) ck_X0 ck_l0 p5y0_297_e
set_option maxRecDepth 100000 in
def p5y0_298 : ck_Sum := ((0, 0, 0), 245, [.inr (.inr (.inl 200)), .inl (ck_one 22)], ([], [], [(201, 22, 22, ck_one 5)]), ([], []), [(.inr (some (.inl (ck_one 5))), 245, ([], [], []))])
set_option maxRecDepth 100000 in
theorem p5y0_298_e : ck_ok p1_O none [] [] 34 [] 92 p5y0_298 = true := by decide +kernel
theorem p5y0_298_s {X : Int → Int} {LX : Nat} : ck_Ok p1_O X LX 34 p5y0_298 := ck_ok_s (ck_E0) ck_X0 ck_l0 p5y0_298_e
set_option maxRecDepth 100000 in
def p5y0_299 : ck_Sum := ((1, 0, 0), 245, [.inr (.inr (.inl 1)), .inl (ck_one 22)], ([], [], [(201, 22, 22, ck_one 5)]), ([], []), [(.inr (some (.inl (ck_one 5))), 245, ([], [], []))])
set_option maxRecDepth 100000 in
theorem p5y0_299_e : ck_ok p1_O none [] [(129, [p5y0_297]), (34, [p5y0_298])] 128 [] 86 p5y0_299 = true := by decide +kernel
theorem p5y0_299_s {X : Int → Int} {LX : Nat} : ck_Ok p1_O X LX 128 p5y0_299 := ck_ok_s (ck_E1 (ck_S1 p5y0_297_s ck_S0) (ck_E1 (ck_S1 p5y0_298_s ck_S0) ck_E0)) ck_X0 ck_l0 p5y0_299_e
set_option maxRecDepth 100000 in
def p5y0_300 : ck_Sum := ((2, 0, 0), 245, [.inr (.inr (.inl 1)), .inl (ck_one 22), .inr (.inr (.inl 245))], ([], [], [(201, 22, 22, ck_one 5)]), ([(245, 0, 0)], []), [(.inr (some (.inl (ck_one 0))), 245, ([], [], [(245, 0, 0, ck_one 5)]))])
set_option maxRecDepth 100000 in
theorem p5y0_300_e : ck_ok p1_O none [] [(128, [p5y0_299])] 127 [] 90 p5y0_300 = true := by decide +kernel
theorem p5y0_300_s {X : Int → Int} {LX : Nat} : ck_Ok p1_O X LX 127 p5y0_300 := ck_ok_s (ck_E1 (ck_S1 p5y0_299_s ck_S0) ck_E0) ck_X0 ck_l0 p5y0_300_e
set_option maxRecDepth 100000 in
def p5y0_304 : ck_Sum := ((0, 0, 0), 245, [.inr (.inr (.inl 1)), .inl (ck_one 23)], ([], [], []), ([], []), [(.inr none, 245, ([], [], []))])
set_option maxRecDepth 100000 in
theorem p5y0_304_e : ck_ok p1_O none [] [] 129 [] 82 p5y0_304 = true := by decide +kernel
theorem p5y0_304_s {X : Int → Int} {LX : Nat} : ck_Ok p1_O X LX 129 p5y0_304 := ck_ok_s (ck_E0) ck_X0 ck_l0 p5y0_304_e
set_option maxRecDepth 100000 in
def p5y0_305 : ck_Sum := ((0, 0, 0), 245, [.inr (.inr (.inl 200)), .inl (ck_one 23)], ([], [], [(201, 23, 23, ck_one 1)]), ([], []), [(.inr (some (.inl (ck_one 1))), 245, ([], [], []))])
set_option maxRecDepth 100000 in
theorem p5y0_305_e : ck_ok p1_O none [] [] 34 [] 92 p5y0_305 = true := by decide +kernel
theorem p5y0_305_s {X : Int → Int} {LX : Nat} : ck_Ok p1_O X LX 34 p5y0_305 := ck_ok_s (ck_E0) ck_X0 ck_l0 p5y0_305_e
set_option maxRecDepth 100000 in
def p5y0_306 : ck_Sum := ((1, 0, 0), 245, [.inr (.inr (.inl 1)), .inl (ck_one 23)], ([], [], [(201, 23, 23, ck_one 1)]), ([], []), [(.inr (some (.inl (ck_one 1))), 245, ([], [], []))])
set_option maxRecDepth 100000 in
theorem p5y0_306_e : ck_ok p1_O none [] [(129, [p5y0_304]), (34, [p5y0_305])] 128 [] 86 p5y0_306 = true := by decide +kernel
theorem p5y0_306_s {X : Int → Int} {LX : Nat} : ck_Ok p1_O X LX 128 p5y0_306 := ck_ok_s (ck_E1 (ck_S1 p5y0_304_s ck_S0) (ck_E1 (ck_S1 p5y0_305_s ck_S0) ck_E0)) ck_X0 ck_l0 p5y0_306_e
set_option maxRecDepth 100000 in
def p5y0_307 : ck_Sum := ((2, 0, 0), 245, [.inr (.inr (.inl 1)), .inl (ck_one 23), .inr (.inr (.inl 245))], ([], [], [(201, 23, 23, ck_one 1)]), ([(245, 0, 0)], []), [(.inr (some (.inl (ck_one 0))), 245, ([], [], [(245, 0, 0, ck_one 1)]))])
set_option maxRecDepth 100000 in
theorem p5y0_307_e : ck_ok p1_O none [] [(128, [p5y0_306])] 127 [] 90 p5y0_307 = true := by decide +kernel
theorem p5y0_307_s {X : Int → Int} {LX : Nat} : ck_Ok p1_O X LX 127 p5y0_307 := ck_ok_s (ck_E1 (ck_S1 p5y0_306_s ck_S0) ck_E0) ck_X0 ck_l0 p5y0_307_e
set_option maxRecDepth 100000 in
def p5y0_311 : ck_Sum := ((0, 0, 0), 245, [.inr (.inr (.inl 1)), .inl (ck_one 24)], ([], [], []), ([], []), [(.inr none, 245, ([], [], []))])
set_option maxRecDepth 100000 in
theorem p5y0_311_e : ck_ok p1_O none [] [] 129 [] 82 p5y0_311 = true := by decide +kernel
theorem p5y0_311_s {X : Int → Int} {LX : Nat} : ck_Ok p1_O X LX 129 p5y0_311 := ck_ok_s (ck_E0) ck_X0 ck_l0 p5y0_311_e
set_option maxRecDepth 100000 in
def p5y0_312 : ck_Sum := ((0, 0, 0), 245, [.inr (.inr (.inl 200)), .inl (ck_one 24)], ([], [], [(201, 24, 24, ck_one 7)]), ([], []), [(.inr (some (.inl (ck_one 7))), 245, ([], [], []))])
set_option maxRecDepth 100000 in
theorem p5y0_312_e : ck_ok p1_O none [] [] 34 [] 92 p5y0_312 = true := by decide +kernel
theorem p5y0_312_s {X : Int → Int} {LX : Nat} : ck_Ok p1_O X LX 34 p5y0_312 := ck_ok_s (ck_E0) ck_X0 ck_l0 p5y0_312_e
set_option maxRecDepth 100000 in
def p5y0_313 : ck_Sum := ((1, 0, 0), 245, [.inr (.inr (.inl 1)), .inl (ck_one 24)], ([], [], [(201, 24, 24, ck_one 7)]), ([], []), [(.inr (some (.inl (ck_one 7))), 245, ([], [], []))])
set_option maxRecDepth 100000 in
theorem p5y0_313_e : ck_ok p1_O none [] [(129, [p5y0_311]), (34, [p5y0_312])] 128 [] 86 p5y0_313 = true := by decide +kernel
theorem p5y0_313_s {X : Int → Int} {LX : Nat} : ck_Ok p1_O X LX 128 p5y0_313 := ck_ok_s (ck_E1 (ck_S1 p5y0_311_s ck_S0) (ck_E1 (ck_S1 p5y0_312_s ck_S0) ck_E0)) ck_X0 ck_l0 p5y0_313_e
set_option maxRecDepth 100000 in
def p5y0_314 : ck_Sum := ((2, 0, 0), 245, [.inr (.inr (.inl 1)), .inl (ck_one 24), .inr (.inr (.inl 245))], ([], [], [(201, 24, 24, ck_one 7)]), ([(245, 0, 0)], []), [(.inr (some (.inl (ck_one 0))), 245, ([], [], [(245, 0, 0, ck_one 7)]))])
set_option maxRecDepth 100000 in
theorem p5y0_314_e : ck_ok p1_O none [] [(128, [p5y0_313])] 127 [] 90 p5y0_314 = true := by decide +kernel
theorem p5y0_314_s {X : Int → Int} {LX : Nat} : ck_Ok p1_O X LX 127 p5y0_314 := ck_ok_s (ck_E1 (ck_S1 p5y0_313_s ck_S0) ck_E0) ck_X0 ck_l0 p5y0_314_e
set_option maxRecDepth 100000 in
def p5y0_318 : ck_Sum := ((0, 0, 0), 245, [.inr (.inr (.inl 1)), .inl (ck_one 25)], ([], [], []), ([], []), [(.inr none, 245, ([], [], []))])
set_option maxRecDepth 100000 in
theorem p5y0_318_e : ck_ok p1_O none [] [] 129 [] 82 p5y0_318 = true := by decide +kernel
theorem p5y0_318_s {X : Int → Int} {LX : Nat} : ck_Ok p1_O X LX 129 p5y0_318 := ck_ok_s (ck_E0) ck_X0 ck_l0 p5y0_318_e
set_option maxRecDepth 100000 in
def p5y0_319 : ck_Sum := ((0, 0, 0), 245, [.inr (.inr (.inl 200)), .inl (ck_one 25)], ([], [], [(201, 25, 25, ck_one 4)]), ([], []), [(.inr (some (.inl (ck_one 4))), 245, ([], [], []))])
set_option maxRecDepth 100000 in
theorem p5y0_319_e : ck_ok p1_O none [] [] 34 [] 92 p5y0_319 = true := by decide +kernel
theorem p5y0_319_s {X : Int → Int} {LX : Nat} : ck_Ok p1_O X LX 34 p5y0_319 := ck_ok_s (ck_E0) ck_X0 ck_l0 p5y0_319_e
set_option maxRecDepth 100000 in
def p5y0_320 : ck_Sum := ((1, 0, 0), 245, [.inr (.inr (.inl 1)), .inl (ck_one 25)], ([], [], [(201, 25, 25, ck_one 4)]), ([], []), [(.inr (some (.inl (ck_one 4))), 245, ([], [], []))])
set_option maxRecDepth 100000 in
theorem p5y0_320_e : ck_ok p1_O none [] [(129, [p5y0_318]), (34, [p5y0_319])] 128 [] 86 p5y0_320 = true := by decide +kernel
theorem p5y0_320_s {X : Int → Int} {LX : Nat} : ck_Ok p1_O X LX 128 p5y0_320 := ck_ok_s (ck_E1 (ck_S1 p5y0_318_s ck_S0) (ck_E1 (ck_S1 p5y0_319_s ck_S0) ck_E0)) ck_X0 ck_l0 p5y0_320_e
set_option maxRecDepth 100000 in
def p5y0_321 : ck_Sum := ((2, 0, 0), 245, [.inr (.inr (.inl 1)), .inl (ck_one 25), .inr (.inr (.inl 245))], ([], [], [(201, 25, 25, ck_one 4)]), ([(245, 0, 0)], []), [(.inr (some (.inl (ck_one 0))), 245, ([], [], [(245, 0, 0, ck_one 4)]))])
set_option maxRecDepth 100000 in
theorem p5y0_321_e : ck_ok p1_O none [] [(128, [p5y0_320])] 127 [] 90 p5y0_321 = true := by decide +kernel
theorem p5y0_321_s {X : Int → Int} {LX : Nat} : ck_Ok p1_O X LX 127 p5y0_321 := ck_ok_s (ck_E1 (ck_S1 p5y0_320_s ck_S0) ck_E0) ck_X0 ck_l0 p5y0_321_e
set_option maxRecDepth 100000 in
def p5y0_325 : ck_Sum := ((0, 0, 0), 245, [.inr (.inr (.inl 1)), .inl (ck_one 26)], ([], [], []), ([], []), [(.inr none, 245, ([], [], []))])
set_option maxRecDepth 100000 in
theorem p5y0_325_e : ck_ok p1_O none [] [] 129 [] 82 p5y0_325 = true := by decide +kernel
theorem p5y0_325_s {X : Int → Int} {LX : Nat} : ck_Ok p1_O X LX 129 p5y0_325 := ck_ok_s (ck_E0) ck_X0 ck_l0 p5y0_325_e
set_option maxRecDepth 100000 in
def p5y0_326 : ck_Sum := ((0, 0, 0), 245, [.inr (.inr (.inl 200)), .inl (ck_one 26)], ([], [], [(201, 26, 26, ck_one 1)]), ([], []), [(.inr (some (.inl (ck_one 1))), 245, ([], [], []))])
set_option maxRecDepth 100000 in
theorem p5y0_326_e : ck_ok p1_O none [] [] 34 [] 92 p5y0_326 = true := by decide +kernel
theorem p5y0_326_s {X : Int → Int} {LX : Nat} : ck_Ok p1_O X LX 34 p5y0_326 := ck_ok_s (ck_E0) ck_X0 ck_l0 p5y0_326_e
set_option maxRecDepth 100000 in
def p5y0_327 : ck_Sum := ((1, 0, 0), 245, [.inr (.inr (.inl 1)), .inl (ck_one 26)], ([], [], [(201, 26, 26, ck_one 1)]), ([], []), [(.inr (some (.inl (ck_one 1))), 245, ([], [], []))])
set_option maxRecDepth 100000 in
theorem p5y0_327_e : ck_ok p1_O none [] [(129, [p5y0_325]), (34, [p5y0_326])] 128 [] 86 p5y0_327 = true := by decide +kernel
theorem p5y0_327_s {X : Int → Int} {LX : Nat} : ck_Ok p1_O X LX 128 p5y0_327 := ck_ok_s (ck_E1 (ck_S1 p5y0_325_s ck_S0) (ck_E1 (ck_S1 p5y0_326_s ck_S0) ck_E0)) ck_X0 ck_l0 p5y0_327_e
set_option maxRecDepth 100000 in
def p5y0_328 : ck_Sum := ((2, 0, 0), 245, [.inr (.inr (.inl 1)), .inl (ck_one 26), .inr (.inr (.inl 245))], ([], [], [(201, 26, 26, ck_one 1)]), ([(245, 0, 0)], []), [(.inr (some (.inl (ck_one 0))), 245, ([], [], [(245, 0, 0, ck_one 1)]))])
set_option maxRecDepth 100000 in
theorem p5y0_328_e : ck_ok p1_O none [] [(128, [p5y0_327])] 127 [] 90 p5y0_328 = true := by decide +kernel
theorem p5y0_328_s {X : Int → Int} {LX : Nat} : ck_Ok p1_O X LX 127 p5y0_328 := ck_ok_s (ck_E1 (ck_S1 p5y0_327_s ck_S0) ck_E0) ck_X0 ck_l0 p5y0_328_e
set_option maxRecDepth 100000 in
def p5y0_332 : ck_Sum := ((0, 0, 0), 245, [.inr (.inr (.inl 1)), .inl (ck_one 27)], ([], [], []), ([], []), [(.inr none, 245, ([], [], []))])
set_option maxRecDepth 100000 in
theorem p5y0_332_e : ck_ok p1_O none [] [] 129 [] 82 p5y0_332 = true := by decide +kernel
theorem p5y0_332_s {X : Int → Int} {LX : Nat} : ck_Ok p1_O X LX 129 p5y0_332 := ck_ok_s (ck_E0) ck_X0 ck_l0 p5y0_332_e
set_option maxRecDepth 100000 in
def p5y0_333 : ck_Sum := ((0, 0, 0), 245, [.inr (.inr (.inl 200)), .inl (ck_one 27)], ([], [], [(201, 27, 27, ck_one 5)]), ([], []), [(.inr (some (.inl (ck_one 5))), 245, ([], [], []))])
set_option maxRecDepth 100000 in
theorem p5y0_333_e : ck_ok p1_O none [] [] 34 [] 92 p5y0_333 = true := by decide +kernel
theorem p5y0_333_s {X : Int → Int} {LX : Nat} : ck_Ok p1_O X LX 34 p5y0_333 := ck_ok_s (ck_E0) ck_X0 ck_l0 p5y0_333_e
set_option maxRecDepth 100000 in
def p5y0_334 : ck_Sum := ((1, 0, 0), 245, [.inr (.inr (.inl 1)), .inl (ck_one 27)], ([], [], [(201, 27, 27, ck_one 5)]), ([], []), [(.inr (some (.inl (ck_one 5))), 245, ([], [], []))])
set_option maxRecDepth 100000 in
theorem p5y0_334_e : ck_ok p1_O none [] [(129, [p5y0_332]), (34, [p5y0_333])] 128 [] 86 p5y0_334 = true := by decide +kernel
theorem p5y0_334_s {X : Int → Int} {LX : Nat} : ck_Ok p1_O X LX 128 p5y0_334 := ck_ok_s (ck_E1 (ck_S1 p5y0_332_s ck_S0) (ck_E1 (ck_S1 p5y0_333_s ck_S0) ck_E0)) ck_X0 ck_l0 p5y0_334_e
set_option maxRecDepth 100000 in
def p5y0_335 : ck_Sum := ((2, 0, 0), 245, [.inr (.inr (.inl 1)), .inl (ck_one 27), .inr (.inr (.inl 245))], ([], [], [(201, 27, 27, ck_one 5)]), ([(245, 0, 0)], []), [(.inr (some (.inl (ck_one 0))), 245, ([], [], [(245, 0, 0, ck_one 5)]))])
set_option maxRecDepth 100000 in
theorem p5y0_335_e : ck_ok p1_O none [] [(128, [p5y0_334])] 127 [] 90 p5y0_335 = true := by decide +kernel
theorem p5y0_335_s {X : Int → Int} {LX : Nat} : ck_Ok p1_O X LX 127 p5y0_335 := ck_ok_s (ck_E1 (ck_S1 p5y0_334_s ck_S0) ck_E0) ck_X0 ck_l0 p5y0_335_e
set_option maxRecDepth 100000 in
def p5y0_339 : ck_Sum := ((0, 0, 0), 245, [.inr (.inr (.inl 1)), .inl (ck_one 28)], ([], [], []), ([], []), [(.inr none, 245, ([], [], []))])
set_option maxRecDepth 100000 in
theorem p5y0_339_e : ck_ok p1_O none [] [] 129 [] 82 p5y0_339 = true := by decide +kernel
theorem p5y0_339_s {X : Int → Int} {LX : Nat} : ck_Ok p1_O X LX 129 p5y0_339 := ck_ok_s (ck_E0) ck_X0 ck_l0 p5y0_339_e
set_option maxRecDepth 100000 in
def p5y0_340 : ck_Sum := ((0, 0, 0), 245, [.inr (.inr (.inl 200)), .inl (ck_one 28)], ([], [], [(201, 28, 28, ck_one 2)]), ([], []), [(.inr (some (.inl (ck_one 2))), 245, ([], [], []))])
set_option maxRecDepth 100000 in
theorem p5y0_340_e : ck_ok p1_O none [] [] 34 [] 92 p5y0_340 = true := by decide +kernel
theorem p5y0_340_s {X : Int → Int} {LX : Nat} : ck_Ok p1_O X LX 34 p5y0_340 := ck_ok_s (ck_E0) ck_X0 ck_l0 p5y0_340_e
set_option maxRecDepth 100000 in
def p5y0_341 : ck_Sum := ((1, 0, 0), 245, [.inr (.inr (.inl 1)), .inl (ck_one 28)], ([], [], [(201, 28, 28, ck_one 2)]), ([], []), [(.inr (some (.inl (ck_one 2))), 245, ([], [], []))])
set_option maxRecDepth 100000 in
theorem p5y0_341_e : ck_ok p1_O none [] [(129, [p5y0_339]), (34, [p5y0_340])] 128 [] 86 p5y0_341 = true := by decide +kernel
theorem p5y0_341_s {X : Int → Int} {LX : Nat} : ck_Ok p1_O X LX 128 p5y0_341 := ck_ok_s (ck_E1 (ck_S1 p5y0_339_s ck_S0) (ck_E1 (ck_S1 p5y0_340_s ck_S0) ck_E0)) ck_X0 ck_l0 p5y0_341_e
set_option maxRecDepth 100000 in
def p5y0_342 : ck_Sum := ((2, 0, 0), 245, [.inr (.inr (.inl 1)), .inl (ck_one 28), .inr (.inr (.inl 245))], ([], [], [(201, 28, 28, ck_one 2)]), ([(245, 0, 0)], []), [(.inr (some (.inl (ck_one 0))), 245, ([], [], [(245, 0, 0, ck_one 2)]))])
set_option maxRecDepth 100000 in
theorem p5y0_342_e : ck_ok p1_O none [] [(128, [p5y0_341])] 127 [] 90 p5y0_342 = true := by decide +kernel
theorem p5y0_342_s {X : Int → Int} {LX : Nat} : ck_Ok p1_O X LX 127 p5y0_342 := ck_ok_s (ck_E1 (ck_S1 p5y0_341_s ck_S0) ck_E0) ck_X0 ck_l0 p5y0_342_e
set_option maxRecDepth 100000 in
def p5y0_346 : ck_Sum := ((0, 0, 0), 245, [.inr (.inr (.inl 1)), .inl (ck_one 29)], ([], [], []), ([], []), [(.inr none, 245, ([], [], []))])
set_option maxRecDepth 100000 in
theorem p5y0_346_e : ck_ok p1_O none [] [] 129 [] 82 p5y0_346 = true := by decide +kernel
theorem p5y0_346_s {X : Int → Int} {LX : Nat} : ck_Ok p1_O X LX 129 p5y0_346 := ck_ok_s (ck_E0) ck_X0 ck_l0 p5y0_346_e
set_option maxRecDepth 100000 in
def p5y0_347 : ck_Sum := ((0, 0, 0), 245, [.inr (.inr (.inl 200)), .inl (ck_one 29)], ([], [], [(201, 29, 29, ck_one 6)]), ([], []), [(.inr (some (.inl (ck_one 6))), 245, ([], [], []))])
set_option maxRecDepth 100000 in
theorem p5y0_347_e : ck_ok p1_O none [] [] 34 [] 92 p5y0_347 = true := by decide +kernel
theorem p5y0_347_s {X : Int → Int} {LX : Nat} : ck_Ok p1_O X LX 34 p5y0_347 := ck_ok_s (ck_E0) ck_X0 ck_l0 p5y0_347_e
set_option maxRecDepth 100000 in
def p5y0_348 : ck_Sum := ((1, 0, 0), 245, [.inr (.inr (.inl 1)), .inl (ck_one 29)], ([], [], [(201, 29, 29, ck_one 6)]), ([], []), [(.inr (some (.inl (ck_one 6))), 245, ([], [], []))])
set_option maxRecDepth 100000 in
theorem p5y0_348_e : ck_ok p1_O none [] [(129, [p5y0_346]), (34, [p5y0_347])] 128 [] 86 p5y0_348 = true := by decide +kernel
theorem p5y0_348_s {X : Int → Int} {LX : Nat} : ck_Ok p1_O X LX 128 p5y0_348 := ck_ok_s (ck_E1 (ck_S1 p5y0_346_s ck_S0) (ck_E1 (ck_S1 p5y0_347_s ck_S0) ck_E0)) ck_X0 ck_l0 p5y0_348_e
set_option maxRecDepth 100000 in
def p5y0_349 : ck_Sum := ((2, 0, 0), 245, [.inr (.inr (.inl 1)), .inl (ck_one 29), .inr (.inr (.inl 245))], ([], [], [(201, 29, 29, ck_one 6)]), ([(245, 0, 0)], []), [(.inr (some (.inl (ck_one 0))), 245, ([], [], [(245, 0, 0, ck_one 6)]))])
set_option maxRecDepth 100000 in
theorem p5y0_349_e : ck_ok p1_O none [] [(128, [p5y0_348])] 127 [] 90 p5y0_349 = true := by decide +kernel
theorem p5y0_349_s {X : Int → Int} {LX : Nat} : ck_Ok p1_O X LX 127 p5y0_349 := ck_ok_s (ck_E1 (ck_S1 p5y0_348_s ck_S0) ck_E0) ck_X0 ck_l0 p5y0_349_e
set_option maxRecDepth 100000 in
def p5y0_353 : ck_Sum := ((0, 0, 0), 245, [.inr (.inr (.inl 1)), .inl (ck_one 30)], ([], [], []), ([], []), [(.inr none, 245, ([], [], []))])
set_option maxRecDepth 100000 in
theorem p5y0_353_e : ck_ok p1_O none [] [] 129 [] 82 p5y0_353 = true := by decide +kernel
theorem p5y0_353_s {X : Int → Int} {LX : Nat} : ck_Ok p1_O X LX 129 p5y0_353 := ck_ok_s (ck_E0) ck_X0 ck_l0 p5y0_353_e
set_option maxRecDepth 100000 in
def p5y0_354 : ck_Sum := ((0, 0, 0), 245, [.inr (.inr (.inl 200)), .inl (ck_one 30)], ([], [], [(201, 30, 30, ck_one 4)]), ([], []), [(.inr (some (.inl (ck_one 4))), 245, ([], [], []))])
set_option maxRecDepth 100000 in
theorem p5y0_354_e : ck_ok p1_O none [] [] 34 [] 92 p5y0_354 = true := by decide +kernel
theorem p5y0_354_s {X : Int → Int} {LX : Nat} : ck_Ok p1_O X LX 34 p5y0_354 := ck_ok_s (ck_E0) ck_X0 ck_l0 p5y0_354_e
set_option maxRecDepth 100000 in
def p5y0_355 : ck_Sum := ((1, 0, 0), 245, [.inr (.inr (.inl 1)), .inl (ck_one 30)], ([], [], [(201, 30, 30, ck_one 4)]), ([], []), [(.inr (some (.inl (ck_one 4))), 245, ([], [], []))])
set_option maxRecDepth 100000 in
theorem p5y0_355_e : ck_ok p1_O none [] [(129, [p5y0_353]), (34, [p5y0_354])] 128 [] 86 p5y0_355 = true := by decide +kernel
theorem p5y0_355_s {X : Int → Int} {LX : Nat} : ck_Ok p1_O X LX 128 p5y0_355 := ck_ok_s (ck_E1 (ck_S1 p5y0_353_s ck_S0) (ck_E1 (ck_S1 p5y0_354_s ck_S0) ck_E0)) ck_X0 ck_l0 p5y0_355_e
set_option maxRecDepth 100000 in
def p5y0_356 : ck_Sum := ((2, 0, 0), 245, [.inr (.inr (.inl 1)), .inl (ck_one 30), .inr (.inr (.inl 245))], ([], [], [(201, 30, 30, ck_one 4)]), ([(245, 0, 0)], []), [(.inr (some (.inl (ck_one 0))), 245, ([], [], [(245, 0, 0, ck_one 4)]))])
set_option maxRecDepth 100000 in
theorem p5y0_356_e : ck_ok p1_O none [] [(128, [p5y0_355])] 127 [] 90 p5y0_356 = true := by decide +kernel
theorem p5y0_356_s {X : Int → Int} {LX : Nat} : ck_Ok p1_O X LX 127 p5y0_356 := ck_ok_s (ck_E1 (ck_S1 p5y0_355_s ck_S0) ck_E0) ck_X0 ck_l0 p5y0_356_e
set_option maxRecDepth 100000 in
def p5y0_360 : ck_Sum := ((0, 0, 0), 245, [.inr (.inr (.inl 1)), .inl (ck_one 31)], ([], [], []), ([], []), [(.inr none, 245, ([], [], []))])
set_option maxRecDepth 100000 in
theorem p5y0_360_e : ck_ok p1_O none [] [] 129 [] 82 p5y0_360 = true := by decide +kernel
theorem p5y0_360_s {X : Int → Int} {LX : Nat} : ck_Ok p1_O X LX 129 p5y0_360 := ck_ok_s (ck_E0) ck_X0 ck_l0 p5y0_360_e
set_option maxRecDepth 100000 in
def p5y0_361 : ck_Sum := ((0, 0, 0), 245, [.inr (.inr (.inl 200)), .inl (ck_one 31)], ([], [], [(201, 31, 31, ck_one 5)]), ([], []), [(.inr (some (.inl (ck_one 5))), 245, ([], [], []))])
set_option maxRecDepth 100000 in
theorem p5y0_361_e : ck_ok p1_O none [] [] 34 [] 92 p5y0_361 = true := by decide +kernel
theorem p5y0_361_s {X : Int → Int} {LX : Nat} : ck_Ok p1_O X LX 34 p5y0_361 := ck_ok_s (ck_E0) ck_X0 ck_l0 p5y0_361_e
set_option maxRecDepth 100000 in
def p5y0_362 : ck_Sum := ((1, 0, 0), 245, [.inr (.inr (.inl 1)), .inl (ck_one 31)], ([], [], [(201, 31, 31, ck_one 5)]), ([], []), [(.inr (some (.inl (ck_one 5))), 245, ([], [], []))])
set_option maxRecDepth 100000 in
theorem p5y0_362_e : ck_ok p1_O none [] [(129, [p5y0_360]), (34, [p5y0_361])] 128 [] 86 p5y0_362 = true := by decide +kernel
theorem p5y0_362_s {X : Int → Int} {LX : Nat} : ck_Ok p1_O X LX 128 p5y0_362 := ck_ok_s (ck_E1 (ck_S1 p5y0_360_s ck_S0) (ck_E1 (ck_S1 p5y0_361_s ck_S0) ck_E0)) ck_X0 ck_l0 p5y0_362_e
set_option maxRecDepth 100000 in
def p5y0_363 : ck_Sum := ((2, 0, 0), 245, [.inr (.inr (.inl 1)), .inl (ck_one 31), .inr (.inr (.inl 245))], ([], [], [(201, 31, 31, ck_one 5)]), ([(245, 0, 0)], []), [(.inr (some (.inl (ck_one 0))), 245, ([], [], [(245, 0, 0, ck_one 5)]))])
set_option maxRecDepth 100000 in
theorem p5y0_363_e : ck_ok p1_O none [] [(128, [p5y0_362])] 127 [] 90 p5y0_363 = true := by decide +kernel
theorem p5y0_363_s {X : Int → Int} {LX : Nat} : ck_Ok p1_O X LX 127 p5y0_363 := ck_ok_s (ck_E1 (ck_S1 p5y0_362_s ck_S0) ck_E0) ck_X0 ck_l0 p5y0_363_e
set_option maxRecDepth 100000 in
def p5y0_367 : ck_Sum := ((0, 0, 0), 245, [.inr (.inr (.inl 1)), .inl (ck_one 32)], ([], [], []), ([], []), [(.inr none, 245, ([], [], []))])
set_option maxRecDepth 100000 in
theorem p5y0_367_e : ck_ok p1_O none [] [] 129 [] 82 p5y0_367 = true := by decide +kernel
theorem p5y0_367_s {X : Int → Int} {LX : Nat} : ck_Ok p1_O X LX 129 p5y0_367 := ck_ok_s (ck_E0) ck_X0 ck_l0 p5y0_367_e
set_option maxRecDepth 100000 in
def p5y0_368 : ck_Sum := ((0, 0, 0), 245, [.inr (.inr (.inl 200)), .inl (ck_one 32)], ([], [], [(201, 32, 32, ck_one 4)]), ([], []), [(.inr (some (.inl (ck_one 4))), 245, ([], [], []))])
set_option maxRecDepth 100000 in
theorem p5y0_368_e : ck_ok p1_O none [] [] 34 [] 92 p5y0_368 = true := by decide +kernel
theorem p5y0_368_s {X : Int → Int} {LX : Nat} : ck_Ok p1_O X LX 34 p5y0_368 := ck_ok_s (ck_E0) ck_X0 ck_l0 p5y0_368_e
set_option maxRecDepth 100000 in
def p5y0_369 : ck_Sum := ((1, 0, 0), 245, [.inr (.inr (.inl 1)), .inl (ck_one 32)], ([], [], [(201, 32, 32, ck_one 4)]), ([], []), [(.inr (some (.inl (ck_one 4))), 245, ([], [], []))])
set_option maxRecDepth 100000 in
theorem p5y0_369_e : ck_ok p1_O none [] [(129, [p5y0_367]), (34, [p5y0_368])] 128 [] 86 p5y0_369 = true := by decide +kernel
theorem p5y0_369_s {X : Int → Int} {LX : Nat} : ck_Ok p1_O X LX 128 p5y0_369 := ck_ok_s (ck_E1 (ck_S1 p5y0_367_s ck_S0) (ck_E1 (ck_S1 p5y0_368_s ck_S0) ck_E0)) ck_X0 ck_l0 p5y0_369_e
set_option maxRecDepth 100000 in
def p5y0_370 : ck_Sum := ((2, 0, 0), 245, [.inr (.inr (.inl 1)), .inl (ck_one 32), .inr (.inr (.inl 245))], ([], [], [(201, 32, 32, ck_one 4)]), ([(245, 0, 0)], []), [(.inr (some (.inl (ck_one 0))), 245, ([], [], [(245, 0, 0, ck_one 4)]))])
set_option maxRecDepth 100000 in
theorem p5y0_370_e : ck_ok p1_O none [] [(128, [p5y0_369])] 127 [] 90 p5y0_370 = true := by decide +kernel
theorem p5y0_370_s {X : Int → Int} {LX : Nat} : ck_Ok p1_O X LX 127 p5y0_370 := ck_ok_s (ck_E1 (ck_S1 p5y0_369_s ck_S0) ck_E0) ck_X0 ck_l0 p5y0_370_e
set_option maxRecDepth 100000 in
def p5y0_374 : ck_Sum := ((0, 0, 0), 245, [.inr (.inr (.inl 1)), .inl (ck_one 33)], ([], [], []), ([], []), [(.inr none, 245, ([], [], []))])
set_option maxRecDepth 100000 in
theorem p5y0_374_e : ck_ok p1_O none [] [] 129 [] 82 p5y0_374 = true := by decide +kernel
theorem p5y0_374_s {X : Int → Int} {LX : Nat} : ck_Ok p1_O X LX 129 p5y0_374 := ck_ok_s (ck_E0) ck_X0 ck_l0 p5y0_374_e
set_option maxRecDepth 100000 in
def p5y0_375 : ck_Sum := ((0, 0, 0), 245, [.inr (.inr (.inl 200)), .inl (ck_one 33)], ([], [], [(201, 33, 33, ck_one 2)]), ([], []), [(.inr (some (.inl (ck_one 2))), 245, ([], [], []))])
set_option maxRecDepth 100000 in
theorem p5y0_375_e : ck_ok p1_O none [] [] 34 [] 92 p5y0_375 = true := by decide +kernel
theorem p5y0_375_s {X : Int → Int} {LX : Nat} : ck_Ok p1_O X LX 34 p5y0_375 := ck_ok_s (ck_E0) ck_X0 ck_l0 p5y0_375_e
set_option maxRecDepth 100000 in
def p5y0_376 : ck_Sum := ((1, 0, 0), 245, [.inr (.inr (.inl 1)), .inl (ck_one 33)], ([], [], [(201, 33, 33, ck_one 2)]), ([], []), [(.inr (some (.inl (ck_one 2))), 245, ([], [], []))])
set_option maxRecDepth 100000 in
theorem p5y0_376_e : ck_ok p1_O none [] [(129, [p5y0_374]), (34, [p5y0_375])] 128 [] 86 p5y0_376 = true := by decide +kernel
theorem p5y0_376_s {X : Int → Int} {LX : Nat} : ck_Ok p1_O X LX 128 p5y0_376 := ck_ok_s (ck_E1 (ck_S1 p5y0_374_s ck_S0) (ck_E1 (ck_S1 p5y0_375_s ck_S0) ck_E0)) ck_X0 ck_l0 p5y0_376_e
set_option maxRecDepth 100000 in
def p5y0_377 : ck_Sum := ((2, 0, 0), 245, [.inr (.inr (.inl 1)), .inl (ck_one 33), .inr (.inr (.inl 245))], ([], [], [(201, 33, 33, ck_one 2)]), ([(245, 0, 0)], []), [(.inr (some (.inl (ck_one 0))), 245, ([], [], [(245, 0, 0, ck_one 2)]))])
set_option maxRecDepth 100000 in
theorem p5y0_377_e : ck_ok p1_O none [] [(128, [p5y0_376])] 127 [] 90 p5y0_377 = true := by decide +kernel
theorem p5y0_377_s {X : Int → Int} {LX : Nat} : ck_Ok p1_O X LX 127 p5y0_377 := ck_ok_s (ck_E1 (ck_S1 p5y0_376_s ck_S0) ck_E0) ck_X0 ck_l0 p5y0_377_e
set_option maxRecDepth 100000 in
def p5y0_381 : ck_Sum := ((0, 0, 0), 245, [.inr (.inr (.inl 1)), .inl (ck_one 34)], ([], [], []), ([], []), [(.inr none, 245, ([], [], []))])
set_option maxRecDepth 100000 in
theorem p5y0_381_e : ck_ok p1_O none [] [] 129 [] 82 p5y0_381 = true := by decide +kernel
theorem p5y0_381_s {X : Int → Int} {LX : Nat} : ck_Ok p1_O X LX 129 p5y0_381 := ck_ok_s (ck_E0) ck_X0 ck_l0 p5y0_381_e
set_option maxRecDepth 100000 in
def p5y0_382 : ck_Sum := ((0, 0, 0), 245, [.inr (.inr (.inl 200)), .inl (ck_one 34)], ([], [], [(201, 34, 34, ck_one 1)]), ([], []), [(.inr (some (.inl (ck_one 1))), 245, ([], [], []))])
set_option maxRecDepth 100000 in
theorem p5y0_382_e : ck_ok p1_O none [] [] 34 [] 92 p5y0_382 = true := by decide +kernel
theorem p5y0_382_s {X : Int → Int} {LX : Nat} : ck_Ok p1_O X LX 34 p5y0_382 := ck_ok_s (ck_E0) ck_X0 ck_l0 p5y0_382_e
set_option maxRecDepth 100000 in
def p5y0_383 : ck_Sum := ((1, 0, 0), 245, [.inr (.inr (.inl 1)), .inl (ck_one 34)], ([], [], [(201, 34, 34, ck_one 1)]), ([], []), [(.inr (some (.inl (ck_one 1))), 245, ([], [], []))])
set_option maxRecDepth 100000 in
theorem p5y0_383_e : ck_ok p1_O none [] [(129, [p5y0_381]), (34, [p5y0_382])] 128 [] 86 p5y0_383 = true := by decide +kernel
theorem p5y0_383_s {X : Int → Int} {LX : Nat} : ck_Ok p1_O X LX 128 p5y0_383 := ck_ok_s (ck_E1 (ck_S1 p5y0_381_s ck_S0) (ck_E1 (ck_S1 p5y0_382_s ck_S0) ck_E0)) ck_X0 ck_l0 p5y0_383_e
set_option maxRecDepth 100000 in
def p5y0_384 : ck_Sum := ((2, 0, 0), 245, [.inr (.inr (.inl 1)), .inl (ck_one 34), .inr (.inr (.inl 245))], ([], [], [(201, 34, 34, ck_one 1)]), ([(245, 0, 0)], []), [(.inr (some (.inl (ck_one 0))), 245, ([], [], [(245, 0, 0, ck_one 1)]))])
set_option maxRecDepth 100000 in
theorem p5y0_384_e : ck_ok p1_O none [] [(128, [p5y0_383])] 127 [] 90 p5y0_384 = true := by decide +kernel
theorem p5y0_384_s {X : Int → Int} {LX : Nat} : ck_Ok p1_O X LX 127 p5y0_384 := ck_ok_s (ck_E1 (ck_S1 p5y0_383_s ck_S0) ck_E0) ck_X0 ck_l0 p5y0_384_e
set_option maxRecDepth 100000 in
def p5y0_388 : ck_Sum := ((0, 0, 0), 245, [.inr (.inr (.inl 1)), .inl (ck_one 35)], ([], [], []), ([], []), [(.inr none, 245, ([], [], []))])
set_option maxRecDepth 100000 in
theorem p5y0_388_e : ck_ok p1_O none [] [] 129 [] 82 p5y0_388 = true := by decide +kernel
theorem p5y0_388_s {X : Int → Int} {LX : Nat} : ck_Ok p1_O X LX 129 p5y0_388 := ck_ok_s (ck_E0) ck_X0 ck_l0 p5y0_388_e
set_option maxRecDepth 100000 in
def p5y0_389 : ck_Sum := ((0, 0, 0), 245, [.inr (.inr (.inl 200)), .inl (ck_one 35)], ([], [], [(201, 35, 35, ck_one 7)]), ([], []), [(.inr (some (.inl (ck_one 7))), 245, ([], [], []))])
set_option maxRecDepth 100000 in
theorem p5y0_389_e : ck_ok p1_O none [] [] 34 [] 92 p5y0_389 = true := by decide +kernel
theorem p5y0_389_s {X : Int → Int} {LX : Nat} : ck_Ok p1_O X LX 34 p5y0_389 := ck_ok_s (ck_E0) ck_X0 ck_l0 p5y0_389_e
set_option maxRecDepth 100000 in
def p5y0_390 : ck_Sum := ((1, 0, 0), 245, [.inr (.inr (.inl 1)), .inl (ck_one 35)], ([], [], [(201, 35, 35, ck_one 7)]), ([], []), [(.inr (some (.inl (ck_one 7))), 245, ([], [], []))])
set_option maxRecDepth 100000 in
theorem p5y0_390_e : ck_ok p1_O none [] [(129, [p5y0_388]), (34, [p5y0_389])] 128 [] 86 p5y0_390 = true := by decide +kernel
theorem p5y0_390_s {X : Int → Int} {LX : Nat} : ck_Ok p1_O X LX 128 p5y0_390 := ck_ok_s (ck_E1 (ck_S1 p5y0_388_s ck_S0) (ck_E1 (ck_S1 p5y0_389_s ck_S0) ck_E0)) ck_X0 ck_l0 p5y0_390_e
set_option maxRecDepth 100000 in
def p5y0_391 : ck_Sum := ((2, 0, 0), 245, [.inr (.inr (.inl 1)), .inl (ck_one 35), .inr (.inr (.inl 245))], ([], [], [(201, 35, 35, ck_one 7)]), ([(245, 0, 0)], []), [(.inr (some (.inl (ck_one 0))), 245, ([], [], [(245, 0, 0, ck_one 7)]))])
set_option maxRecDepth 100000 in
theorem p5y0_391_e : ck_ok p1_O none [] [(128, [p5y0_390])] 127 [] 90 p5y0_391 = true := by decide +kernel
theorem p5y0_391_s {X : Int → Int} {LX : Nat} : ck_Ok p1_O X LX 127 p5y0_391 := ck_ok_s (ck_E1 (ck_S1 p5y0_390_s ck_S0) ck_E0) ck_X0 ck_l0 p5y0_391_e
set_option maxRecDepth 100000 in
def p5y0_395 : ck_Sum := ((0, 0, 0), 245, [.inr (.inr (.inl 1)), .inl (ck_one 36)], ([], [], []), ([], []), [(.inr none, 245, ([], [], []))])
set_option maxRecDepth 100000 in
theorem p5y0_395_e : ck_ok p1_O none [] [] 129 [] 82 p5y0_395 = true := by decide +kernel
theorem p5y0_395_s {X : Int → Int} {LX : Nat} : ck_Ok p1_O X LX 129 p5y0_395 := ck_ok_s (ck_E0) ck_X0 ck_l0 p5y0_395_e
set_option maxRecDepth 100000 in
def p5y0_396 : ck_Sum := ((0, 0, 0), 245, [.inr (.inr (.inl 200)), .inl (ck_one 36)], ([], [], [(201, 36, 36, ck_one 4)]), ([], []), [(.inr (some (.inl (ck_one 4))), 245, ([], [], []))])
set_option maxRecDepth 100000 in
theorem p5y0_396_e : ck_ok p1_O none [] [] 34 [] 92 p5y0_396 = true := by decide +kernel
theorem p5y0_396_s {X : Int → Int} {LX : Nat} : ck_Ok p1_O X LX 34 p5y0_396 := ck_ok_s (ck_E0) ck_X0 ck_l0 p5y0_396_e
set_option maxRecDepth 100000 in
def p5y0_397 : ck_Sum := ((1, 0, 0), 245, [.inr (.inr (.inl 1)), .inl (ck_one 36)], ([], [], [(201, 36, 36, ck_one 4)]), ([], []), [(.inr (some (.inl (ck_one 4))), 245, ([], [], []))])
set_option maxRecDepth 100000 in
theorem p5y0_397_e : ck_ok p1_O none [] [(129, [p5y0_395]), (34, [p5y0_396])] 128 [] 86 p5y0_397 = true := by decide +kernel
theorem p5y0_397_s {X : Int → Int} {LX : Nat} : ck_Ok p1_O X LX 128 p5y0_397 := ck_ok_s (ck_E1 (ck_S1 p5y0_395_s ck_S0) (ck_E1 (ck_S1 p5y0_396_s ck_S0) ck_E0)) ck_X0 ck_l0 p5y0_397_e
set_option maxRecDepth 100000 in
def p5y0_398 : ck_Sum := ((2, 0, 0), 245, [.inr (.inr (.inl 1)), .inl (ck_one 36), .inr (.inr (.inl 245))], ([], [], [(201, 36, 36, ck_one 4)]), ([(245, 0, 0)], []), [(.inr (some (.inl (ck_one 0))), 245, ([], [], [(245, 0, 0, ck_one 4)]))])
set_option maxRecDepth 100000 in
theorem p5y0_398_e : ck_ok p1_O none [] [(128, [p5y0_397])] 127 [] 90 p5y0_398 = true := by decide +kernel
theorem p5y0_398_s {X : Int → Int} {LX : Nat} : ck_Ok p1_O X LX 127 p5y0_398 := ck_ok_s (ck_E1 (ck_S1 p5y0_397_s ck_S0) ck_E0) ck_X0 ck_l0 p5y0_398_e
set_option maxRecDepth 100000 in
def p5y0_402 : ck_Sum := ((0, 0, 0), 245, [.inr (.inr (.inl 1)), .inl (ck_one 37)], ([], [], []), ([], []), [(.inr none, 245, ([], [], []))])
set_option maxRecDepth 100000 in
theorem p5y0_402_e : ck_ok p1_O none [] [] 129 [] 82 p5y0_402 = true := by decide +kernel
theorem p5y0_402_s {X : Int → Int} {LX : Nat} : ck_Ok p1_O X LX 129 p5y0_402 := ck_ok_s (ck_E0) ck_X0 ck_l0 p5y0_402_e
set_option maxRecDepth 100000 in
def p5y0_403 : ck_Sum := ((0, 0, 0), 245, [.inr (.inr (.inl 200)), .inl (ck_one 37)], ([], [], [(201, 37, 37, ck_one 3)]), ([], []), [(.inr (some (.inl (ck_one 3))), 245, ([], [], []))])
set_option maxRecDepth 100000 in
theorem p5y0_403_e : ck_ok p1_O none [] [] 34 [] 92 p5y0_403 = true := by decide +kernel
theorem p5y0_403_s {X : Int → Int} {LX : Nat} : ck_Ok p1_O X LX 34 p5y0_403 := ck_ok_s (ck_E0) ck_X0 ck_l0 p5y0_403_e
set_option maxRecDepth 100000 in
def p5y0_404 : ck_Sum := ((1, 0, 0), 245, [.inr (.inr (.inl 1)), .inl (ck_one 37)], ([], [], [(201, 37, 37, ck_one 3)]), ([], []), [(.inr (some (.inl (ck_one 3))), 245, ([], [], []))])
set_option maxRecDepth 100000 in
theorem p5y0_404_e : ck_ok p1_O none [] [(129, [p5y0_402]), (34, [p5y0_403])] 128 [] 86 p5y0_404 = true := by decide +kernel
theorem p5y0_404_s {X : Int → Int} {LX : Nat} : ck_Ok p1_O X LX 128 p5y0_404 := ck_ok_s (ck_E1 (ck_S1 p5y0_402_s ck_S0) (ck_E1 (ck_S1 p5y0_403_s ck_S0) ck_E0)) ck_X0 ck_l0 p5y0_404_e
set_option maxRecDepth 100000 in
def p5y0_405 : ck_Sum := ((2, 0, 0), 245, [.inr (.inr (.inl 1)), .inl (ck_one 37), .inr (.inr (.inl 245))], ([], [], [(201, 37, 37, ck_one 3)]), ([(245, 0, 0)], []), [(.inr (some (.inl (ck_one 0))), 245, ([], [], [(245, 0, 0, ck_one 3)]))])
set_option maxRecDepth 100000 in
theorem p5y0_405_e : ck_ok p1_O none [] [(128, [p5y0_404])] 127 [] 90 p5y0_405 = true := by decide +kernel
theorem p5y0_405_s {X : Int → Int} {LX : Nat} : ck_Ok p1_O X LX 127 p5y0_405 := ck_ok_s (ck_E1 (ck_S1 p5y0_404_s ck_S0) ck_E0) ck_X0 ck_l0 p5y0_405_e
set_option maxRecDepth 100000 in
def p5y0_409 : ck_Sum := ((0, 0, 0), 245, [.inr (.inr (.inl 1)), .inl (ck_one 38)], ([], [], []), ([], []), [(.inr none, 245, ([], [], []))])
set_option maxRecDepth 100000 in
theorem p5y0_409_e : ck_ok p1_O none [] [] 129 [] 82 p5y0_409 = true := by decide +kernel
theorem p5y0_409_s {X : Int → Int} {LX : Nat} : ck_Ok p1_O X LX 129 p5y0_409 := ck_ok_s (ck_E0) ck_X0 ck_l0 p5y0_409_e
set_option maxRecDepth 100000 in
def p5y0_410 : ck_Sum := ((0, 0, 0), 245, [.inr (.inr (.inl 200)), .inl (ck_one 38)], ([], [], [(201, 38, 38, ck_one 1)]), ([], []), [(.inr (some (.inl (ck_one 1))), 245, ([], [], []))])
set_option maxRecDepth 100000 in
theorem p5y0_410_e : ck_ok p1_O none [] [] 34 [] 92 p5y0_410 = true := by decide +kernel
theorem p5y0_410_s {X : Int → Int} {LX : Nat} : ck_Ok p1_O X LX 34 p5y0_410 := ck_ok_s (ck_E0) ck_X0 ck_l0 p5y0_410_e
set_option maxRecDepth 100000 in
def p5y0_411 : ck_Sum := ((1, 0, 0), 245, [.inr (.inr (.inl 1)), .inl (ck_one 38)], ([], [], [(201, 38, 38, ck_one 1)]), ([], []), [(.inr (some (.inl (ck_one 1))), 245, ([], [], []))])
set_option maxRecDepth 100000 in
theorem p5y0_411_e : ck_ok p1_O none [] [(129, [p5y0_409]), (34, [p5y0_410])] 128 [] 86 p5y0_411 = true := by decide +kernel
theorem p5y0_411_s {X : Int → Int} {LX : Nat} : ck_Ok p1_O X LX 128 p5y0_411 := ck_ok_s (ck_E1 (ck_S1 p5y0_409_s ck_S0) (ck_E1 (ck_S1 p5y0_410_s ck_S0) ck_E0)) ck_X0 ck_l0 p5y0_411_e
set_option maxRecDepth 100000 in
def p5y0_412 : ck_Sum := ((2, 0, 0), 245, [.inr (.inr (.inl 1)), .inl (ck_one 38), .inr (.inr (.inl 245))], ([], [], [(201, 38, 38, ck_one 1)]), ([(245, 0, 0)], []), [(.inr (some (.inl (ck_one 0))), 245, ([], [], [(245, 0, 0, ck_one 1)]))])
set_option maxRecDepth 100000 in
theorem p5y0_412_e : ck_ok p1_O none [] [(128, [p5y0_411])] 127 [] 90 p5y0_412 = true := by decide +kernel
theorem p5y0_412_s {X : Int → Int} {LX : Nat} : ck_Ok p1_O X LX 127 p5y0_412 := ck_ok_s (ck_E1 (ck_S1 p5y0_411_s ck_S0) ck_E0) ck_X0 ck_l0 p5y0_412_e
set_option maxRecDepth 100000 in
def p5y0_416 : ck_Sum := ((0, 0, 0), 245, [.inr (.inr (.inl 1)), .inl (ck_one 39)], ([], [], []), ([], []), [(.inr none, 245, ([], [], []))])
set_option maxRecDepth 100000 in
theorem p5y0_416_e : ck_ok p1_O none [] [] 129 [] 82 p5y0_416 = true := by decide +kernel
theorem p5y0_416_s {X : Int → Int} {LX : Nat} : ck_Ok p1_O X LX 129 p5y0_416 := ck_ok_s (ck_E0) ck_X0 ck_l0 p5y0_416_e
set_option maxRecDepth 100000 in
def p5y0_417 : ck_Sum := ((0, 0, 0), 245, [.inr (.inr (.inl 200)), .inl (ck_one 39)], ([], [], [(201, 39, 39, ck_one 6)]), ([], []), [(.inr (some (.inl (ck_one 6))), 245, ([], [], []))])
set_option maxRecDepth 100000 in
theorem p5y0_417_e : ck_ok p1_O none [] [] 34 [] 92 p5y0_417 = true := by decide +kernel
theorem p5y0_417_s {X : Int → Int} {LX : Nat} : ck_Ok p1_O X LX 34 p5y0_417 := ck_ok_s (ck_E0) ck_X0 ck_l0 p5y0_417_e
set_option maxRecDepth 100000 in
def p5y0_418 : ck_Sum := ((1, 0, 0), 245, [.inr (.inr (.inl 1)), .inl (ck_one 39)], ([], [], [(201, 39, 39, ck_one 6)]), ([], []), [(.inr (some (.inl (ck_one 6))), 245, ([], [], []))])
set_option maxRecDepth 100000 in
theorem p5y0_418_e : ck_ok p1_O none [] [(129, [p5y0_416]), (34, [p5y0_417])] 128 [] 86 p5y0_418 = true := by decide +kernel
theorem p5y0_418_s {X : Int → Int} {LX : Nat} : ck_Ok p1_O X LX 128 p5y0_418 := ck_ok_s (ck_E1 (ck_S1 p5y0_416_s ck_S0) (ck_E1 (ck_S1 p5y0_417_s ck_S0) ck_E0)) ck_X0 ck_l0 p5y0_418_e
set_option maxRecDepth 100000 in
def p5y0_419 : ck_Sum := ((2, 0, 0), 245, [.inr (.inr (.inl 1)), .inl (ck_one 39), .inr (.inr (.inl 245))], ([], [], [(201, 39, 39, ck_one 6)]), ([(245, 0, 0)], []), [(.inr (some (.inl (ck_one 0))), 245, ([], [], [(245, 0, 0, ck_one 6)]))])
set_option maxRecDepth 100000 in
theorem p5y0_419_e : ck_ok p1_O none [] [(128, [p5y0_418])] 127 [] 90 p5y0_419 = true := by decide +kernel
theorem p5y0_419_s {X : Int → Int} {LX : Nat} : ck_Ok p1_O X LX 127 p5y0_419 := ck_ok_s (ck_E1 (ck_S1 p5y0_418_s ck_S0) ck_E0) ck_X0 ck_l0 p5y0_419_e
set_option maxRecDepth 100000 in
def p5y0_423 : ck_Sum := ((0, 0, 0), 245, [.inr (.inr (.inl 1)), .inl (ck_one 40)], ([], [], []), ([], []), [(.inr none, 245, ([], [], []))])
set_option maxRecDepth 100000 in
theorem p5y0_423_e : ck_ok p1_O none [] [] 129 [] 82 p5y0_423 = true := by decide +kernel
theorem p5y0_423_s {X : Int → Int} {LX : Nat} : ck_Ok p1_O X LX 129 p5y0_423 := ck_ok_s (ck_E0) ck_X0 ck_l0 p5y0_423_e
set_option maxRecDepth 100000 in
def p5y0_424 : ck_Sum := ((0, 0, 0), 245, [.inr (.inr (.inl 200)), .inl (ck_one 40)], ([], [], [(201, 40, 40, ck_one 8)]), ([], []), [(.inr (some (.inl (ck_one 8))), 245, ([], [], []))])
set_option maxRecDepth 100000 in
theorem p5y0_424_e : ck_ok p1_O none [] [] 34 [] 92 p5y0_424 = true := by decide +kernel
theorem p5y0_424_s {X : Int → Int} {LX : Nat} : ck_Ok p1_O X LX 34 p5y0_424 := ck_ok_s (ck_E0) ck_X0 ck_l0 p5y0_424_e
set_option maxRecDepth 100000 in
def p5y0_425 : ck_Sum := ((1, 0, 0), 245, [.inr (.inr (.inl 1)), .inl (ck_one 40)], ([], [], [(201, 40, 40, ck_one 8)]), ([], []), [(.inr (some (.inl (ck_one 8))), 245, ([], [], []))])
set_option maxRecDepth 100000 in
theorem p5y0_425_e : ck_ok p1_O none [] [(129, [p5y0_423]), (34, [p5y0_424])] 128 [] 86 p5y0_425 = true := by decide +kernel
theorem p5y0_425_s {X : Int → Int} {LX : Nat} : ck_Ok p1_O X LX 128 p5y0_425 := ck_ok_s (ck_E1 (ck_S1 p5y0_423_s ck_S0) (ck_E1 (ck_S1 p5y0_424_s ck_S0) ck_E0)) ck_X0 ck_l0 p5y0_425_e
set_option maxRecDepth 100000 in
def p5y0_426 : ck_Sum := ((2, 0, 0), 245, [.inr (.inr (.inl 1)), .inl (ck_one 40), .inr (.inr (.inl 245))], ([], [], [(201, 40, 40, ck_one 8)]), ([(245, 0, 0)], []), [(.inr (some (.inl (ck_one 0))), 245, ([], [], [(245, 0, 0, ck_one 8)]))])
set_option maxRecDepth 100000 in
theorem p5y0_426_e : ck_ok p1_O none [] [(128, [p5y0_425])] 127 [] 90 p5y0_426 = true := by decide +kernel
theorem p5y0_426_s {X : Int → Int} {LX : Nat} : ck_Ok p1_O X LX 127 p5y0_426 := ck_ok_s (ck_E1 (ck_S1 p5y0_425_s ck_S0) ck_E0) ck_X0 ck_l0 p5y0_426_e
set_option maxRecDepth 100000 in
def p5y0_430 : ck_Sum := ((0, 0, 0), 245, [.inr (.inr (.inl 1)), .inl (ck_one 41)], ([], [], []), ([], []), [(.inr none, 245, ([], [], []))])
set_option maxRecDepth 100000 in
theorem p5y0_430_e : ck_ok p1_O none [] [] 129 [] 82 p5y0_430 = true := by decide +kernel
theorem p5y0_430_s {X : Int → Int} {LX : Nat} : ck_Ok p1_O X LX 129 p5y0_430 := ck_ok_s (ck_E0) ck_X0 ck_l0 p5y0_430_e
set_option maxRecDepth 100000 in
def p5y0_431 : ck_Sum := ((0, 0, 0), 245, [.inr (.inr (.inl 200)), .inl (ck_one 41)], ([], [], [(201, 41, 41, ck_one 8)]), ([], []), [(.inr (some (.inl (ck_one 8))), 245, ([], [], []))])
set_option maxRecDepth 100000 in
theorem p5y0_431_e : ck_ok p1_O none [] [] 34 [] 92 p5y0_431 = true := by decide +kernel
theorem p5y0_431_s {X : Int → Int} {LX : Nat} : ck_Ok p1_O X LX 34 p5y0_431 := ck_ok_s (ck_E0) ck_X0 ck_l0 p5y0_431_e
set_option maxRecDepth 100000 in
def p5y0_432 : ck_Sum := ((1, 0, 0), 245, [.inr (.inr (.inl 1)), .inl (ck_one 41)], ([], [], [(201, 41, 41, ck_one 8)]), ([], []), [(.inr (some (.inl (ck_one 8))), 245, ([], [], []))])
set_option maxRecDepth 100000 in
theorem p5y0_432_e : ck_ok p1_O none [] [(129, [p5y0_430]), (34, [p5y0_431])] 128 [] 86 p5y0_432 = true := by decide +kernel
theorem p5y0_432_s {X : Int → Int} {LX : Nat} : ck_Ok p1_O X LX 128 p5y0_432 := ck_ok_s (ck_E1 (ck_S1 p5y0_430_s ck_S0) (ck_E1 (ck_S1 p5y0_431_s ck_S0) ck_E0)) ck_X0 ck_l0 p5y0_432_e
set_option maxRecDepth 100000 in
def p5y0_433 : ck_Sum := ((2, 0, 0), 245, [.inr (.inr (.inl 1)), .inl (ck_one 41), .inr (.inr (.inl 245))], ([], [], [(201, 41, 41, ck_one 8)]), ([(245, 0, 0)], []), [(.inr (some (.inl (ck_one 0))), 245, ([], [], [(245, 0, 0, ck_one 8)]))])
set_option maxRecDepth 100000 in
theorem p5y0_433_e : ck_ok p1_O none [] [(128, [p5y0_432])] 127 [] 90 p5y0_433 = true := by decide +kernel
theorem p5y0_433_s {X : Int → Int} {LX : Nat} : ck_Ok p1_O X LX 127 p5y0_433 := ck_ok_s (ck_E1 (ck_S1 p5y0_432_s ck_S0) ck_E0) ck_X0 ck_l0 p5y0_433_e
set_option maxRecDepth 100000 in
def p5y0_437 : ck_Sum := ((0, 0, 0), 245, [.inr (.inr (.inl 1)), .inl (ck_one 42)], ([], [], []), ([], []), [(.inr none, 245, ([], [], []))])
set_option maxRecDepth 100000 in
theorem p5y0_437_e : ck_ok p1_O none [] [] 129 [] 82 p5y0_437 = true := by decide +kernel
theorem p5y0_437_s {X : Int → Int} {LX : Nat} : ck_Ok p1_O X LX 129 p5y0_437 := ck_ok_s (ck_E0) ck_X0 ck_l0 p5y0_437_e
set_option maxRecDepth 100000 in
def p5y0_438 : ck_Sum := ((0, 0, 0), 245, [.inr (.inr (.inl 200)), .inl (ck_one 42)], ([], [], [(201, 42, 42, ck_one 5)]), ([], []), [(.inr (some (.inl (ck_one 5))), 245, ([], [], []))])
set_option maxRecDepth 100000 in
theorem p5y0_438_e : ck_ok p1_O none [] [] 34 [] 92 p5y0_438 = true := by decide +kernel
theorem p5y0_438_s {X : Int → Int} {LX : Nat} : ck_Ok p1_O X LX 34 p5y0_438 := ck_ok_s (ck_E0) ck_X0 ck_l0 p5y0_438_e
set_option maxRecDepth 100000 in
def p5y0_439 : ck_Sum := ((1, 0, 0), 245, [.inr (.inr (.inl 1)), .inl (ck_one 42)], ([], [], [(201, 42, 42, ck_one 5)]), ([], []), [(.inr (some (.inl (ck_one 5))), 245, ([], [], []))])
set_option maxRecDepth 100000 in
theorem p5y0_439_e : ck_ok p1_O none [] [(129, [p5y0_437]), (34, [p5y0_438])] 128 [] 86 p5y0_439 = true := by decide +kernel
theorem p5y0_439_s {X : Int → Int} {LX : Nat} : ck_Ok p1_O X LX 128 p5y0_439 := ck_ok_s (ck_E1 (ck_S1 p5y0_437_s ck_S0) (ck_E1 (ck_S1 p5y0_438_s ck_S0) ck_E0)) ck_X0 ck_l0 p5y0_439_e
set_option maxRecDepth 100000 in
def p5y0_440 : ck_Sum := ((2, 0, 0), 245, [.inr (.inr (.inl 1)), .inl (ck_one 42), .inr (.inr (.inl 245))], ([], [], [(201, 42, 42, ck_one 5)]), ([(245, 0, 0)], []), [(.inr (some (.inl (ck_one 0))), 245, ([], [], [(245, 0, 0, ck_one 5)]))])
set_option maxRecDepth 100000 in
theorem p5y0_440_e : ck_ok p1_O none [] [(128, [p5y0_439])] 127 [] 90 p5y0_440 = true := by decide +kernel
theorem p5y0_440_s {X : Int → Int} {LX : Nat} : ck_Ok p1_O X LX 127 p5y0_440 := ck_ok_s (ck_E1 (ck_S1 p5y0_439_s ck_S0) ck_E0) ck_X0 ck_l0 p5y0_440_e
set_option maxRecDepth 100000 in
def p5y0_444 : ck_Sum := ((0, 0, 0), 245, [.inr (.inr (.inl 1)), .inl (ck_one 43)], ([], [], []), ([], []), [(.inr none, 245, ([], [], []))])
set_option maxRecDepth 100000 in
theorem p5y0_444_e : ck_ok p1_O none [] [] 129 [] 82 p5y0_444 = true := by decide +kernel
theorem p5y0_444_s {X : Int → Int} {LX : Nat} : ck_Ok p1_O X LX 129 p5y0_444 := ck_ok_s (ck_E0) ck_X0 ck_l0 p5y0_444_e
set_option maxRecDepth 100000 in
def p5y0_445 : ck_Sum := ((0, 0, 0), 245, [.inr (.inr (.inl 200)), .inl (ck_one 43)], ([], [], [(201, 43, 43, ck_one 3)]), ([], []), [(.inr (some (.inl (ck_one 3))), 245, ([], [], []))])
set_option maxRecDepth 100000 in
theorem p5y0_445_e : ck_ok p1_O none [] [] 34 [] 92 p5y0_445 = true := by decide +kernel
theorem p5y0_445_s {X : Int → Int} {LX : Nat} : ck_Ok p1_O X LX 34 p5y0_445 := ck_ok_s (ck_E0) ck_X0 ck_l0 p5y0_445_e
set_option maxRecDepth 100000 in
def p5y0_446 : ck_Sum := ((1, 0, 0), 245, [.inr (.inr (.inl 1)), .inl (ck_one 43)], ([], [], [(201, 43, 43, ck_one 3)]), ([], []), [(.inr (some (.inl (ck_one 3))), 245, ([], [], []))])
set_option maxRecDepth 100000 in
theorem p5y0_446_e : ck_ok p1_O none [] [(129, [p5y0_444]), (34, [p5y0_445])] 128 [] 86 p5y0_446 = true := by decide +kernel
theorem p5y0_446_s {X : Int → Int} {LX : Nat} : ck_Ok p1_O X LX 128 p5y0_446 := ck_ok_s (ck_E1 (ck_S1 p5y0_444_s ck_S0) (ck_E1 (ck_S1 p5y0_445_s ck_S0) ck_E0)) ck_X0 ck_l0 p5y0_446_e
set_option maxRecDepth 100000 in
def p5y0_447 : ck_Sum := ((2, 0, 0), 245, [.inr (.inr (.inl 1)), .inl (ck_one 43), .inr (.inr (.inl 245))], ([], [], [(201, 43, 43, ck_one 3)]), ([(245, 0, 0)], []), [(.inr (some (.inl (ck_one 0))), 245, ([], [], [(245, 0, 0, ck_one 3)]))])
set_option maxRecDepth 100000 in
theorem p5y0_447_e : ck_ok p1_O none [] [(128, [p5y0_446])] 127 [] 90 p5y0_447 = true := by decide +kernel
theorem p5y0_447_s {X : Int → Int} {LX : Nat} : ck_Ok p1_O X LX 127 p5y0_447 := ck_ok_s (ck_E1 (ck_S1 p5y0_446_s ck_S0) ck_E0) ck_X0 ck_l0 p5y0_447_e
set_option maxRecDepth 100000 in
def p5y0_451 : ck_Sum := ((0, 0, 0), 245, [.inr (.inr (.inl 1)), .inl (ck_one 44)], ([], [], []), ([], []), [(.inr none, 245, ([], [], []))])
set_option maxRecDepth 100000 in
theorem p5y0_451_e : ck_ok p1_O none [] [] 129 [] 82 p5y0_451 = true := by decide +kernel
theorem p5y0_451_s {X : Int → Int} {LX : Nat} : ck_Ok p1_O X LX 129 p5y0_451 := ck_ok_s (ck_E0) ck_X0 ck_l0 p5y0_451_e
set_option maxRecDepth 100000 in
def p5y0_452 : ck_Sum := ((0, 0, 0), 245, [.inr (.inr (.inl 200)), .inl (ck_one 44)], ([], [], [(201, 44, 44, ck_one 7)]), ([], []), [(.inr (some (.inl (ck_one 7))), 245, ([], [], []))])
set_option maxRecDepth 100000 in
theorem p5y0_452_e : ck_ok p1_O none [] [] 34 [] 92 p5y0_452 = true := by decide +kernel
theorem p5y0_452_s {X : Int → Int} {LX : Nat} : ck_Ok p1_O X LX 34 p5y0_452 := ck_ok_s (ck_E0) ck_X0 ck_l0 p5y0_452_e
set_option maxRecDepth 100000 in
def p5y0_453 : ck_Sum := ((1, 0, 0), 245, [.inr (.inr (.inl 1)), .inl (ck_one 44)], ([], [], [(201, 44, 44, ck_one 7)]), ([], []), [(.inr (some (.inl (ck_one 7))), 245, ([], [], []))])
set_option maxRecDepth 100000 in
theorem p5y0_453_e : ck_ok p1_O none [] [(129, [p5y0_451]), (34, [p5y0_452])] 128 [] 86 p5y0_453 = true := by decide +kernel
theorem p5y0_453_s {X : Int → Int} {LX : Nat} : ck_Ok p1_O X LX 128 p5y0_453 := ck_ok_s (ck_E1 (ck_S1 p5y0_451_s ck_S0) (ck_E1 (ck_S1 p5y0_452_s ck_S0) ck_E0)) ck_X0 ck_l0 p5y0_453_e
set_option maxRecDepth 100000 in
def p5y0_454 : ck_Sum := ((2, 0, 0), 245, [.inr (.inr (.inl 1)), .inl (ck_one 44), .inr (.inr (.inl 245))], ([], [], [(201, 44, 44, ck_one 7)]), ([(245, 0, 0)], []), [(.inr (some (.inl (ck_one 0))), 245, ([], [], [(245, 0, 0, ck_one 7)]))])
set_option maxRecDepth 100000 in
theorem p5y0_454_e : ck_ok p1_O none [] [(128, [p5y0_453])] 127 [] 90 p5y0_454 = true := by decide +kernel
theorem p5y0_454_s {X : Int → Int} {LX : Nat} : ck_Ok p1_O X LX 127 p5y0_454 := ck_ok_s (ck_E1 (ck_S1 p5y0_453_s ck_S0) ck_E0) ck_X0 ck_l0 p5y0_454_e
set_option maxRecDepth 100000 in
def p5y0_458 : ck_Sum := ((0, 0, 0), 245, [.inr (.inr (.inl 1)), .inl (ck_one 45)], ([], [], []), ([], []), [(.inr none, 245, ([], [], []))])
set_option maxRecDepth 100000 in
theorem p5y0_458_e : ck_ok p1_O none [] [] 129 [] 82 p5y0_458 = true := by decide +kernel
theorem p5y0_458_s {X : Int → Int} {LX : Nat} : ck_Ok p1_O X LX 129 p5y0_458 := ck_ok_s (ck_E0) ck_X0 ck_l0 p5y0_458_e
set_option maxRecDepth 100000 in
def p5y0_459 : ck_Sum := ((0, 0, 0), 245, [.inr (.inr (.inl 200)), .inl (ck_one 45)], ([], [], [(201, 45, 45, ck_one 6)]), ([], []), [(.inr (some (.inl (ck_one 6))), 245, ([], [], []))])
set_option maxRecDepth 100000 in
theorem p5y0_459_e : ck_ok p1_O none [] [] 34 [] 92 p5y0_459 = true := by decide +kernel
theorem p5y0_459_s {X : Int → Int} {LX : Nat} : ck_Ok p1_O X LX 34 p5y0_459 := ck_ok_s (ck_E0) ck_X0 ck_l0 p5y0_459_e
set_option maxRecDepth 100000 in
def p5y0_460 : ck_Sum := ((1, 0, 0), 245, [.inr (.inr (.inl 1)), .inl (ck_one 45)], ([], [], [(201, 45, 45, ck_one 6)]), ([], []), [(.inr (some (.inl (ck_one 6))), 245, ([], [], []))])
set_option maxRecDepth 100000 in
theorem p5y0_460_e : ck_ok p1_O none [] [(129, [p5y0_458]), (34, [p5y0_459])] 128 [] 86 p5y0_460 = true := by decide +kernel
theorem p5y0_460_s {X : Int → Int} {LX : Nat} : ck_Ok p1_O X LX 128 p5y0_460 := ck_ok_s (ck_E1 (ck_S1 p5y0_458_s ck_S0) (ck_E1 (ck_S1 p5y0_459_s ck_S0) ck_E0)) ck_X0 ck_l0 p5y0_460_e
set_option maxRecDepth 100000 in
def p5y0_461 : ck_Sum := ((2, 0, 0), 245, [.inr (.inr (.inl 1)), .inl (ck_one 45), .inr (.inr (.inl 245))], ([], [], [(201, 45, 45, ck_one 6)]), ([(245, 0, 0)], []), [(.inr (some (.inl (ck_one 0))), 245, ([], [], [(245, 0, 0, ck_one 6)]))])
set_option maxRecDepth 100000 in
theorem p5y0_461_e : ck_ok p1_O none [] [(128, [p5y0_460])] 127 [] 90 p5y0_461 = true := by decide +kernel
theorem p5y0_461_s {X : Int → Int} {LX : Nat} : ck_Ok p1_O X LX 127 p5y0_461 := ck_ok_s (ck_E1 (ck_S1 p5y0_460_s ck_S0) ck_E0) ck_X0 ck_l0 p5y0_461_e
set_option maxRecDepth 100000 in
def p5y0_465 : ck_Sum := ((0, 0, 0), 245, [.inr (.inr (.inl 1)), .inl (ck_one 46)], ([], [], []), ([], []), [(.inr none, 245, ([], [], []))])
set_option maxRecDepth 100000 in
theorem p5y0_465_e : ck_ok p1_O none [] [] 129 [] 82 p5y0_465 = true := by decide +kernel
theorem p5y0_465_s {X : Int → Int} {LX : Nat} : ck_Ok p1_O X LX 129 p5y0_465 := ck_ok_s (ck_E0) ck_X0 ck_l0 p5y0_465_e
set_option maxRecDepth 100000 in
def p5y0_466 : ck_Sum := ((0, 0, 0), 245, [.inr (.inr (.inl 200)), .inl (ck_one 46)], ([], [], [(201, 46, 46, ck_one 5)]), ([], []), [(.inr (some (.inl (ck_one 5))), 245, ([], [], []))])
set_option maxRecDepth 100000 in
theorem p5y0_466_e : ck_ok p1_O none [] [] 34 [] 92 p5y0_466 = true := by decide +kernel
theorem p5y0_466_s {X : Int → Int} {LX : Nat} : ck_Ok p1_O X LX 34 p5y0_466 := ck_ok_s (ck_E0) ck_X0 ck_l0 p5y0_466_e
set_option maxRecDepth 100000 in
def p5y0_467 : ck_Sum := ((1, 0, 0), 245, [.inr (.inr (.inl 1)), .inl (ck_one 46)], ([], [], [(201, 46, 46, ck_one 5)]), ([], []), [(.inr (some (.inl (ck_one 5))), 245, ([], [], []))])
set_option maxRecDepth 100000 in
theorem p5y0_467_e : ck_ok p1_O none [] [(129, [p5y0_465]), (34, [p5y0_466])] 128 [] 86 p5y0_467 = true := by decide +kernel
theorem p5y0_467_s {X : Int → Int} {LX : Nat} : ck_Ok p1_O X LX 128 p5y0_467 := ck_ok_s (ck_E1 (ck_S1 p5y0_465_s ck_S0) (ck_E1 (ck_S1 p5y0_466_s ck_S0) ck_E0)) ck_X0 ck_l0 p5y0_467_e
set_option maxRecDepth 100000 in
def p5y0_468 : ck_Sum := ((2, 0, 0), 245, [.inr (.inr (.inl 1)), .inl (ck_one 46), .inr (.inr (.inl 245))], ([], [], [(201, 46, 46, ck_one 5)]), ([(245, 0, 0)], []), [(.inr (some (.inl (ck_one 0))), 245, ([], [], [(245, 0, 0, ck_one 5)]))])
set_option maxRecDepth 100000 in
theorem p5y0_468_e : ck_ok p1_O none [] [(128, [p5y0_467])] 127 [] 90 p5y0_468 = true := by decide +kernel
theorem p5y0_468_s {X : Int → Int} {LX : Nat} : ck_Ok p1_O X LX 127 p5y0_468 := ck_ok_s (ck_E1 (ck_S1 p5y0_467_s ck_S0) ck_E0) ck_X0 ck_l0 p5y0_468_e
set_option maxRecDepth 100000 in
def p5y0_472 : ck_Sum := ((0, 0, 0), 245, [.inr (.inr (.inl 1)), .inl (ck_one 47)], ([], [], []), ([], []), [(.inr none, 245, ([], [], []))])
set_option maxRecDepth 100000 in
theorem p5y0_472_e : ck_ok p1_O none [] [] 129 [] 82 p5y0_472 = true := by decide +kernel
theorem p5y0_472_s {X : Int → Int} {LX : Nat} : ck_Ok p1_O X LX 129 p5y0_472 := ck_ok_s (ck_E0) ck_X0 ck_l0 p5y0_472_e
set_option maxRecDepth 100000 in
def p5y0_473 : ck_Sum := ((0, 0, 0), 245, [.inr (.inr (.inl 200)), .inl (ck_one 47)], ([], [], [(201, 47, 47, ck_one 3)]), ([], []), [(.inr (some (.inl (ck_one 3))), 245, ([], [], []))])
set_option maxRecDepth 100000 in
theorem p5y0_473_e : ck_ok p1_O none [] [] 34 [] 92 p5y0_473 = true := by decide +kernel
theorem p5y0_473_s {X : Int → Int} {LX : Nat} : ck_Ok p1_O X LX 34 p5y0_473 := ck_ok_s (ck_E0) ck_X0 ck_l0 p5y0_473_e
set_option maxRecDepth 100000 in
def p5y0_474 : ck_Sum := ((1, 0, 0), 245, [.inr (.inr (.inl 1)), .inl (ck_one 47)], ([], [], [(201, 47, 47, ck_one 3)]), ([], []), [(.inr (some (.inl (ck_one 3))), 245, ([], [], []))])
set_option maxRecDepth 100000 in
theorem p5y0_474_e : ck_ok p1_O none [] [(129, [p5y0_472]), (34, [p5y0_473])] 128 [] 86 p5y0_474 = true := by decide +kernel
theorem p5y0_474_s {X : Int → Int} {LX : Nat} : ck_Ok p1_O X LX 128 p5y0_474 := ck_ok_s (ck_E1 (ck_S1 p5y0_472_s ck_S0) (ck_E1 (ck_S1 p5y0_473_s ck_S0) ck_E0)) ck_X0 ck_l0 p5y0_474_e
set_option maxRecDepth 100000 in
def p5y0_475 : ck_Sum := ((2, 0, 0), 245, [.inr (.inr (.inl 1)), .inl (ck_one 47), .inr (.inr (.inl 245))], ([], [], [(201, 47, 47, ck_one 3)]), ([(245, 0, 0)], []), [(.inr (some (.inl (ck_one 0))), 245, ([], [], [(245, 0, 0, ck_one 3)]))])
set_option maxRecDepth 100000 in
theorem p5y0_475_e : ck_ok p1_O none [] [(128, [p5y0_474])] 127 [] 90 p5y0_475 = true := by decide +kernel
theorem p5y0_475_s {X : Int → Int} {LX : Nat} : ck_Ok p1_O X LX 127 p5y0_475 := ck_ok_s (ck_E1 (ck_S1 p5y0_474_s ck_S0) ck_E0) ck_X0 ck_l0 p5y0_475_e
set_option maxRecDepth 100000 in
def p5y0_479 : ck_Sum := ((0, 0, 0), 245, [.inr (.inr (.inl 1)), .inl (ck_one 48)], ([], [], []), ([], []), [(.inr none, 245, ([], [], []))])
set_option maxRecDepth 100000 in
theorem p5y0_479_e : ck_ok p1_O none [] [] 129 [] 82 p5y0_479 = true := by decide +kernel
theorem p5y0_479_s {X : Int → Int} {LX : Nat} : ck_Ok p1_O X LX 129 p5y0_479 := ck_ok_s (ck_E0) ck_X0 ck_l0 p5y0_479_e
set_option maxRecDepth 100000 in
def p5y0_480 : ck_Sum := ((0, 0, 0), 245, [.inr (.inr (.inl 200)), .inl (ck_one 48)], ([], [], [(201, 48, 48, ck_one 2)]), ([], []), [(.inr (some (.inl (ck_one 2))), 245, ([], [], []))])
set_option maxRecDepth 100000 in
theorem p5y0_480_e : ck_ok p1_O none [] [] 34 [] 92 p5y0_480 = true := by decide +kernel
theorem p5y0_480_s {X : Int → Int} {LX : Nat} : ck_Ok p1_O X LX 34 p5y0_480 := ck_ok_s (ck_E0) ck_X0 ck_l0 p5y0_480_e
set_option maxRecDepth 100000 in
def p5y0_481 : ck_Sum := ((1, 0, 0), 245, [.inr (.inr (.inl 1)), .inl (ck_one 48)], ([], [], [(201, 48, 48, ck_one 2)]), ([], []), [(.inr (some (.inl (ck_one 2))), 245, ([], [], []))])
set_option maxRecDepth 100000 in
theorem p5y0_481_e : ck_ok p1_O none [] [(129, [p5y0_479]), (34, [p5y0_480])] 128 [] 86 p5y0_481 = true := by decide +kernel
theorem p5y0_481_s {X : Int → Int} {LX : Nat} : ck_Ok p1_O X LX 128 p5y0_481 := ck_ok_s (ck_E1 (ck_S1 p5y0_479_s ck_S0) (ck_E1 (ck_S1 p5y0_480_s ck_S0) ck_E0)) ck_X0 ck_l0 p5y0_481_e
set_option maxRecDepth 100000 in
def p5y0_482 : ck_Sum := ((2, 0, 0), 245, [.inr (.inr (.inl 1)), .inl (ck_one 48), .inr (.inr (.inl 245))], ([], [], [(201, 48, 48, ck_one 2)]), ([(245, 0, 0)], []), [(.inr (some (.inl (ck_one 0))), 245, ([], [], [(245, 0, 0, ck_one 2)]))])
set_option maxRecDepth 100000 in
theorem p5y0_482_e : ck_ok p1_O none [] [(128, [p5y0_481])] 127 [] 90 p5y0_482 = true := by decide +kernel
theorem p5y0_482_s {X : Int → Int} {LX : Nat} : ck_Ok p1_O X LX 127 p5y0_482 := ck_ok_s (ck_E1 (ck_S1 p5y0_481_s ck_S0) ck_E0) ck_X0 ck_l0 p5y0_482_e
set_option maxRecDepth 100000 in
def p5y0_486 : ck_Sum := ((0, 0, 0), 245, [.inr (.inr (.inl 1)), .inl (ck_one 49)], ([], [], []), ([], []), [(.inr none, 245, ([], [], []))])
set_option maxRecDepth 100000 in
theorem p5y0_486_e : ck_ok p1_O none [] [] 129 [] 82 p5y0_486 = true := by decide +kernel
theorem p5y0_486_s {X : Int → Int} {LX : Nat} : ck_Ok p1_O X LX 129 p5y0_486 := ck_ok_s (ck_E0) ck_X0 ck_l0 p5y0_486_e
set_option maxRecDepth 100000 in
def p5y0_487 : ck_Sum := ((0, 0, 0), 245, [.inr (.inr (.inl 200)), .inl (ck_one 49)], ([], [], [(201, 49, 49, ck_one 4)]), ([], []), [(.inr (some (.inl (ck_one 4))), 245, ([], [], []))])
set_option maxRecDepth 100000 in
theorem p5y0_487_e : ck_ok p1_O none [] [] 34 [] 92 p5y0_487 = true := by decide +kernel
theorem p5y0_487_s {X : Int → Int} {LX : Nat} : ck_Ok p1_O X LX 34 p5y0_487 := ck_ok_s (ck_E0) ck_X0 ck_l0 p5y0_487_e
set_option maxRecDepth 100000 in
def p5y0_488 : ck_Sum := ((1, 0, 0), 245, [.inr (.inr (.inl 1)), .inl (ck_one 49)], ([], [], [(201, 49, 49, ck_one 4)]), ([], []), [(.inr (some (.inl (ck_one 4))), 245, ([], [], []))])
set_option maxRecDepth 100000 in
theorem p5y0_488_e : ck_ok p1_O none [] [(129, [p5y0_486]), (34, [p5y0_487])] 128 [] 86 p5y0_488 = true := by decide +kernel
theorem p5y0_488_s {X : Int → Int} {LX : Nat} : ck_Ok p1_O X LX 128 p5y0_488 := ck_ok_s (ck_E1 (ck_S1 p5y0_486_s ck_S0) (ck_E1 (ck_S1 p5y0_487_s ck_S0) ck_E0)) ck_X0 ck_l0 p5y0_488_e
set_option maxRecDepth 100000 in
def p5y0_489 : ck_Sum := ((2, 0, 0), 245, [.inr (.inr (.inl 1)), .inl (ck_one 49), .inr (.inr (.inl 245))], ([], [], [(201, 49, 49, ck_one 4)]), ([(245, 0, 0)], []), [(.inr (some (.inl (ck_one 0))), 245, ([], [], [(245, 0, 0, ck_one 4)]))])
set_option maxRecDepth 100000 in
theorem p5y0_489_e : ck_ok p1_O none [] [(128, [p5y0_488])] 127 [] 90 p5y0_489 = true := by decide +kernel
theorem p5y0_489_s {X : Int → Int} {LX : Nat} : ck_Ok p1_O X LX 127 p5y0_489 := ck_ok_s (ck_E1 (ck_S1 p5y0_488_s ck_S0) ck_E0) ck_X0 ck_l0 p5y0_489_e
set_option maxRecDepth 100000 in
def p5y0_136 : ck_Sum := ((0, 0, 0), 245, [.inl ((-2147483648), (-1), none), .inl (ck_one 0), .inl (ck_one 299)], ([], [], []), ([], []), [(.inr (some (.inl (ck_one 0))), 245, ([], [], []))])
set_option maxRecDepth 100000 in
theorem p5y0_136_e : ck_ok p1_O none [] [] 287 [] 80 p5y0_136 = true := by decide +kernel
theorem p5y0_136_s {X : Int → Int} {LX : Nat} : ck_Ok p1_O X LX 287 p5y0_136 := ck_ok_s (ck_E0) ck_X0 ck_l0 p5y0_136_e
set_option maxRecDepth 100000 in
def p5y0_137 : ck_Sum := ((1, 0, 0), 245, [.inl ((-2147483648), (-1), none)], ([], [], []), ([], []), [(.inr (some (.inl (ck_one 1))), 245, ([], [], []))])
set_option maxRecDepth 100000 in
theorem p5y0_137_e : ck_ok p1_O none [] [(287, [p5y0_136])] 286 [] 86 p5y0_137 = true := by decide +kernel
theorem p5y0_137_s {X : Int → Int} {LX : Nat} : ck_Ok p1_O X LX 286 p5y0_137 := ck_ok_s (ck_E1 (ck_S1 p5y0_136_s ck_S0) ck_E0) ck_X0 ck_l0 p5y0_137_e
set_option maxRecDepth 100000 in
def p5y0_138 : ck_Sum := ((0, 0, 0), 245, [.inr (.inr (.inl 226)), .inl (ck_one 1), .inl (ck_one 1)], ([], [], []), ([(226, 0, 0)], []), [(.inr (some (.inl (ck_one 1))), 245, ([], [], [(226, 0, 0, ck_one 1)]))])
set_option maxRecDepth 100000 in
theorem p5y0_138_e : ck_ok p1_O none [] [] 283 [] 84 p5y0_138 = true := by decide +kernel
theorem p5y0_138_s {X : Int → Int} {LX : Nat} : ck_Ok p1_O X LX 283 p5y0_138 := ck_ok_s (ck_E0) ck_X0 ck_l0 p5y0_138_e
set_option maxRecDepth 100000 in
def p5y0_139 : ck_Sum := ((2, 0, 0), 245, [.inr (.inr (.inl 226)), .inl ((-2147483648), (-1), none)], ([], [], []), ([(226, 0, 0)], []), [(.inr (some (.inl (ck_one 0))), 245, ([], [], [(226, 0, 0, ck_one 1)]))])
set_option maxRecDepth 100000 in
theorem p5y0_139_e : ck_ok p1_O none [] [(286, [p5y0_137]), (283, [p5y0_138])] 285 [] 94 p5y0_139 = true := by decide +kernel
theorem p5y0_139_s {X : Int → Int} {LX : Nat} : ck_Ok p1_O X LX 285 p5y0_139 := ck_ok_s (ck_E1 (ck_S1 p5y0_137_s ck_S0) (ck_E1 (ck_S1 p5y0_138_s ck_S0) ck_E0)) ck_X0 ck_l0 p5y0_139_e
set_option maxRecDepth 100000 in
def p5y0_145 : ck_Sum := ((0, 0, 0), 245, [.inl (ck_one 0), .inl (ck_one 0), .inl (ck_one 299)], ([], [], []), ([], []), [(.inr (some (.inl (ck_one 1))), 245, ([], [], []))])
set_option maxRecDepth 100000 in
theorem p5y0_145_e : ck_ok p1_O none [] [] 287 [] 88 p5y0_145 = true := by decide +kernel
theorem p5y0_145_s {X : Int → Int} {LX : Nat} : ck_Ok p1_O X LX 287 p5y0_145 := ck_ok_s (ck_E0) ck_X0 ck_l0 p5y0_145_e
set_option maxRecDepth 100000 in
def p5y0_146 : ck_Sum := ((1, 0, 0), 245, [.inl (ck_one 0)], ([], [], []), ([], []), [(.inr (some (.inl (ck_one 0))), 245, ([], [], []))])
set_option maxRecDepth 100000 in
theorem p5y0_146_e : ck_ok p1_O none [] [(287, [p5y0_145])] 286 [] 84 p5y0_146 = true := by decide +kernel
theorem p5y0_146_s {X : Int → Int} {LX : Nat} : ck_Ok p1_O X LX 286 p5y0_146 := ck_ok_s (ck_E1 (ck_S1 p5y0_145_s ck_S0) ck_E0) ck_X0 ck_l0 p5y0_146_e
set_option maxRecDepth 100000 in
def p5y0_147 : ck_Sum := ((0, 0, 0), 245, [.inr (.inr (.inl 226)), .inl (ck_one 0), .inl (ck_one 1)], ([], [], []), ([], []), [(.inr (some (.inl (ck_one 0))), 245, ([], [], []))])
set_option maxRecDepth 100000 in
theorem p5y0_147_e : ck_ok p1_O none [] [] 283 [] 78 p5y0_147 = true := by decide +kernel
theorem p5y0_147_s {X : Int → Int} {LX : Nat} : ck_Ok p1_O X LX 283 p5y0_147 := ck_ok_s (ck_E0) ck_X0 ck_l0 p5y0_147_e
set_option maxRecDepth 100000 in
def p5y0_148 : ck_Sum := ((2, 0, 0), 245, [.inr (.inr (.inl 226)), .inl (ck_one 0)], ([], [], [(234, 0, 0, ck_one 8)]), ([(226, 0, 0)], []), [(.inr (some (.inl (ck_one 8))), 245, ([], [], [(226, 0, 0, ck_one 0)]))])
set_option maxRecDepth 100000 in
theorem p5y0_148_e : ck_ok p1_O none [] [(286, [p5y0_146]), (283, [p5y0_147])] 285 [] 98 p5y0_148 = true := by decide +kernel
theorem p5y0_148_s {X : Int → Int} {LX : Nat} : ck_Ok p1_O X LX 285 p5y0_148 := ck_ok_s (ck_E1 (ck_S1 p5y0_146_s ck_S0) (ck_E1 (ck_S1 p5y0_147_s ck_S0) ck_E0)) ck_X0 ck_l0 p5y0_148_e
set_option maxRecDepth 100000 in
def p5y0_154 : ck_Sum := ((0, 0, 0), 245, [.inl (ck_one 1), .inl (ck_one 0), .inl (ck_one 299)], ([], [], []), ([], []), [(.inr (some (.inl (ck_one 1))), 245, ([], [], []))])
set_option maxRecDepth 100000 in
theorem p5y0_154_e : ck_ok p1_O none [] [] 287 [] 88 p5y0_154 = true := by decide +kernel
theorem p5y0_154_s {X : Int → Int} {LX : Nat} : ck_Ok p1_O X LX 287 p5y0_154 := ck_ok_s (ck_E0) ck_X0 ck_l0 p5y0_154_e
set_option maxRecDepth 100000 in
def p5y0_155 : ck_Sum := ((1, 0, 0), 245, [.inl (ck_one 1)], ([], [], []), ([], []), [(.inr (some (.inl (ck_one 0))), 245, ([], [], []))])
set_option maxRecDepth 100000 in
theorem p5y0_155_e : ck_ok p1_O none [] [(287, [p5y0_154])] 286 [] 84 p5y0_155 = true := by decide +kernel
theorem p5y0_155_s {X : Int → Int} {LX : Nat} : ck_Ok p1_O X LX 286 p5y0_155 := ck_ok_s (ck_E1 (ck_S1 p5y0_154_s ck_S0) ck_E0) ck_X0 ck_l0 p5y0_155_e
set_option maxRecDepth 100000 in
def p5y0_156 : ck_Sum := ((2, 0, 0), 245, [.inr (.inr (.inl 226)), .inl (ck_one 1)], ([], [], [(234, 1, 1, ck_one 8)]), ([(226, 0, 0)], []), [(.inr (some (.inl (ck_one 8))), 245, ([], [], [(226, 0, 0, ck_one 0)]))])
set_option maxRecDepth 100000 in
theorem p5y0_156_e : ck_ok p1_O none [] [(286, [p5y0_155]), (283, [p5y0_147])] 285 [] 98 p5y0_156 = true := by decide +kernel
theorem p5y0_156_s {X : Int → Int} {LX : Nat} : ck_Ok p1_O X LX 285 p5y0_156 := ck_ok_s (ck_E1 (ck_S1 p5y0_155_s ck_S0) (ck_E1 (ck_S1 p5y0_147_s ck_S0) ck_E0)) ck_X0 ck_l0 p5y0_156_e
set_option maxRecDepth 100000 in
def p5y0_161 : ck_Sum := ((0, 0, 0), 245, [.inl (ck_one 2), .inl (ck_one 0), .inl (ck_one 299)], ([], [], []), ([], []), [(.inr (some (.inl (ck_one 1))), 245, ([], [], []))])
set_option maxRecDepth 100000 in
theorem p5y0_161_e : ck_ok p1_O none [] [] 287 [] 88 p5y0_161 = true := by decide +kernel
theorem p5y0_161_s {X : Int → Int} {LX : Nat} : ck_Ok p1_O X LX 287 p5y0_161 := ck_ok_s (ck_E0) ck_X0 ck_l0 p5y0_161_e
set_option maxRecDepth 100000 in
def p5y0_162 : ck_Sum := ((1, 0, 0), 245, [.inl (ck_one 2)], ([], [], []), ([], []), [(.inr (some (.inl (ck_one 0))), 245, ([], [], []))])
set_option maxRecDepth 100000 in
theorem p5y0_162_e : ck_ok p1_O none [] [(287, [p5y0_161])] 286 [] 84 p5y0_162 = true := by decide +kernel
theorem p5y0_162_s {X : Int → Int} {LX : Nat} : ck_Ok p1_O X LX 286 p5y0_162 := ck_ok_s (ck_E1 (ck_S1 p5y0_161_s ck_S0) ck_E0) ck_X0 ck_l0 p5y0_162_e
set_option maxRecDepth 100000 in
def p5y0_163 : ck_Sum := ((2, 0, 0), 245, [.inr (.inr (.inl 226)), .inl (ck_one 2)], ([], [], [(234, 2, 2, ck_one 3)]), ([(226, 0, 0)], []), [(.inr (some (.inl (ck_one 3))), 245, ([], [], [(226, 0, 0, ck_one 0)]))])
set_option maxRecDepth 100000 in
theorem p5y0_163_e : ck_ok p1_O none [] [(286, [p5y0_162]), (283, [p5y0_147])] 285 [] 98 p5y0_163 = true := by decide +kernel
theorem p5y0_163_s {X : Int → Int} {LX : Nat} : ck_Ok p1_O X LX 285 p5y0_163 := ck_ok_s (ck_E1 (ck_S1 p5y0_162_s ck_S0) (ck_E1 (ck_S1 p5y0_147_s ck_S0) ck_E0)) ck_X0 ck_l0 p5y0_163_e
set_option maxRecDepth 100000 in
def p5y0_168 : ck_Sum := ((0, 0, 0), 245, [.inl (ck_one 3), .inl (ck_one 0), .inl (ck_one 299)], ([], [], []), ([], []), [(.inr (some (.inl (ck_one 1))), 245, ([], [], []))])
set_option maxRecDepth 100000 in
theorem p5y0_168_e : ck_ok p1_O none [] [] 287 [] 88 p5y0_168 = true := by decide +kernel
theorem p5y0_168_s {X : Int → Int} {LX : Nat} : ck_Ok p1_O X LX 287 p5y0_168 := ck_ok_s (ck_E0) ck_X0 ck_l0 p5y0_168_e
set_option maxRecDepth 100000 in
def p5y0_169 : ck_Sum := ((1, 0, 0), 245, [.inl (ck_one 3)], ([], [], []), ([], []), [(.inr (some (.inl (ck_one 0))), 245, ([], [], []))])
set_option maxRecDepth 100000 in
theorem p5y0_169_e : ck_ok p1_O none [] [(287, [p5y0_168])] 286 [] 84 p5y0_169 = true := by decide +kernel
theorem p5y0_169_s {X : Int → Int} {LX : Nat} : ck_Ok p1_O X LX 286 p5y0_169 := ck_ok_s (ck_E1 (ck_S1 p5y0_168_s ck_S0) ck_E0) ck_X0 ck_l0 p5y0_169_e
set_option maxRecDepth 100000 in
def p5y0_170 : ck_Sum := ((2, 0, 0), 245, [.inr (.inr (.inl 226)), .inl (ck_one 3)], ([], [], [(234, 3, 3, ck_one 5)]), ([(226, 0, 0)], []), [(.inr (some (.inl (ck_one 5))), 245, ([], [], [(226, 0, 0, ck_one 0)]))])
set_option maxRecDepth 100000 in
theorem p5y0_170_e : ck_ok p1_O none [] [(286, [p5y0_169]), (283, [p5y0_147])] 285 [] 98 p5y0_170 = true := by decide +kernel
theorem p5y0_170_s {X : Int → Int} {LX : Nat} : ck_Ok p1_O X LX 285 p5y0_170 := ck_ok_s (ck_E1 (ck_S1 p5y0_169_s ck_S0) (ck_E1 (ck_S1 p5y0_147_s ck_S0) ck_E0)) ck_X0 ck_l0 p5y0_170_e
set_option maxRecDepth 100000 in
def p5y0_175 : ck_Sum := ((0, 0, 0), 245, [.inl (ck_one 4), .inl (ck_one 0), .inl (ck_one 299)], ([], [], []), ([], []), [(.inr (some (.inl (ck_one 1))), 245, ([], [], []))])
set_option maxRecDepth 100000 in
theorem p5y0_175_e : ck_ok p1_O none [] [] 287 [] 88 p5y0_175 = true := by decide +kernel
theorem p5y0_175_s {X : Int → Int} {LX : Nat} : ck_Ok p1_O X LX 287 p5y0_175 := ck_ok_s (ck_E0) ck_X0 ck_l0 p5y0_175_e
set_option maxRecDepth 100000 in
def p5y0_176 : ck_Sum := ((1, 0, 0), 245, [.inl (ck_one 4)], ([], [], []), ([], []), [(.inr (some (.inl (ck_one 0))), 245, ([], [], []))])
set_option maxRecDepth 100000 in
theorem p5y0_176_e : ck_ok p1_O none [] [(287, [p5y0_175])] 286 [] 84 p5y0_176 = true := by decide +kernel
theorem p5y0_176_s {X : Int → Int} {LX : Nat} : ck_Ok p1_O X LX 286 p5y0_176 := ck_ok_s (ck_E1 (ck_S1 p5y0_175_s ck_S0) ck_E0) ck_X0 ck_l0 p5y0_176_e
set_option maxRecDepth 100000 in
def p5y0_177 : ck_Sum := ((2, 0, 0), 245, [.inr (.inr (.inl 226)), .inl (ck_one 4)], ([], [], [(234, 4, 4, ck_one 1)]), ([(226, 0, 0)], []), [(.inr (some (.inl (ck_one 1))), 245, ([], [], [(226, 0, 0, ck_one 0)]))])
set_option maxRecDepth 100000 in
theorem p5y0_177_e : ck_ok p1_O none [] [(286, [p5y0_176]), (283, [p5y0_147])] 285 [] 98 p5y0_177 = true := by decide +kernel
theorem p5y0_177_s {X : Int → Int} {LX : Nat} : ck_Ok p1_O X LX 285 p5y0_177 := ck_ok_s (ck_E1 (ck_S1 p5y0_176_s ck_S0) (ck_E1 (ck_S1 p5y0_147_s ck_S0) ck_E0)) ck_X0 ck_l0 p5y0_177_e
set_option maxRecDepth 100000 in
def p5y0_182 : ck_Sum := ((0, 0, 0), 245, [.inl (ck_one 5), .inl (ck_one 0), .inl (ck_one 299)], ([], [], []), ([], []), [(.inr (some (.inl (ck_one 1))), 245, ([], [], []))])
set_option maxRecDepth 100000 in
theorem p5y0_182_e : ck_ok p1_O none [] [] 287 [] 88 p5y0_182 = true := by decide +kernel
theorem p5y0_182_s {X : Int → Int} {LX : Nat} : ck_Ok p1_O X LX 287 p5y0_182 := ck_ok_s (ck_E0) ck_X0 ck_l0 p5y0_182_e
set_option maxRecDepth 100000 in
def p5y0_183 : ck_Sum := ((1, 0, 0), 245, [.inl (ck_one 5)], ([], [], []), ([], []), [(.inr (some (.inl (ck_one 0))), 245, ([], [], []))])
set_option maxRecDepth 100000 in
theorem p5y0_183_e : ck_ok p1_O none [] [(287, [p5y0_182])] 286 [] 84 p5y0_183 = true := by decide +kernel
theorem p5y0_183_s {X : Int → Int} {LX : Nat} : ck_Ok p1_O X LX 286 p5y0_183 := ck_ok_s (ck_E1 (ck_S1 p5y0_182_s ck_S0) ck_E0) ck_X0 ck_l0 p5y0_183_e
set_option maxRecDepth 100000 in
def p5y0_184 : ck_Sum := ((2, 0, 0), 245, [.inr (.inr (.inl 226)), .inl (ck_one 5)], ([], [], [(234, 5, 5, ck_one 7)]), ([(226, 0, 0)], []), [(.inr (some (.inl (ck_one 7))), 245, ([], [], [(226, 0, 0, ck_one 0)]))])
set_option maxRecDepth 100000 in
theorem p5y0_184_e : ck_ok p1_O none [] [(286, [p5y0_183]), (283, [p5y0_147])] 285 [] 98 p5y0_184 = true := by decide +kernel
theorem p5y0_184_s {X : Int → Int} {LX : Nat} : ck_Ok p1_O X LX 285 p5y0_184 := ck_ok_s (ck_E1 (ck_S1 p5y0_183_s ck_S0) (ck_E1 (ck_S1 p5y0_147_s ck_S0) ck_E0)) ck_X0 ck_l0 p5y0_184_e
set_option maxRecDepth 100000 in
def p5y0_189 : ck_Sum := ((0, 0, 0), 245, [.inl (ck_one 6), .inl (ck_one 0), .inl (ck_one 299)], ([], [], []), ([], []), [(.inr (some (.inl (ck_one 1))), 245, ([], [], []))])
set_option maxRecDepth 100000 in
theorem p5y0_189_e : ck_ok p1_O none [] [] 287 [] 88 p5y0_189 = true := by decide +kernel
theorem p5y0_189_s {X : Int → Int} {LX : Nat} : ck_Ok p1_O X LX 287 p5y0_189 := ck_ok_s (ck_E0) ck_X0 ck_l0 p5y0_189_e
set_option maxRecDepth 100000 in
def p5y0_190 : ck_Sum := ((1, 0, 0), 245, [.inl (ck_one 6)], ([], [], []), ([], []), [(.inr (some (.inl (ck_one 0))), 245, ([], [], []))])
set_option maxRecDepth 100000 in
theorem p5y0_190_e : ck_ok p1_O none [] [(287, [p5y0_189])] 286 [] 84 p5y0_190 = true := by decide +kernel
theorem p5y0_190_s {X : Int → Int} {LX : Nat} : ck_Ok p1_O X LX 286 p5y0_190 := ck_ok_s (ck_E1 (ck_S1 p5y0_189_s ck_S0) ck_E0) ck_X0 ck_l0 p5y0_190_e
set_option maxRecDepth 100000 in
def p5y0_191 : ck_Sum := ((2, 0, 0), 245, [.inr (.inr (.inl 226)), .inl (ck_one 6)], ([], [], [(234, 6, 6, ck_one 0)]), ([(226, 0, 0)], []), [(.inr (some (.inl (ck_one 0))), 245, ([], [], [(226, 0, 0, ck_one 0)]))])
set_option maxRecDepth 100000 in
theorem p5y0_191_e : ck_ok p1_O none [] [(286, [p5y0_190]), (283, [p5y0_147])] 285 [] 98 p5y0_191 = true := by decide +kernel
theorem p5y0_191_s {X : Int → Int} {LX : Nat} : ck_Ok p1_O X LX 285 p5y0_191 := ck_ok_s (ck_E1 (ck_S1 p5y0_190_s ck_S0) (ck_E1 (ck_S1 p5y0_147_s ck_S0) ck_E0)) ck_X0 ck_l0 p5y0_191_e
set_option maxRecDepth 100000 in
def p5y0_196 : ck_Sum := ((0, 0, 0), 245, [.inl (ck_one 7), .inl (ck_one 0), .inl (ck_one 299)], ([], [], []), ([], []), [(.inr (some (.inl (ck_one 1))), 245, ([], [], []))])
set_option maxRecDepth 100000 in
theorem p5y0_196_e : ck_ok p1_O none [] [] 287 [] 88 p5y0_196 = true := by decide +kernel
theorem p5y0_196_s {X : Int → Int} {LX : Nat} : ck_Ok p1_O X LX 287 p5y0_196 := ck_ok_s (ck_E0) ck_X0 ck_l0 p5y0_196_e
set_option maxRecDepth 100000 in
def p5y0_197 : ck_Sum := ((1, 0, 0), 245, [.inl (ck_one 7)], ([], [], []), ([], []), [(.inr (some (.inl (ck_one 0))), 245, ([], [], []))])
set_option maxRecDepth 100000 in
theorem p5y0_197_e : ck_ok p1_O none [] [(287, [p5y0_196])] 286 [] 84 p5y0_197 = true := by decide +kernel
theorem p5y0_197_s {X : Int → Int} {LX : Nat} : ck_Ok p1_O X LX 286 p5y0_197 := ck_ok_s (ck_E1 (ck_S1 p5y0_196_s ck_S0) ck_E0) ck_X0 ck_l0 p5y0_197_e
set_option maxRecDepth 100000 in
def p5y0_198 : ck_Sum := ((2, 0, 0), 245, [.inr (.inr (.inl 226)), .inl (ck_one 7)], ([], [], [(234, 7, 7, ck_one 9)]), ([(226, 0, 0)], []), [(.inr (some (.inl (ck_one 9))), 245, ([], [], [(226, 0, 0, ck_one 0)]))])
set_option maxRecDepth 100000 in
theorem p5y0_198_e : ck_ok p1_O none [] [(286, [p5y0_197]), (283, [p5y0_147])] 285 [] 98 p5y0_198 = true := by decide +kernel
theorem p5y0_198_s {X : Int → Int} {LX : Nat} : ck_Ok p1_O X LX 285 p5y0_198 := ck_ok_s (ck_E1 (ck_S1 p5y0_197_s ck_S0) (ck_E1 (ck_S1 p5y0_147_s ck_S0) ck_E0)) ck_X0 ck_l0 p5y0_198_e
set_option maxRecDepth 100000 in
def p5y0_203 : ck_Sum := ((0, 0, 0), 245, [.inl (ck_one 8), .inl (ck_one 0), .inl (ck_one 299)], ([], [], []), ([], []), [(.inr (some (.inl (ck_one 1))), 245, ([], [], []))])
set_option maxRecDepth 100000 in
theorem p5y0_203_e : ck_ok p1_O none [] [] 287 [] 88 p5y0_203 = true := by decide +kernel
theorem p5y0_203_s {X : Int → Int} {LX : Nat} : ck_Ok p1_O X LX 287 p5y0_203 := ck_ok_s (ck_E0) ck_X0 ck_l0 p5y0_203_e
set_option maxRecDepth 100000 in
def p5y0_204 : ck_Sum := ((1, 0, 0), 245, [.inl (ck_one 8)], ([], [], []), ([], []), [(.inr (some (.inl (ck_one 0))), 245, ([], [], []))])
set_option maxRecDepth 100000 in
theorem p5y0_204_e : ck_ok p1_O none [] [(287, [p5y0_203])] 286 [] 84 p5y0_204 = true := by decide +kernel
theorem p5y0_204_s {X : Int → Int} {LX : Nat} : ck_Ok p1_O X LX 286 p5y0_204 := ck_ok_s (ck_E1 (ck_S1 p5y0_203_s ck_S0) ck_E0) ck_X0 ck_l0 p5y0_204_e
set_option maxRecDepth 100000 in
def p5y0_205 : ck_Sum := ((2, 0, 0), 245, [.inr (.inr (.inl 226)), .inl (ck_one 8)], ([], [], [(234, 8, 8, ck_one 2)]), ([(226, 0, 0)], []), [(.inr (some (.inl (ck_one 2))), 245, ([], [], [(226, 0, 0, ck_one 0)]))])
set_option maxRecDepth 100000 in
theorem p5y0_205_e : ck_ok p1_O none [] [(286, [p5y0_204]), (283, [p5y0_147])] 285 [] 98 p5y0_205 = true := by decide +kernel
theorem p5y0_205_s {X : Int → Int} {LX : Nat} : ck_Ok p1_O X LX 285 p5y0_205 := ck_ok_s (ck_E1 (ck_S1 p5y0_204_s ck_S0) (ck_E1 (ck_S1 p5y0_147_s ck_S0) ck_E0)) ck_X0 ck_l0 p5y0_205_e
set_option maxRecDepth 100000 in
def p5y0_210 : ck_Sum := ((0, 0, 0), 245, [.inl (ck_one 9), .inl (ck_one 0), .inl (ck_one 299)], ([], [], []), ([], []), [(.inr (some (.inl (ck_one 1))), 245, ([], [], []))])
set_option maxRecDepth 100000 in
theorem p5y0_210_e : ck_ok p1_O none [] [] 287 [] 88 p5y0_210 = true := by decide +kernel
theorem p5y0_210_s {X : Int → Int} {LX : Nat} : ck_Ok p1_O X LX 287 p5y0_210 := ck_ok_s (ck_E0) ck_X0 ck_l0 p5y0_210_e
set_option maxRecDepth 100000 in
def p5y0_211 : ck_Sum := ((1, 0, 0), 245, [.inl (ck_one 9)], ([], [], []), ([], []), [(.inr (some (.inl (ck_one 0))), 245, ([], [], []))])
set_option maxRecDepth 100000 in
theorem p5y0_211_e : ck_ok p1_O none [] [(287, [p5y0_210])] 286 [] 84 p5y0_211 = true := by decide +kernel
theorem p5y0_211_s {X : Int → Int} {LX : Nat} : ck_Ok p1_O X LX 286 p5y0_211 := ck_ok_s (ck_E1 (ck_S1 p5y0_210_s ck_S0) ck_E0) ck_X0 ck_l0 p5y0_211_e
set_option maxRecDepth 100000 in
def p5y0_212 : ck_Sum := ((2, 0, 0), 245, [.inr (.inr (.inl 226)), .inl (ck_one 9)], ([], [], [(234, 9, 9, ck_one 6)]), ([(226, 0, 0)], []), [(.inr (some (.inl (ck_one 6))), 245, ([], [], [(226, 0, 0, ck_one 0)]))])
set_option maxRecDepth 100000 in
theorem p5y0_212_e : ck_ok p1_O none [] [(286, [p5y0_211]), (283, [p5y0_147])] 285 [] 98 p5y0_212 = true := by decide +kernel
theorem p5y0_212_s {X : Int → Int} {LX : Nat} : ck_Ok p1_O X LX 285 p5y0_212 := ck_ok_s (ck_E1 (ck_S1 p5y0_211_s ck_S0) (ck_E1 (ck_S1 p5y0_147_s ck_S0) ck_E0)) ck_X0 ck_l0 p5y0_212_e
set_option maxRecDepth 100000 in
def p5y0_217 : ck_Sum := ((0, 0, 0), 245, [.inl (ck_one 10), .inl (ck_one 0), .inl (ck_one 299)], ([], [], []), ([], []), [(.inr (some (.inl (ck_one 1))), 245, ([], [], []))])
set_option maxRecDepth 100000 in
theorem p5y0_217_e : ck_ok p1_O none [] [] 287 [] 88 p5y0_217 = true := by decide +kernel
theorem p5y0_217_s {X : Int → Int} {LX : Nat} : ck_Ok p1_O X LX 287 p5y0_217 := ck_ok_s (ck_E0) ck_X0 ck_l0 p5y0_217_e
set_option maxRecDepth 100000 in
def p5y0_218 : ck_Sum := ((1, 0, 0), 245, [.inl (ck_one 10)], ([], [], []), ([], []), [(.inr (some (.inl (ck_one 0))), 245, ([], [], []))])
set_option maxRecDepth 100000 in
theorem p5y0_218_e : ck_ok p1_O none [] [(287, [p5y0_217])] 286 [] 84 p5y0_218 = true := by decide +kernel
theorem p5y0_218_s {X : Int → Int} {LX : Nat} : ck_Ok p1_O X LX 286 p5y0_218 := ck_ok_s (ck_E1 (ck_S1 p5y0_217_s ck_S0) ck_E0) ck_X0 ck_l0 p5y0_218_e
set_option maxRecDepth 100000 in
def p5y0_219 : ck_Sum := ((2, 0, 0), 245, [.inr (.inr (.inl 226)), .inl (ck_one 10)], ([], [], [(234, 10, 10, ck_one 9)]), ([(226, 0, 0)], []), [(.inr (some (.inl (ck_one 9))), 245, ([], [], [(226, 0, 0, ck_one 0)]))])
set_option maxRecDepth 100000 in
theorem p5y0_219_e : ck_ok p1_O none [] [(286, [p5y0_218]), (283, [p5y0_147])] 285 [] 98 p5y0_219 = true := by decide +kernel
theorem p5y0_219_s {X : Int → Int} {LX : Nat} : ck_Ok p1_O X LX 285 p5y0_219 := ck_ok_s (ck_E1 (ck_S1 p5y0_218_s ck_S0) (ck_E1 (ck_S1 p5y0_147_s ck_S0) ck_E0)) ck_X0 ck_l0 p5y0_219_e
set_option maxRecDepth 100000 in
def p5y0_224 : ck_Sum := ((0, 0, 0), 245, [.inl (ck_one 11), .inl (ck_one 0), .inl (ck_one 299)], ([], [], []), ([], []), [(.inr (some (.inl (ck_one 1))), 245, ([], [], []))])
set_option maxRecDepth 100000 in
theorem p5y0_224_e : ck_ok p1_O none [] [] 287 [] 88 p5y0_224 = true := by decide +kernel
theorem p5y0_224_s {X : Int → Int} {LX : Nat} : ck_Ok p1_O X LX 287 p5y0_224 := ck_ok_s (ck_E0) ck_X0 ck_l0 p5y0_224_e
set_option maxRecDepth 100000 in
def p5y0_225 : ck_Sum := ((1, 0, 0), 245, [.inl (ck_one 11)], ([], [], []), ([], []), [(.inr (some (.inl (ck_one 0))), 245, ([], [], []))])
set_option maxRecDepth 100000 in
theorem p5y0_225_e : ck_ok p1_O none [] [(287, [p5y0_224])] 286 [] 84 p5y0_225 = true := by decide +kernel
theorem p5y0_225_s {X : Int → Int} {LX : Nat} : ck_Ok p1_O X LX 286 p5y0_225 := ck_ok_s (ck_E1 (ck_S1 p5y0_224_s ck_S0) ck_E0) ck_X0 ck_l0 p5y0_225_e
set_option maxRecDepth 100000 in
def p5y0_226 : ck_Sum := ((2, 0, 0), 245, [.inr (.inr (.inl 226)), .inl (ck_one 11)], ([], [], [(234, 11, 11, ck_one 7)]), ([(226, 0, 0)], []), [(.inr (some (.inl (ck_one 7))), 245, ([], [], [(226, 0, 0, ck_one 0)]))])
set_option maxRecDepth 100000 in
theorem p5y0_226_e : ck_ok p1_O none [] [(286, [p5y0_225]), (283, [p5y0_147])] 285 [] 98 p5y0_226 = true := by decide +kernel
theorem p5y0_226_s {X : Int → Int} {LX : Nat} : ck_Ok p1_O X LX 285 p5y0_226 := ck_ok_s (ck_E1 (ck_S1 p5y0_225_s ck_S0) (ck_E1 (ck_S1 p5y0_147_s ck_S0) ck_E0)) ck_X0 ck_l0 p5y0_226_e
set_option maxRecDepth 100000 in
def p5y0_231 : ck_Sum := ((0, 0, 0), 245, [.inl (ck_one 12), .inl (ck_one 0), .inl (ck_one 299)], ([], [], []), ([], []), [(.inr (some (.inl (ck_one 1))), 245, ([], [], []))])
set_option maxRecDepth 100000 in
theorem p5y0_231_e : ck_ok p1_O none [] [] 287 [] 88 p5y0_231 = true := by decide +kernel
theorem p5y0_231_s {X : Int → Int} {LX : Nat} : ck_Ok p1_O X LX 287 p5y0_231 := ck_ok_s (ck_E0) ck_X0 ck_l0 p5y0_231_e
set_option maxRecDepth 100000 in
def p5y0_232 : ck_Sum := ((1, 0, 0), 245, [.inl (ck_one 12)], ([], [], []), ([], []), [(.inr (some (.inl (ck_one 0))), 245, ([], [], []))])
set_option maxRecDepth 100000 in
theorem p5y0_232_e : ck_ok p1_O none [] [(287, [p5y0_231])] 286 [] 84 p5y0_232 = true := by decide +kernel
theorem p5y0_232_s {X : Int → Int} {LX : Nat} : ck_Ok p1_O X LX 286 p5y0_232 := ck_ok_s (ck_E1 (ck_S1 p5y0_231_s ck_S0) ck_E0) ck_X0 ck_l0 p5y0_232_e
set_option maxRecDepth 100000 in
def p5y0_233 : ck_Sum := ((2, 0, 0), 245, [.inr (.inr (.inl 226)), .inl (ck_one 12)], ([], [], [(234, 12, 12, ck_one 4)]), ([(226, 0, 0)], []), [(.inr (some (.inl (ck_one 4))), 245, ([], [], [(226, 0, 0, ck_one 0)]))])
set_option maxRecDepth 100000 in
theorem p5y0_233_e : ck_ok p1_O none [] [(286, [p5y0_232]), (283, [p5y0_147])] 285 [] 98 p5y0_233 = true := by decide +kernel
theorem p5y0_233_s {X : Int → Int} {LX : Nat} : ck_Ok p1_O X LX 285 p5y0_233 := ck_ok_s (ck_E1 (ck_S1 p5y0_232_s ck_S0) (ck_E1 (ck_S1 p5y0_147_s ck_S0) ck_E0)) ck_X0 ck_l0 p5y0_233_e
set_option maxRecDepth 100000 in
def p5y0_238 : ck_Sum := ((0, 0, 0), 245, [.inl (ck_one 13), .inl (ck_one 0), .inl (ck_one 299)], ([], [], []), ([], []), [(.inr (some (.inl (ck_one 1))), 245, ([], [], []))])
set_option maxRecDepth 100000 in
theorem p5y0_238_e : ck_ok p1_O none [] [] 287 [] 88 p5y0_238 = true := by decide +kernel
theorem p5y0_238_s {X : Int → Int} {LX : Nat} : ck_Ok p1_O X LX 287 p5y0_238 := ck_ok_s (ck_E0) ck_X0 ck_l0 p5y0_238_e
set_option maxRecDepth 100000 in
def p5y0_239 : ck_Sum := ((1, 0, 0), 245, [.inl (ck_one 13)], ([], [], []), ([], []), [(.inr (some (.inl (ck_one 0))), 245, ([], [], []))])
set_option maxRecDepth 100000 in
theorem p5y0_239_e : ck_ok p1_O none [] [(287, [p5y0_238])] 286 [] 84 p5y0_239 = true := by decide +kernel
theorem p5y0_239_s {X : Int → Int} {LX : Nat} : ck_Ok p1_O X LX 286 p5y0_239 := ck_ok_s (ck_E1 (ck_S1 p5y0_238_s ck_S0) ck_E0) ck_X0 ck_l0 p5y0_239_e
set_option maxRecDepth 100000 in
def p5y0_240 : ck_Sum := ((2, 0, 0), 245, [.inr (.inr (.inl 226)), .inl (ck_one 13)], ([], [], [(234, 13, 13, ck_one 0)]), ([(226, 0, 0)], []), [(.inr (some (.inl (ck_one 0))), 245, ([], [], [(226, 0, 0, ck_one 0)]))])
set_option maxRecDepth 100000 in
theorem p5y0_240_e : ck_ok p1_O none [] [(286, [p5y0_239]), (283, [p5y0_147])] 285 [] 98 p5y0_240 = true := by decide +kernel
theorem p5y0_240_s {X : Int → Int} {LX : Nat} : ck_Ok p1_O X LX 285 p5y0_240 := ck_ok_s (ck_E1 (ck_S1 p5y0_239_s ck_S0) (ck_E1 (ck_S1 p5y0_147_s ck_S0) ck_E0)) ck_X0 ck_l0 p5y0_240_e
set_option maxRecDepth 100000 in
def p5y0_245 : ck_Sum := ((0, 0, 0), 245, [.inl (ck_one 14), .inl (ck_one 0), .inl (ck_one 299)], ([], [], []), ([], []), [(.inr (some (.inl (ck_one 1))), 245, ([], [], []))])
set_option maxRecDepth 100000 in
theorem p5y0_245_e : ck_ok p1_O none [] [] 287 [] 88 p5y0_245 = true := by decide +kernel
theorem p5y0_245_s {X : Int → Int} {LX : Nat} : ck_Ok p1_O X LX 287 p5y0_245 := ck_ok_s (ck_E0) ck_X0 ck_l0 p5y0_245_e
set_option maxRecDepth 100000 in
def p5y0_246 : ck_Sum := ((1, 0, 0), 245, [.inl (ck_one 14)], ([], [], []), ([], []), [(.inr (some (.inl (ck_one 0))), 245, ([], [], []))])
set_option maxRecDepth 100000 in
theorem p5y0_246_e : ck_ok p1_O none [] [(287, [p5y0_245])] 286 [] 84 p5y0_246 = true := by decide +kernel
theorem p5y0_246_s {X : Int → Int} {LX : Nat} : ck_Ok p1_O X LX 286 p5y0_246 := ck_ok_s (ck_E1 (ck_S1 p5y0_245_s ck_S0) ck_E0) ck_X0 ck_l0 p5y0_246_e
set_option maxRecDepth 100000 in
def p5y0_247 : ck_Sum := ((2, 0, 0), 245, [.inr (.inr (.inl 226)), .inl (ck_one 14)], ([], [], [(234, 14, 14, ck_one 5)]), ([(226, 0, 0)], []), [(.inr (some (.inl (ck_one 5))), 245, ([], [], [(226, 0, 0, ck_one 0)]))])
set_option maxRecDepth 100000 in
theorem p5y0_247_e : ck_ok p1_O none [] [(286, [p5y0_246]), (283, [p5y0_147])] 285 [] 98 p5y0_247 = true := by decide +kernel
theorem p5y0_247_s {X : Int → Int} {LX : Nat} : ck_Ok p1_O X LX 285 p5y0_247 := ck_ok_s (ck_E1 (ck_S1 p5y0_246_s ck_S0) (ck_E1 (ck_S1 p5y0_147_s ck_S0) ck_E0)) ck_X0 ck_l0 p5y0_247_e
set_option maxRecDepth 100000 in
def p5y0_252 : ck_Sum := ((0, 0, 0), 245, [.inl (ck_one 15), .inl (ck_one 0), .inl (ck_one 299)], ([], [], []), ([], []), [(.inr (some (.inl (ck_one 1))), 245, ([], [], []))])
set_option maxRecDepth 100000 in
theorem p5y0_252_e : ck_ok p1_O none [] [] 287 [] 88 p5y0_252 = true := by decide +kernel
theorem p5y0_252_s {X : Int → Int} {LX : Nat} : ck_Ok p1_O X LX 287 p5y0_252 := ck_ok_s (ck_E0) ck_X0 ck_l0 p5y0_252_e
set_option maxRecDepth 100000 in
def p5y0_253 : ck_Sum := ((1, 0, 0), 245, [.inl (ck_one 15)], ([], [], []), ([], []), [(.inr (some (.inl (ck_one 0))), 245, ([], [], []))])
set_option maxRecDepth 100000 in
theorem p5y0_253_e : ck_ok p1_O none [] [(287, [p5y0_252])] 286 [] 84 p5y0_253 = true := by decide +kernel
theorem p5y0_253_s {X : Int → Int} {LX : Nat} : ck_Ok p1_O X LX 286 p5y0_253 := ck_ok_s (ck_E1 (ck_S1 p5y0_252_s ck_S0) ck_E0) ck_X0 ck_l0 p5y0_253_e
set_option maxRecDepth 100000 in
def p5y0_254 : ck_Sum := ((2, 0, 0), 245, [.inr (.inr (.inl 226)), .inl (ck_one 15)], ([], [], [(234, 15, 15, ck_one 3)]), ([(226, 0, 0)], []), [(.inr (some (.inl (ck_one 3))), 245, ([], [], [(226, 0, 0, ck_one 0)]))])
set_option maxRecDepth 100000 in
theorem p5y0_254_e : ck_ok p1_O none [] [(286, [p5y0_253]), (283, [p5y0_147])] 285 [] 98 p5y0_254 = true := by decide +kernel
theorem p5y0_254_s {X : Int → Int} {LX : Nat} : ck_Ok p1_O X LX 285 p5y0_254 := ck_ok_s (ck_E1 (ck_S1 p5y0_253_s ck_S0) (ck_E1 (ck_S1 p5y0_147_s ck_S0) ck_E0)) ck_X0 ck_l0 p5y0_254_e
set_option maxRecDepth 100000 in
def p5y0_259 : ck_Sum := ((0, 0, 0), 245, [.inl (ck_one 16), .inl (ck_one 0), .inl (ck_one 299)], ([], [], []), ([], []), [(.inr (some (.inl (ck_one 1))), 245, ([], [], []))])
set_option maxRecDepth 100000 in
theorem p5y0_259_e : ck_ok p1_O none [] [] 287 [] 88 p5y0_259 = true := by decide +kernel
theorem p5y0_259_s {X : Int → Int} {LX : Nat} : ck_Ok p1_O X LX 287 p5y0_259 := ck_ok_s (ck_E0) ck_X0 ck_l0 p5y0_259_e
set_option maxRecDepth 100000 in
def p5y0_260 : ck_Sum := ((1, 0, 0), 245, [.inl (ck_one 16)], ([], [], []), ([], []), [(.inr (some (.inl (ck_one 0))), 245, ([], [], []))])
set_option maxRecDepth 100000 in
theorem p5y0_260_e : ck_ok p1_O none [] [(287, [p5y0_259])] 286 [] 84 p5y0_260 = true := by decide +kernel
theorem p5y0_260_s {X : Int → Int} {LX : Nat} : ck_Ok p1_O X LX 286 p5y0_260 := ck_ok_s (ck_E1 (ck_S1 p5y0_259_s ck_S0) ck_E0) ck_X0 ck_l0 p5y0_260_e
set_option maxRecDepth 100000 in
def p5y0_261 : ck_Sum := ((2, 0, 0), 245, [.inr (.inr (.inl 226)), .inl (ck_one 16)], ([], [], [(234, 16, 16, ck_one 9)]), ([(226, 0, 0)], []), [(.inr (some (.inl (ck_one 9))), 245, ([], [], [(226, 0, 0, ck_one 0)]))])
set_option maxRecDepth 100000 in
theorem p5y0_261_e : ck_ok p1_O none [] [(286, [p5y0_260]), (283, [p5y0_147])] 285 [] 98 p5y0_261 = true := by decide +kernel
theorem p5y0_261_s {X : Int → Int} {LX : Nat} : ck_Ok p1_O X LX 285 p5y0_261 := ck_ok_s (ck_E1 (ck_S1 p5y0_260_s ck_S0) (ck_E1 (ck_S1 p5y0_147_s ck_S0) ck_E0)) ck_X0 ck_l0 p5y0_261_e
set_option maxRecDepth 100000 in
def p5y0_266 : ck_Sum := ((0, 0, 0), 245, [.inl (ck_one 17), .inl (ck_one 0), .inl (ck_one 299)], ([], [], []), ([], []), [(.inr (some (.inl (ck_one 1))), 245, ([], [], []))])
set_option maxRecDepth 100000 in
theorem p5y0_266_e : ck_ok p1_O none [] [] 287 [] 88 p5y0_266 = true := by decide +kernel
theorem p5y0_266_s {X : Int → Int} {LX : Nat} : ck_Ok p1_O X LX 287 p5y0_266 := ck_ok_s (ck_E0) ck_X0 ck_l0 p5y0_266_e
set_option maxRecDepth 100000 in
def p5y0_267 : ck_Sum := ((1, 0, 0), 245, [.inl (ck_one 17)], ([], [], []), ([], []), [(.inr (some (.inl (ck_one 0))), 245, ([], [], []))])
set_option maxRecDepth 100000 in
theorem p5y0_267_e : ck_ok p1_O none [] [(287, [p5y0_266])] 286 [] 84 p5y0_267 = true := by decide +kernel
theorem p5y0_267_s {X : Int → Int} {LX : Nat} : ck_Ok p1_O X LX 286 p5y0_267 := ck_ok_s (ck_E1 (ck_S1 p5y0_266_s ck_S0) ck_E0) ck_X0 ck_l0 p5y0_267_e
set_option maxRecDepth 100000 in
def p5y0_268 : ck_Sum := ((2, 0, 0), 245, [.inr (.inr (.inl 226)), .inl (ck_one 17)], ([], [], [(234, 17, 17, ck_one 3)]), ([(226, 0, 0)], []), [(.inr (some (.inl (ck_one 3))), 245, ([], [], [(226, 0, 0, ck_one 0)]))])
set_option maxRecDepth 100000 in
theorem p5y0_268_e : ck_ok p1_O none [] [(286, [p5y0_267]), (283, [p5y0_147])] 285 [] 98 p5y0_268 = true := by decide +kernel
theorem p5y0_268_s {X : Int → Int} {LX : Nat} : ck_Ok p1_O X LX 285 p5y0_268 := ck_ok_s (ck_E1 (ck_S1 p5y0_267_s ck_S0) (ck_E1 (ck_S1 p5y0_147_s ck_S0) ck_E0)) ck_X0 ck_l0 p5y0_268_e
set_option maxRecDepth 100000 in
def p5y0_273 : ck_Sum := ((0, 0, 0), 245, [.inl (ck_one 18), .inl (ck_one 0), .inl (ck_one 299)], ([], [], []), ([], []), [(.inr (some (.inl (ck_one 1))), 245, ([], [], []))])
set_option maxRecDepth 100000 in
theorem p5y0_273_e : ck_ok p1_O none [] [] 287 [] 88 p5y0_273 = true := by decide +kernel
theorem p5y0_273_s {X : Int → Int} {LX : Nat} : ck_Ok p1_O X LX 287 p5y0_273 := ck_ok_s (ck_E0) ck_X0 ck_l0 p5y0_273_e
set_option maxRecDepth 100000 in
def p5y0_274 : ck_Sum := ((1, 0, 0), 245, [.inl (ck_one 18)], ([], [], []), ([], []), [(.inr (some (.inl (ck_one 0))), 245, ([], [], []))])
set_option maxRecDepth 100000 in
theorem p5y0_274_e : ck_ok p1_O none [] [(287, [p5y0_273])] 286 [] 84 p5y0_274 = true := by decide +kernel
theorem p5y0_274_s {X : Int → Int} {LX : Nat} : ck_Ok p1_O X LX 286 p5y0_274 := ck_ok_s (ck_E1 (ck_S1 p5y0_273_s ck_S0) ck_E0) ck_X0 ck_l0 p5y0_274_e
set_option maxRecDepth 100000 in
def p5y0_275 : ck_Sum := ((2, 0, 0), 245, [.inr (.inr (.inl 226)), .inl (ck_one 18)], ([], [], [(234, 18, 18, ck_one 7)]), ([(226, 0, 0)], []), [(.inr (some (.inl (ck_one 7))), 245, ([], [], [(226, 0, 0, ck_one 0)]))])
set_option maxRecDepth 100000 in
theorem p5y0_275_e : ck_ok p1_O none [] [(286, [p5y0_274]), (283, [p5y0_147])] 285 [] 98 p5y0_275 = true := by decide +kernel
theorem p5y0_275_s {X : Int → Int} {LX : Nat} : ck_Ok p1_O X LX 285 p5y0_275 := ck_ok_s (ck_E1 (ck_S1 p5y0_274_s ck_S0) (ck_E1 (ck_S1 p5y0_147_s ck_S0) ck_E0)) ck_X0 ck_l0 p5y0_275_e
set_option maxRecDepth 100000 in
def p5y0_280 : ck_Sum := ((0, 0, 0), 245, [.inl (ck_one 19), .inl (ck_one 0), .inl (ck_one 299)], ([], [], []), ([], []), [(.inr (some (.inl (ck_one 1))), 245, ([], [], []))])
set_option maxRecDepth 100000 in
theorem p5y0_280_e : ck_ok p1_O none [] [] 287 [] 88 p5y0_280 = true := by decide +kernel
theorem p5y0_280_s {X : Int → Int} {LX : Nat} : ck_Ok p1_O X LX 287 p5y0_280 := ck_ok_s (ck_E0) ck_X0 ck_l0 p5y0_280_e
set_option maxRecDepth 100000 in
def p5y0_281 : ck_Sum := ((1, 0, 0), 245, [.inl (ck_one 19)], ([], [], []), ([], []), [(.inr (some (.inl (ck_one 0))), 245, ([], [], []))])
set_option maxRecDepth 100000 in
theorem p5y0_281_e : ck_ok p1_O none [] [(287, [p5y0_280])] 286 [] 84 p5y0_281 = true := by decide +kernel
theorem p5y0_281_s {X : Int → Int} {LX : Nat} : ck_Ok p1_O X LX 286 p5y0_281 := ck_ok_s (ck_E1 (ck_S1 p5y0_280_s ck_S0) ck_E0) ck_X0 ck_l0 p5y0_281_e
set_option maxRecDepth 100000 in
def p5y0_282 : ck_Sum := ((2, 0, 0), 245, [.inr (.inr (.inl 226)), .inl (ck_one 19)], ([], [], [(234, 19, 19, ck_one 6)]), ([(226, 0, 0)], []), [(.inr (some (.inl (ck_one 6))), 245, ([], [], [(226, 0, 0, ck_one 0)]))])
set_option maxRecDepth 100000 in
theorem p5y0_282_e : ck_ok p1_O none [] [(286, [p5y0_281]), (283, [p5y0_147])] 285 [] 98 p5y0_282 = true := by decide +kernel
theorem p5y0_282_s {X : Int → Int} {LX : Nat} : ck_Ok p1_O X LX 285 p5y0_282 := ck_ok_s (ck_E1 (ck_S1 p5y0_281_s ck_S0) (ck_E1 (ck_S1 p5y0_147_s ck_S0) ck_E0)) ck_X0 ck_l0 p5y0_282_e
set_option maxRecDepth 100000 in
def p5y0_287 : ck_Sum := ((0, 0, 0), 245, [.inl (ck_one 20), .inl (ck_one 0), .inl (ck_one 299)], ([], [], []), ([], []), [(.inr (some (.inl (ck_one 1))), 245, ([], [], []))])
set_option maxRecDepth 100000 in
theorem p5y0_287_e : ck_ok p1_O none [] [] 287 [] 88 p5y0_287 = true := by decide +kernel
theorem p5y0_287_s {X : Int → Int} {LX : Nat} : ck_Ok p1_O X LX 287 p5y0_287 := ck_ok_s (ck_E0) ck_X0 ck_l0 p5y0_287_e
set_option maxRecDepth 100000 in
def p5y0_288 : ck_Sum := ((1, 0, 0), 245, [.inl (ck_one 20)], ([], [], []), ([], []), [(.inr (some (.inl (ck_one 0))), 245, ([], [], []))])
set_option maxRecDepth 100000 in
theorem p5y0_288_e : ck_ok p1_O none [] [(287, [p5y0_287])] 286 [] 84 p5y0_288 = true := by decide +kernel
theorem p5y0_288_s {X : Int → Int} {LX : Nat} : ck_Ok p1_O X LX 286 p5y0_288 := ck_ok_s (ck_E1 (ck_S1 p5y0_287_s ck_S0) ck_E0) ck_X0 ck_l0 p5y0_288_e
set_option maxRecDepth 100000 in
def p5y0_289 : ck_Sum := ((2, 0, 0), 245, [.inr (.inr (.inl 226)), .inl (ck_one 20)], ([], [], [(234, 20, 20, ck_one 6)]), ([(226, 0, 0)], []), [(.inr (some (.inl (ck_one 6))), 245, ([], [], [(226, 0, 0, ck_one 0)]))])
set_option maxRecDepth 100000 in
theorem p5y0_289_e : ck_ok p1_O none [] [(286, [p5y0_288]), (283, [p5y0_147])] 285 [] 98 p5y0_289 = true := by decide +kernel
theorem p5y0_289_s {X : Int → Int} {LX : Nat} : ck_Ok p1_O X LX 285 p5y0_289 := ck_ok_s (ck_E1 (ck_S1 p5y0_288_s ck_S0) (ck_E1 (ck_S1 p5y0_147_s ck_S0) ck_E0)) ck_X0 ck_l0 p5y0_289_e
set_option maxRecDepth 100000 in
def p5y0_294 : ck_Sum := ((0, 0, 0), 245, [.inl (ck_one 21), .inl (ck_one 0), .inl (ck_one 299)], ([], [], []), ([], []), [(.inr (some (.inl (ck_one 1))), 245, ([], [], []))])
set_option maxRecDepth 100000 in
theorem p5y0_294_e : ck_ok p1_O none [] [] 287 [] 88 p5y0_294 = true := by decide +kernel
theorem p5y0_294_s {X : Int → Int} {LX : Nat} : ck_Ok p1_O X LX 287 p5y0_294 := ck_ok_s (ck_E0) ck_X0 ck_l0 p5y0_294_e
set_option maxRecDepth 100000 in
def p5y0_295 : ck_Sum := ((1, 0, 0), 245, [.inl (ck_one 21)], ([], [], []), ([], []), [(.inr (some (.inl (ck_one 0))), 245, ([], [], []))])
set_option maxRecDepth 100000 in
theorem p5y0_295_e : ck_ok p1_O none [] [(287, [p5y0_294])] 286 [] 84 p5y0_295 = true := by decide +kernel
theorem p5y0_295_s {X : Int → Int} {LX : Nat} : ck_Ok p1_O X LX 286 p5y0_295 := ck_ok_s (ck_E1 (ck_S1 p5y0_294_s ck_S0) ck_E0) ck_X0 ck_l0 p5y0_295_e
set_option maxRecDepth 100000 in
def p5y0_296 : ck_Sum := ((2, 0, 0), 245, [.inr (.inr (.inl 226)), .inl (ck_one 21)], ([], [], [(234, 21, 21, ck_one 8)]), ([(226, 0, 0)], []), [(.inr (some (.inl (ck_one 8))), 245, ([], [], [(226, 0, 0, ck_one 0)]))])
set_option maxRecDepth 100000 in
theorem p5y0_296_e : ck_ok p1_O none [] [(286, [p5y0_295]), (283, [p5y0_147])] 285 [] 98 p5y0_296 = true := by decide +kernel
theorem p5y0_296_s {X : Int → Int} {LX : Nat} : ck_Ok p1_O X LX 285 p5y0_296 := ck_ok_s (ck_E1 (ck_S1 p5y0_295_s ck_S0) (ck_E1 (ck_S1 p5y0_147_s ck_S0) ck_E0)) ck_X0 ck_l0 p5y0_296_e
set_option maxRecDepth 100000 in
def p5y0_301 : ck_Sum := ((0, 0, 0), 245, [.inl (ck_one 22), .inl (ck_one 0), .inl (ck_one 299)], ([], [], []), ([], []), [(.inr (some (.inl (ck_one 1))), 245, ([], [], []))])
set_option maxRecDepth 100000 in
theorem p5y0_301_e : ck_ok p1_O none [] [] 287 [] 88 p5y0_301 = true := by decide +kernel
theorem p5y0_301_s {X : Int → Int} {LX : Nat} : ck_Ok p1_O X LX 287 p5y0_301 := ck_ok_s (ck_E0) ck_X0 ck_l0 p5y0_301_e
set_option maxRecDepth 100000 in
def p5y0_302 : ck_Sum := ((1, 0, 0), 245, [.inl (ck_one 22)], ([], [], []), ([], []), [(.inr (some (.inl (ck_one 0))), 245, ([], [], []))])
set_option maxRecDepth 100000 in
theorem p5y0_302_e : ck_ok p1_O none [] [(287, [p5y0_301])] 286 [] 84 p5y0_302 = true := by decide +kernel
theorem p5y0_302_s {X : Int → Int} {LX : Nat} : ck_Ok p1_O X LX 286 p5y0_302 := ck_ok_s (ck_E1 (ck_S1 p5y0_301_s ck_S0) ck_E0) ck_X0 ck_l0 p5y0_302_e
set_option maxRecDepth 100000 in
def p5y0_303 : ck_Sum := ((2, 0, 0), 245, [.inr (.inr (.inl 226)), .inl (ck_one 22)], ([], [], [(234, 22, 22, ck_one 5)]), ([(226, 0, 0)], []), [(.inr (some (.inl (ck_one 5))), 245, ([], [], [(226, 0, 0, ck_one 0)]))])
set_option maxRecDepth 100000 in
theorem p5y0_303_e : ck_ok p1_O none [] [(286, [p5y0_302]), (283, [p5y0_147])] 285 [] 98 p5y0_303 = true := by decide +kernel
theorem p5y0_303_s {X : Int → Int} {LX : Nat} : ck_Ok p1_O X LX 285 p5y0_303 := ck_ok_s (ck_E1 (ck_S1 p5y0_302_s ck_S0) (ck_E1 (ck_S1 p5y0_147_s ck_S0) ck_E0)) ck_X0 ck_l0 p5y0_303_e
set_option maxRecDepth 100000 in
def p5y0_308 : ck_Sum := ((0, 0, 0), 245, [.inl (ck_one 23), .inl (ck_one 0), .inl (ck_one 299)], ([], [], []), ([], []), [(.inr (some (.inl (ck_one 1))), 245, ([], [], []))])
set_option maxRecDepth 100000 in
theorem p5y0_308_e : ck_ok p1_O none [] [] 287 [] 88 p5y0_308 = true := by decide +kernel
theorem p5y0_308_s {X : Int → Int} {LX : Nat} : ck_Ok p1_O X LX 287 p5y0_308 := ck_ok_s (ck_E0) ck_X0 ck_l0 p5y0_308_e
set_option maxRecDepth 100000 in
def p5y0_309 : ck_Sum := ((1, 0, 0), 245, [.inl (ck_one 23)], ([], [], []), ([], []), [(.inr (some (.inl (ck_one 0))), 245, ([], [], []))])
set_option maxRecDepth 100000 in
theorem p5y0_309_e : ck_ok p1_O none [] [(287, [p5y0_308])] 286 [] 84 p5y0_309 = true := by decide +kernel
theorem p5y0_309_s {X : Int → Int} {LX : Nat} : ck_Ok p1_O X LX 286 p5y0_309 := ck_ok_s (ck_E1 (ck_S1 p5y0_308_s ck_S0) ck_E0) ck_X0 ck_l0 p5y0_309_e
set_option maxRecDepth 100000 in
def p5y0_310 : ck_Sum := ((2, 0, 0), 245, [.inr (.inr (.inl 226)), .inl (ck_one 23)], ([], [], [(234, 23, 23, ck_one 1)]), ([(226, 0, 0)], []), [(.inr (some (.inl (ck_one 1))), 245, ([], [], [(226, 0, 0, ck_one 0)]))])
set_option maxRecDepth 100000 in
theorem p5y0_310_e : ck_ok p1_O none [] [(286, [p5y0_309]), (283, [p5y0_147])] 285 [] 98 p5y0_310 = true := by decide +kernel
theorem p5y0_310_s {X : Int → Int} {LX : Nat} : ck_Ok p1_O X LX 285 p5y0_310 := ck_ok_s (ck_E1 (ck_S1 p5y0_309_s ck_S0) (ck_E1 (ck_S1 p5y0_147_s ck_S0) ck_E0)) ck_X0 ck_l0 p5y0_310_e
set_option maxRecDepth 100000 in
def p5y0_315 : ck_Sum := ((0, 0, 0), 245, [.inl (ck_one 24), .inl (ck_one 0), .inl (ck_one 299)], ([], [], []), ([], []), [(.inr (some (.inl (ck_one 1))), 245, ([], [], []))])
set_option maxRecDepth 100000 in
theorem p5y0_315_e : ck_ok p1_O none [] [] 287 [] 88 p5y0_315 = true := by decide +kernel
theorem p5y0_315_s {X : Int → Int} {LX : Nat} : ck_Ok p1_O X LX 287 p5y0_315 := ck_ok_s (ck_E0) ck_X0 ck_l0 p5y0_315_e
set_option maxRecDepth 100000 in
def p5y0_316 : ck_Sum := ((1, 0, 0), 245, [.inl (ck_one 24)], ([], [], []), ([], []), [(.inr (some (.inl (ck_one 0))), 245, ([], [], []))])
set_option maxRecDepth 100000 in
theorem p5y0_316_e : ck_ok p1_O none [] [(287, [p5y0_315])] 286 [] 84 p5y0_316 = true := by decide +kernel
theorem p5y0_316_s {X : Int → Int} {LX : Nat} : ck_Ok p1_O X LX 286 p5y0_316 := ck_ok_s (ck_E1 (ck_S1 p5y0_315_s ck_S0) ck_E0) ck_X0 ck_l0 p5y0_316_e
set_option maxRecDepth 100000 in
def p5y0_317 : ck_Sum := ((2, 0, 0), 245, [.inr (.inr (.inl 226)), .inl (ck_one 24)], ([], [], [(234, 24, 24, ck_one 7)]), ([(226, 0, 0)], []), [(.inr (some (.inl (ck_one 7))), 245, ([], [], [(226, 0, 0, ck_one 0)]))])
set_option maxRecDepth 100000 in
theorem p5y0_317_e : ck_ok p1_O none [] [(286, [p5y0_316]), (283, [p5y0_147])] 285 [] 98 p5y0_317 = true := by decide +kernel
theorem p5y0_317_s {X : Int → Int} {LX : Nat} : ck_Ok p1_O X LX 285 p5y0_317 := ck_ok_s (ck_E1 (ck_S1 p5y0_316_s ck_S0) (ck_E1 (ck_S1 p5y0_147_s ck_S0) ck_E0)) ck_X0 ck_l0 p5y0_317_e
set_option maxRecDepth 100000 in
def p5y0_322 : ck_Sum := ((0, 0, 0), 245, [.inl (ck_one 25), .inl (ck_one 0), .inl (ck_one 299)], ([], [], []), ([], []), [(.inr (some (.inl (ck_one 1))), 245, ([], [], []))])
set_option maxRecDepth 100000 in
theorem p5y0_322_e : ck_ok p1_O none [] [] 287 [] 88 p5y0_322 = true := by decide +kernel
theorem p5y0_322_s {X : Int → Int} {LX : Nat} : ck_Ok p1_O X LX 287 p5y0_322 := ck_ok_s (ck_E0) ck_X0 ck_l0 p5y0_322_e
set_option maxRecDepth 100000 in
def p5y0_323 : ck_Sum := ((1, 0, 0), 245, [.inl (ck_one 25)], ([], [], []), ([], []), [(.inr (some (.inl (ck_one 0))), 245, ([], [], []))])
set_option maxRecDepth 100000 in
theorem p5y0_323_e : ck_ok p1_O none [] [(287, [p5y0_322])] 286 [] 84 p5y0_323 = true := by decide +kernel
theorem p5y0_323_s {X : Int → Int} {LX : Nat} : ck_Ok p1_O X LX 286 p5y0_323 := ck_ok_s (ck_E1 (ck_S1 p5y0_322_s ck_S0) ck_E0) ck_X0 ck_l0 p5y0_323_e
set_option maxRecDepth 100000 in
def p5y0_324 : ck_Sum := ((2, 0, 0), 245, [.inr (.inr (.inl 226)), .inl (ck_one 25)], ([], [], [(234, 25, 25, ck_one 4)]), ([(226, 0, 0)], []), [(.inr (some (.inl (ck_one 4))), 245, ([], [], [(226, 0, 0, ck_one 0)]))])
set_option maxRecDepth 100000 in
theorem p5y0_324_e : ck_ok p1_O none [] [(286, [p5y0_323]), (283, [p5y0_147])] 285 [] 98 p5y0_324 = true := by decide +kernel
theorem p5y0_324_s {X : Int → Int} {LX : Nat} : ck_Ok p1_O X LX 285 p5y0_324 := ck_ok_s (ck_E1 (ck_S1 p5y0_323_s ck_S0) (ck_E1 (ck_S1 p5y0_147_s ck_S0) ck_E0)) ck_X0 ck_l0 p5y0_324_e
set_option maxRecDepth 100000 in
def p5y0_329 : ck_Sum := ((0, 0, 0), 245, [.inl (ck_one 26), .inl (ck_one 0), .inl (ck_one 299)], ([], [], []), ([], []), [(.inr (some (.inl (ck_one 1))), 245, ([], [], []))])
set_option maxRecDepth 100000 in
theorem p5y0_329_e : ck_ok p1_O none [] [] 287 [] 88 p5y0_329 = true := by decide +kernel
theorem p5y0_329_s {X : Int → Int} {LX : Nat} : ck_Ok p1_O X LX 287 p5y0_329 := ck_ok_s (ck_E0) ck_X0 ck_l0 p5y0_329_e
set_option maxRecDepth 100000 in
def p5y0_330 : ck_Sum := ((1, 0, 0), 245, [.inl (ck_one 26)], ([], [], []), ([], []), [(.inr (some (.inl (ck_one 0))), 245, ([], [], []))])
set_option maxRecDepth 100000 in
theorem p5y0_330_e : ck_ok p1_O none [] [(287, [p5y0_329])] 286 [] 84 p5y0_330 = true := by decide +kernel
theorem p5y0_330_s {X : Int → Int} {LX : Nat} : ck_Ok p1_O X LX 286 p5y0_330 := ck_ok_s (ck_E1 (ck_S1 p5y0_329_s ck_S0) ck_E0) ck_X0 ck_l0 p5y0_330_e
set_option maxRecDepth 100000 in
def p5y0_331 : ck_Sum := ((2, 0, 0), 245, [.inr (.inr (.inl 226)), .inl (ck_one 26)], ([], [], [(234, 26, 26, ck_one 1)]), ([(226, 0, 0)], []), [(.inr (some (.inl (ck_one 1))), 245, ([], [], [(226, 0, 0, ck_one 0)]))])
set_option maxRecDepth 100000 in
theorem p5y0_331_e : ck_ok p1_O none [] [(286, [p5y0_330]), (283, [p5y0_147])] 285 [] 98 p5y0_331 = true := by decide +kernel
theorem p5y0_331_s {X : Int → Int} {LX : Nat} : ck_Ok p1_O X LX 285 p5y0_331 := ck_ok_s (ck_E1 (ck_S1 p5y0_330_s ck_S0) (ck_E1 (ck_S1 p5y0_147_s ck_S0) ck_E0)) ck_X0 ck_l0 p5y0_331_e
set_option maxRecDepth 100000 in
def p5y0_336 : ck_Sum := ((0, 0, 0), 245, [.inl (ck_one 27), .inl (ck_one 0), .inl (ck_one 299)], ([], [], []), ([], []), [(.inr (some (.inl (ck_one 1))), 245, ([], [], []))])
set_option maxRecDepth 100000 in
theorem p5y0_336_e : ck_ok p1_O none [] [] 287 [] 88 p5y0_336 = true := by decide +kernel
theorem p5y0_336_s {X : Int → Int} {LX : Nat} : ck_Ok p1_O X LX 287 p5y0_336 := ck_ok_s (ck_E0) ck_X0 ck_l0 p5y0_336_e
set_option maxRecDepth 100000 in
def p5y0_337 : ck_Sum := ((1, 0, 0), 245, [.inl (ck_one 27)], ([], [], []), ([], []), [(.inr (some (.inl (ck_one 0))), 245, ([], [], []))])
set_option maxRecDepth 100000 in
theorem p5y0_337_e : ck_ok p1_O none [] [(287, [p5y0_336])] 286 [] 84 p5y0_337 = true := by decide +kernel
theorem p5y0_337_s {X : Int → Int} {LX : Nat} : ck_Ok p1_O X LX 286 p5y0_337 := ck_ok_s (ck_E1 (ck_S1 p5y0_336_s ck_S0) ck_E0) ck_X0 ck_l0 p5y0_337_e
set_option maxRecDepth 100000 in
def p5y0_338 : ck_Sum := ((2, 0, 0), 245, [.inr (.inr (.inl 226)), .inl (ck_one 27)], ([], [], [(234, 27, 27, ck_one 5)]), ([(226, 0, 0)], []), [(.inr (some (.inl (ck_one 5))), 245, ([], [], [(226, 0, 0, ck_one 0)]))])
set_option maxRecDepth 100000 in
theorem p5y0_338_e : ck_ok p1_O none [] [(286, [p5y0_337]), (283, [p5y0_147])] 285 [] 98 p5y0_338 = true := by decide +kernel
theorem p5y0_338_s {X : Int → Int} {LX : Nat} : ck_Ok p1_O X LX 285 p5y0_338 := ck_ok_s (ck_E1 (ck_S1 p5y0_337_s ck_S0) (ck_E1 (ck_S1 p5y0_147_s ck_S0) ck_E0)) ck_X0 ck_l0 p5y0_338_e
set_option maxRecDepth 100000 in
def p5y0_343 : ck_Sum := ((0, 0, 0), 245, [.inl (ck_one 28), .inl (ck_one 0), .inl (ck_one 299)], ([], [], []), ([], []), [(.inr (some (.inl (ck_one 1))), 245, ([], [], []))])
set_option maxRecDepth 100000 in
theorem p5y0_343_e : ck_ok p1_O none [] [] 287 [] 88 p5y0_343 = true := by decide +kernel
theorem p5y0_343_s {X : Int → Int} {LX : Nat} : ck_Ok p1_O X LX 287 p5y0_343 := ck_ok_s (ck_E0) ck_X0 ck_l0 p5y0_343_e
set_option maxRecDepth 100000 in
def p5y0_344 : ck_Sum := ((1, 0, 0), 245, [.inl (ck_one 28)], ([], [], []), ([], []), [(.inr (some (.inl (ck_one 0))), 245, ([], [], []))])
set_option maxRecDepth 100000 in
theorem p5y0_344_e : ck_ok p1_O none [] [(287, [p5y0_343])] 286 [] 84 p5y0_344 = true := by decide +kernel
theorem p5y0_344_s {X : Int → Int} {LX : Nat} : ck_Ok p1_O X LX 286 p5y0_344 := ck_ok_s (ck_E1 (ck_S1 p5y0_343_s ck_S0) ck_E0) ck_X0 ck_l0 p5y0_344_e
set_option maxRecDepth 100000 in
def p5y0_345 : ck_Sum := ((2, 0, 0), 245, [.inr (.inr (.inl 226)), .inl (ck_one 28)], ([], [], [(234, 28, 28, ck_one 2)]), ([(226, 0, 0)], []), [(.inr (some (.inl (ck_one 2))), 245, ([], [], [(226, 0, 0, ck_one 0)]))])
set_option maxRecDepth 100000 in
theorem p5y0_345_e : ck_ok p1_O none [] [(286, [p5y0_344]), (283, [p5y0_147])] 285 [] 98 p5y0_345 = true := by decide +kernel
theorem p5y0_345_s {X : Int → Int} {LX : Nat} : ck_Ok p1_O X LX 285 p5y0_345 := ck_ok_s (ck_E1 (ck_S1 p5y0_344_s ck_S0) (ck_E1 (ck_S1 p5y0_147_s ck_S0) ck_E0)) ck_X0 ck_l0 p5y0_345_e
set_option maxRecDepth 100000 in
def p5y0_350 : ck_Sum := ((0, 0, 0), 245, [.inl (ck_one 29), .inl (ck_one 0), .inl (ck_one 299)], ([], [], []), ([], []), [(.inr (some (.inl (ck_one 1))), 245, ([], [], []))])
set_option maxRecDepth 100000 in
theorem p5y0_350_e : ck_ok p1_O none [] [] 287 [] 88 p5y0_350 = true := by decide +kernel
theorem p5y0_350_s {X : Int → Int} {LX : Nat} : ck_Ok p1_O X LX 287 p5y0_350 := ck_ok_s (ck_E0) ck_X0 ck_l0 p5y0_350_e
set_option maxRecDepth 100000 in
def p5y0_351 : ck_Sum := ((1, 0, 0), 245, [.inl (ck_one 29)], ([], [], []), ([], []), [(.inr (some (.inl (ck_one 0))), 245, ([], [], []))])
set_option maxRecDepth 100000 in
theorem p5y0_351_e : ck_ok p1_O none [] [(287, [p5y0_350])] 286 [] 84 p5y0_351 = true := by decide +kernel
theorem p5y0_351_s {X : Int → Int} {LX : Nat} : ck_Ok p1_O X LX 286 p5y0_351 := ck_ok_s (ck_E1 (ck_S1 p5y0_350_s ck_S0) ck_E0) ck_X0 ck_l0 p5y0_351_e
set_option maxRecDepth 100000 in
def p5y0_352 : ck_Sum := ((2, 0, 0), 245, [.inr (.inr (.inl 226)), .inl (ck_one 29)], ([], [], [(234, 29, 29, ck_one 6)]), ([(226, 0, 0)], []), [(.inr (some (.inl (ck_one 6))), 245, ([], [], [(226, 0, 0, ck_one 0)]))])
set_option maxRecDepth 100000 in
theorem p5y0_352_e : ck_ok p1_O none [] [(286, [p5y0_351]), (283, [p5y0_147])] 285 [] 98 p5y0_352 = true := by decide +kernel
theorem p5y0_352_s {X : Int → Int} {LX : Nat} : ck_Ok p1_O X LX 285 p5y0_352 := ck_ok_s (ck_E1 (ck_S1 p5y0_351_s ck_S0) (ck_E1 (ck_S1 p5y0_147_s ck_S0) ck_E0)) ck_X0 ck_l0 p5y0_352_e
set_option maxRecDepth 100000 in
def p5y0_357 : ck_Sum := ((0, 0, 0), 245, [.inl (ck_one 30), .inl (ck_one 0), .inl (ck_one 299)], ([], [], []), ([], []), [(.inr (some (.inl (ck_one 1))), 245, ([], [], []))])
set_option maxRecDepth 100000 in
theorem p5y0_357_e : ck_ok p1_O none [] [] 287 [] 88 p5y0_357 = true := by decide +kernel
theorem p5y0_357_s {X : Int → Int} {LX : Nat} : ck_Ok p1_O X LX 287 p5y0_357 := ck_ok_s (ck_E0) ck_X0 ck_l0 p5y0_357_e
set_option maxRecDepth 100000 in
def p5y0_358 : ck_Sum := ((1, 0, 0), 245, [.inl (ck_one 30)], ([], [], []), ([], []), [(.inr (some (.inl (ck_one 0))), 245, ([], [], []))])
set_option maxRecDepth 100000 in
theorem p5y0_358_e : ck_ok p1_O none [] [(287, [p5y0_357])] 286 [] 84 p5y0_358 = true := by decide +kernel
theorem p5y0_358_s {X : Int → Int} {LX : Nat} : ck_Ok p1_O X LX 286 p5y0_358 := ck_ok_s (ck_E1 (ck_S1 p5y0_357_s ck_S0) ck_E0) ck_X0 ck_l0 p5y0_358_e
set_option maxRecDepth 100000 in
def p5y0_359 : ck_Sum := ((2, 0, 0), 245, [.inr (.inr (.inl 226)), .inl (ck_one 30)], ([], [], [(234, 30, 30, ck_one 4)]), ([(226, 0, 0)], []), [(.inr (some (.inl (ck_one 4))), 245, ([], [], [(226, 0, 0, ck_one 0)]))])
set_option maxRecDepth 100000 in
theorem p5y0_359_e : ck_ok p1_O none [] [(286, [p5y0_358]), (283, [p5y0_147])] 285 [] 98 p5y0_359 = true := by decide +kernel
theorem p5y0_359_s {X : Int → Int} {LX : Nat} : ck_Ok p1_O X LX 285 p5y0_359 := ck_ok_s (ck_E1 (ck_S1 p5y0_358_s ck_S0) (ck_E1 (ck_S1 p5y0_147_s ck_S0) ck_E0)) ck_X0 ck_l0 p5y0_359_e
set_option maxRecDepth 100000 in
def p5y0_364 : ck_Sum := ((0, 0, 0), 245, [.inl (ck_one 31), .inl (ck_one 0), .inl (ck_one 299)], ([], [], []), ([], []), [(.inr (some (.inl (ck_one 1))), 245, ([], [], []))])
set_option maxRecDepth 100000 in
theorem p5y0_364_e : ck_ok p1_O none [] [] 287 [] 88 p5y0_364 = true := by decide +kernel
theorem p5y0_364_s {X : Int → Int} {LX : Nat} : ck_Ok p1_O X LX 287 p5y0_364 := ck_ok_s (ck_E0) ck_X0 ck_l0 p5y0_364_e
set_option maxRecDepth 100000 in
def p5y0_365 : ck_Sum := ((1, 0, 0), 245, [.inl (ck_one 31)], ([], [], []), ([], []), [(.inr (some (.inl (ck_one 0))), 245, ([], [], []))])
set_option maxRecDepth 100000 in
theorem p5y0_365_e : ck_ok p1_O none [] [(287, [p5y0_364])] 286 [] 84 p5y0_365 = true := by decide +kernel
theorem p5y0_365_s {X : Int → Int} {LX : Nat} : ck_Ok p1_O X LX 286 p5y0_365 := ck_ok_s (ck_E1 (ck_S1 p5y0_364_s ck_S0) ck_E0) ck_X0 ck_l0 p5y0_365_e
set_option maxRecDepth 100000 in
def p5y0_366 : ck_Sum := ((2, 0, 0), 245, [.inr (.inr (.inl 226)), .inl (ck_one 31)], ([], [], [(234, 31, 31, ck_one 5)]), ([(226, 0, 0)], []), [(.inr (some (.inl (ck_one 5))), 245, ([], [], [(226, 0, 0, ck_one 0)]))])
set_option maxRecDepth 100000 in
theorem p5y0_366_e : ck_ok p1_O none [] [(286, [p5y0_365]), (283, [p5y0_147])] 285 [] 98 p5y0_366 = true := by decide +kernel
theorem p5y0_366_s {X : Int → Int} {LX : Nat} : ck_Ok p1_O X LX 285 p5y0_366 := ck_ok_s (ck_E1 (ck_S1 p5y0_365_s ck_S0) (ck_E1 (ck_S1 p5y0_147_s ck_S0) ck_E0)) ck_X0 ck_l0 p5y0_366_e
set_option maxRecDepth 100000 in
def p5y0_371 : ck_Sum := ((0, 0, 0), 245, [.inl (ck_one 32), .inl (ck_one 0), .inl (ck_one 299)], ([], [], []), ([], []), [(.inr (some (.inl (ck_one 1))), 245, ([], [], []))])
set_option maxRecDepth 100000 in
theorem p5y0_371_e : ck_ok p1_O none [] [] 287 [] 88 p5y0_371 = true := by decide +kernel
theorem p5y0_371_s {X : Int → Int} {LX : Nat} : ck_Ok p1_O X LX 287 p5y0_371 := ck_ok_s (ck_E0) ck_X0 ck_l0 p5y0_371_e
set_option maxRecDepth 100000 in
def p5y0_372 : ck_Sum := ((1, 0, 0), 245, [.inl (ck_one 32)], ([], [], []), ([], []), [(.inr (some (.inl (ck_one 0))), 245, ([], [], []))])
set_option maxRecDepth 100000 in
theorem p5y0_372_e : ck_ok p1_O none [] [(287, [p5y0_371])] 286 [] 84 p5y0_372 = true := by decide +kernel
theorem p5y0_372_s {X : Int → Int} {LX : Nat} : ck_Ok p1_O X LX 286 p5y0_372 := ck_ok_s (ck_E1 (ck_S1 p5y0_371_s ck_S0) ck_E0) ck_X0 ck_l0 p5y0_372_e
set_option maxRecDepth 100000 in
def p5y0_373 : ck_Sum := ((2, 0, 0), 245, [.inr (.inr (.inl 226)), .inl (ck_one 32)], ([], [], [(234, 32, 32, ck_one 4)]), ([(226, 0, 0)], []), [(.inr (some (.inl (ck_one 4))), 245, ([], [], [(226, 0, 0, ck_one 0)]))])
set_option maxRecDepth 100000 in
theorem p5y0_373_e : ck_ok p1_O none [] [(286, [p5y0_372]), (283, [p5y0_147])] 285 [] 98 p5y0_373 = true := by decide +kernel
theorem p5y0_373_s {X : Int → Int} {LX : Nat} : ck_Ok p1_O X LX 285 p5y0_373 := ck_ok_s (ck_E1 (ck_S1 p5y0_372_s ck_S0) (ck_E1 (ck_S1 p5y0_147_s ck_S0) ck_E0)) ck_X0 ck_l0 p5y0_373_e
set_option maxRecDepth 100000 in
def p5y0_378 : ck_Sum := ((0, 0, 0), 245, [.inl (ck_one 33), .inl (ck_one 0), .inl (ck_one 299)], ([], [], []), ([], []), [(.inr (some (.inl (ck_one 1))), 245, ([], [], []))])
set_option maxRecDepth 100000 in
theorem p5y0_378_e : ck_ok p1_O none [] [] 287 [] 88 p5y0_378 = true := by decide +kernel
theorem p5y0_378_s {X : Int → Int} {LX : Nat} : ck_Ok p1_O X LX 287 p5y0_378 := ck_ok_s (ck_E0) ck_X0 ck_l0 p5y0_378_e
set_option maxRecDepth 100000 in
def p5y0_379 : ck_Sum := ((1, 0, 0), 245, [.inl (ck_one 33)], ([], [], []), ([], []), [(.inr (some (.inl (ck_one 0))), 245, ([], [], []))])
set_option maxRecDepth 100000 in
theorem p5y0_379_e : ck_ok p1_O none [] [(287, [p5y0_378])] 286 [] 84 p5y0_379 = true := by decide +kernel
theorem p5y0_379_s {X : Int → Int} {LX : Nat} : ck_Ok p1_O X LX 286 p5y0_379 := ck_ok_s (ck_E1 (ck_S1 p5y0_378_s ck_S0) ck_E0) ck_X0 ck_l0 p5y0_379_e
set_option maxRecDepth 100000 in
def p5y0_380 : ck_Sum := ((2, 0, 0), 245, [.inr (.inr (.inl 226)), .inl (ck_one 33)], ([], [], [(234, 33, 33, ck_one 2)]), ([(226, 0, 0)], []), [(.inr (some (.inl (ck_one 2))), 245, ([], [], [(226, 0, 0, ck_one 0)]))])
set_option maxRecDepth 100000 in
theorem p5y0_380_e : ck_ok p1_O none [] [(286, [p5y0_379]), (283, [p5y0_147])] 285 [] 98 p5y0_380 = true := by decide +kernel
theorem p5y0_380_s {X : Int → Int} {LX : Nat} : ck_Ok p1_O X LX 285 p5y0_380 := ck_ok_s (ck_E1 (ck_S1 p5y0_379_s ck_S0) (ck_E1 (ck_S1 p5y0_147_s ck_S0) ck_E0)) ck_X0 ck_l0 p5y0_380_e
set_option maxRecDepth 100000 in
def p5y0_385 : ck_Sum := ((0, 0, 0), 245, [.inl (ck_one 34), .inl (ck_one 0), .inl (ck_one 299)], ([], [], []), ([], []), [(.inr (some (.inl (ck_one 1))), 245, ([], [], []))])
set_option maxRecDepth 100000 in
theorem p5y0_385_e : ck_ok p1_O none [] [] 287 [] 88 p5y0_385 = true := by decide +kernel
theorem p5y0_385_s {X : Int → Int} {LX : Nat} : ck_Ok p1_O X LX 287 p5y0_385 := ck_ok_s (ck_E0) ck_X0 ck_l0 p5y0_385_e
set_option maxRecDepth 100000 in
def p5y0_386 : ck_Sum := ((1, 0, 0), 245, [.inl (ck_one 34)], ([], [], []), ([], []), [(.inr (some (.inl (ck_one 0))), 245, ([], [], []))])
set_option maxRecDepth 100000 in
theorem p5y0_386_e : ck_ok p1_O none [] [(287, [p5y0_385])] 286 [] 84 p5y0_386 = true := by decide +kernel
theorem p5y0_386_s {X : Int → Int} {LX : Nat} : ck_Ok p1_O X LX 286 p5y0_386 := ck_ok_s (ck_E1 (ck_S1 p5y0_385_s ck_S0) ck_E0) ck_X0 ck_l0 p5y0_386_e
set_option maxRecDepth 100000 in
def p5y0_387 : ck_Sum := ((2, 0, 0), 245, [.inr (.inr (.inl 226)), .inl (ck_one 34)], ([], [], [(234, 34, 34, ck_one 1)]), ([(226, 0, 0)], []), [(.inr (some (.inl (ck_one 1))), 245, ([], [], [(226, 0, 0, ck_one 0)]))])
set_option maxRecDepth 100000 in
theorem p5y0_387_e : ck_ok p1_O none [] [(286, [p5y0_386]), (283, [p5y0_147])] 285 [] 98 p5y0_387 = true := by decide +kernel
theorem p5y0_387_s {X : Int → Int} {LX : Nat} : ck_Ok p1_O X LX 285 p5y0_387 := ck_ok_s (ck_E1 (ck_S1 p5y0_386_s ck_S0) (ck_E1 (ck_S1 p5y0_147_s ck_S0) ck_E0)) ck_X0 ck_l0 p5y0_387_e
set_option maxRecDepth 100000 in
def p5y0_392 : ck_Sum := ((0, 0, 0), 245, [.inl (ck_one 35), .inl (ck_one 0), .inl (ck_one 299)], ([], [], []), ([], []), [(.inr (some (.inl (ck_one 1))), 245, ([], [], []))])
set_option maxRecDepth 100000 in
theorem p5y0_392_e : ck_ok p1_O none [] [] 287 [] 88 p5y0_392 = true := by decide +kernel
theorem p5y0_392_s {X : Int → Int} {LX : Nat} : ck_Ok p1_O X LX 287 p5y0_392 := ck_ok_s (ck_E0) ck_X0 ck_l0 p5y0_392_e
set_option maxRecDepth 100000 in
def p5y0_393 : ck_Sum := ((1, 0, 0), 245, [.inl (ck_one 35)], ([], [], []), ([], []), [(.inr (some (.inl (ck_one 0))), 245, ([], [], []))])
set_option maxRecDepth 100000 in
theorem p5y0_393_e : ck_ok p1_O none [] [(287, [p5y0_392])] 286 [] 84 p5y0_393 = true := by decide +kernel
theorem p5y0_393_s {X : Int → Int} {LX : Nat} : ck_Ok p1_O X LX 286 p5y0_393 := ck_ok_s (ck_E1 (ck_S1 p5y0_392_s ck_S0) ck_E0) ck_X0 ck_l0 p5y0_393_e
set_option maxRecDepth 100000 in
def p5y0_394 : ck_Sum := ((2, 0, 0), 245, [.inr (.inr (.inl 226)), .inl (ck_one 35)], ([], [], [(234, 35, 35, ck_one 7)]), ([(226, 0, 0)], []), [(.inr (some (.inl (ck_one 7))), 245, ([], [], [(226, 0, 0, ck_one 0)]))])
set_option maxRecDepth 100000 in
theorem p5y0_394_e : ck_ok p1_O none [] [(286, [p5y0_393]), (283, [p5y0_147])] 285 [] 98 p5y0_394 = true := by decide +kernel
theorem p5y0_394_s {X : Int → Int} {LX : Nat} : ck_Ok p1_O X LX 285 p5y0_394 := ck_ok_s (ck_E1 (ck_S1 p5y0_393_s ck_S0) (ck_E1 (ck_S1 p5y0_147_s ck_S0) ck_E0)) ck_X0 ck_l0 p5y0_394_e
set_option maxRecDepth 100000 in
def p5y0_399 : ck_Sum := ((0, 0, 0), 245, [.inl (ck_one 36), .inl (ck_one 0), .inl (ck_one 299)], ([], [], []), ([], []), [(.inr (some (.inl (ck_one 1))), 245, ([], [], []))])
set_option maxRecDepth 100000 in
theorem p5y0_399_e : ck_ok p1_O none [] [] 287 [] 88 p5y0_399 = true := by decide +kernel
theorem p5y0_399_s {X : Int → Int} {LX : Nat} : ck_Ok p1_O X LX 287 p5y0_399 := ck_ok_s (ck_E0) ck_X0 ck_l0 p5y0_399_e
set_option maxRecDepth 100000 in
def p5y0_400 : ck_Sum := ((1, 0, 0), 245, [.inl (ck_one 36)], ([], [], []), ([], []), [(.inr (some (.inl (ck_one 0))), 245, ([], [], []))])
set_option maxRecDepth 100000 in
theorem p5y0_400_e : ck_ok p1_O none [] [(287, [p5y0_399])] 286 [] 84 p5y0_400 = true := by decide +kernel
theorem p5y0_400_s {X : Int → Int} {LX : Nat} : ck_Ok p1_O X LX 286 p5y0_400 := ck_ok_s (ck_E1 (ck_S1 p5y0_399_s ck_S0) ck_E0) ck_X0 ck_l0 p5y0_400_e
set_option maxRecDepth 100000 in
def p5y0_401 : ck_Sum := ((2, 0, 0), 245, [.inr (.inr (.inl 226)), .inl (ck_one 36)], ([], [], [(234, 36, 36, ck_one 4)]), ([(226, 0, 0)], []), [(.inr (some (.inl (ck_one 4))), 245, ([], [], [(226, 0, 0, ck_one 0)]))])
set_option maxRecDepth 100000 in
theorem p5y0_401_e : ck_ok p1_O none [] [(286, [p5y0_400]), (283, [p5y0_147])] 285 [] 98 p5y0_401 = true := by decide +kernel
theorem p5y0_401_s {X : Int → Int} {LX : Nat} : ck_Ok p1_O X LX 285 p5y0_401 := ck_ok_s (ck_E1 (ck_S1 p5y0_400_s ck_S0) (ck_E1 (ck_S1 p5y0_147_s ck_S0) ck_E0)) ck_X0 ck_l0 p5y0_401_e
set_option maxRecDepth 100000 in
def p5y0_406 : ck_Sum := ((0, 0, 0), 245, [.inl (ck_one 37), .inl (ck_one 0), .inl (ck_one 299)], ([], [], []), ([], []), [(.inr (some (.inl (ck_one 1))), 245, ([], [], []))])
set_option maxRecDepth 100000 in
theorem p5y0_406_e : ck_ok p1_O none [] [] 287 [] 88 p5y0_406 = true := by decide +kernel
theorem p5y0_406_s {X : Int → Int} {LX : Nat} : ck_Ok p1_O X LX 287 p5y0_406 := ck_ok_s (ck_E0) ck_X0 ck_l0 p5y0_406_e
set_option maxRecDepth 100000 in
def p5y0_407 : ck_Sum := ((1, 0, 0), 245, [.inl (ck_one 37)], ([], [], []), ([], []), [(.inr (some (.inl (ck_one 0))), 245, ([], [], []))])
set_option maxRecDepth 100000 in
theorem p5y0_407_e : ck_ok p1_O none [] [(287, [p5y0_406])] 286 [] 84 p5y0_407 = true := by decide +kernel
theorem p5y0_407_s {X : Int → Int} {LX : Nat} : ck_Ok p1_O X LX 286 p5y0_407 := ck_ok_s (ck_E1 (ck_S1 p5y0_406_s ck_S0) ck_E0) ck_X0 ck_l0 p5y0_407_e
set_option maxRecDepth 100000 in
def p5y0_408 : ck_Sum := ((2, 0, 0), 245, [.inr (.inr (.inl 226)), .inl (ck_one 37)], ([], [], [(234, 37, 37, ck_one 3)]), ([(226, 0, 0)], []), [(.inr (some (.inl (ck_one 3))), 245, ([], [], [(226, 0, 0, ck_one 0)]))])
set_option maxRecDepth 100000 in
theorem p5y0_408_e : ck_ok p1_O none [] [(286, [p5y0_407]), (283, [p5y0_147])] 285 [] 98 p5y0_408 = true := by decide +kernel
theorem p5y0_408_s {X : Int → Int} {LX : Nat} : ck_Ok p1_O X LX 285 p5y0_408 := ck_ok_s (ck_E1 (ck_S1 p5y0_407_s ck_S0) (ck_E1 (ck_S1 p5y0_147_s ck_S0) ck_E0)) ck_X0 ck_l0 p5y0_408_e
set_option maxRecDepth 100000 in
def p5y0_413 : ck_Sum := ((0, 0, 0), 245, [.inl (ck_one 38), .inl (ck_one 0), .inl (ck_one 299)], ([], [], []), ([], []), [(.inr (some (.inl (ck_one 1))), 245, ([], [], []))])
set_option maxRecDepth 100000 in
theorem p5y0_413_e : ck_ok p1_O none [] [] 287 [] 88 p5y0_413 = true := by decide +kernel
theorem p5y0_413_s {X : Int → Int} {LX : Nat} : ck_Ok p1_O X LX 287 p5y0_413 := ck_ok_s (ck_E0) ck_X0 ck_l0 p5y0_413_e
set_option maxRecDepth 100000 in
def p5y0_414 : ck_Sum := ((1, 0, 0), 245, [.inl (ck_one 38)], ([], [], []), ([], []), [(.inr (some (.inl (ck_one 0))), 245, ([], [], []))])
set_option maxRecDepth 100000 in
theorem p5y0_414_e : ck_ok p1_O none [] [(287, [p5y0_413])] 286 [] 84 p5y0_414 = true := by decide +kernel
theorem p5y0_414_s {X : Int → Int} {LX : Nat} : ck_Ok p1_O X LX 286 p5y0_414 := ck_ok_s (ck_E1 (ck_S1 p5y0_413_s ck_S0) ck_E0) ck_X0 ck_l0 p5y0_414_e
set_option maxRecDepth 100000 in
def p5y0_415 : ck_Sum := ((2, 0, 0), 245, [.inr (.inr (.inl 226)), .inl (ck_one 38)], ([], [], [(234, 38, 38, ck_one 1)]), ([(226, 0, 0)], []), [(.inr (some (.inl (ck_one 1))), 245, ([], [], [(226, 0, 0, ck_one 0)]))])
set_option maxRecDepth 100000 in
theorem p5y0_415_e : ck_ok p1_O none [] [(286, [p5y0_414]), (283, [p5y0_147])] 285 [] 98 p5y0_415 = true := by decide +kernel
theorem p5y0_415_s {X : Int → Int} {LX : Nat} : ck_Ok p1_O X LX 285 p5y0_415 := ck_ok_s (ck_E1 (ck_S1 p5y0_414_s ck_S0) (ck_E1 (ck_S1 p5y0_147_s ck_S0) ck_E0)) ck_X0 ck_l0 p5y0_415_e
set_option maxRecDepth 100000 in
def p5y0_420 : ck_Sum := ((0, 0, 0), 245, [.inl (ck_one 39), .inl (ck_one 0), .inl (ck_one 299)], ([], [], []), ([], []), [(.inr (some (.inl (ck_one 1))), 245, ([], [], []))])
set_option maxRecDepth 100000 in
theorem p5y0_420_e : ck_ok p1_O none [] [] 287 [] 88 p5y0_420 = true := by decide +kernel
theorem p5y0_420_s {X : Int → Int} {LX : Nat} : ck_Ok p1_O X LX 287 p5y0_420 := ck_ok_s (ck_E0) ck_X0 ck_l0 p5y0_420_e
set_option maxRecDepth 100000 in
def p5y0_421 : ck_Sum := ((1, 0, 0), 245, [.inl (ck_one 39)], ([], [], []), ([], []), [(.inr (some (.inl (ck_one 0))), 245, ([], [], []))])
set_option maxRecDepth 100000 in
theorem p5y0_421_e : ck_ok p1_O none [] [(287, [p5y0_420])] 286 [] 84 p5y0_421 = true := by decide +kernel
theorem p5y0_421_s {X : Int → Int} {LX : Nat} : ck_Ok p1_O X LX 286 p5y0_421 := ck_ok_s (ck_E1 (ck_S1 p5y0_420_s ck_S0) ck_E0) ck_X0 ck_l0 p5y0_421_e
set_option maxRecDepth 100000 in
def p5y0_422 : ck_Sum := ((2, 0, 0), 245, [.inr (.inr (.inl 226)), .inl (ck_one 39)], ([], [], [(234, 39, 39, ck_one 6)]), ([(226, 0, 0)], []), [(.inr (some (.inl (ck_one 6))), 245, ([], [], [(226, 0, 0, ck_one 0)]))])
set_option maxRecDepth 100000 in
theorem p5y0_422_e : ck_ok p1_O none [] [(286, [p5y0_421]), (283, [p5y0_147])] 285 [] 98 p5y0_422 = true := by decide +kernel
theorem p5y0_422_s {X : Int → Int} {LX : Nat} : ck_Ok p1_O X LX 285 p5y0_422 := ck_ok_s (ck_E1 (ck_S1 p5y0_421_s ck_S0) (ck_E1 (ck_S1 p5y0_147_s ck_S0) ck_E0)) ck_X0 ck_l0 p5y0_422_e
set_option maxRecDepth 100000 in
def p5y0_427 : ck_Sum := ((0, 0, 0), 245, [.inl (ck_one 40), .inl (ck_one 0), .inl (ck_one 299)], ([], [], []), ([], []), [(.inr (some (.inl (ck_one 1))), 245, ([], [], []))])
set_option maxRecDepth 100000 in
theorem p5y0_427_e : ck_ok p1_O none [] [] 287 [] 88 p5y0_427 = true := by decide +kernel
theorem p5y0_427_s {X : Int → Int} {LX : Nat} : ck_Ok p1_O X LX 287 p5y0_427 := ck_ok_s (ck_E0) ck_X0 ck_l0 p5y0_427_e
set_option maxRecDepth 100000 in
def p5y0_428 : ck_Sum := ((1, 0, 0), 245, [.inl (ck_one 40)], ([], [], []), ([], []), [(.inr (some (.inl (ck_one 0))), 245, ([], [], []))])
set_option maxRecDepth 100000 in
theorem p5y0_428_e : ck_ok p1_O none [] [(287, [p5y0_427])] 286 [] 84 p5y0_428 = true := by decide +kernel
theorem p5y0_428_s {X : Int → Int} {LX : Nat} : ck_Ok p1_O X LX 286 p5y0_428 := ck_ok_s (ck_E1 (ck_S1 p5y0_427_s ck_S0) ck_E0) ck_X0 ck_l0 p5y0_428_e
set_option maxRecDepth 100000 in
def p5y0_429 : ck_Sum := ((2, 0, 0), 245, [.inr (.inr (.inl 226)), .inl (ck_one 40)], ([], [], [(234, 40, 40, ck_one 8)]), ([(226, 0, 0)], []), [(.inr (some (.inl (ck_one 8))), 245, ([], [], [(226, 0, 0, ck_one 0)]))])
set_option maxRecDepth 100000 in
theorem p5y0_429_e : ck_ok p1_O none [] [(286, [p5y0_428]), (283, [p5y0_147])] 285 [] 98 p5y0_429 = true := by decide +kernel
theorem p5y0_429_s {X : Int → Int} {LX : Nat} : ck_Ok p1_O X LX 285 p5y0_429 := ck_ok_s (ck_E1 (ck_S1 p5y0_428_s ck_S0) (ck_E1 (ck_S1 p5y0_147_s ck_S0) ck_E0)) ck_X0 ck_l0 p5y0_429_e
set_option maxRecDepth 100000 in
def p5y0_434 : ck_Sum := ((0, 0, 0), 245, [.inl (ck_one 41), .inl (ck_one 0), .inl (ck_one 299)], ([], [], []), ([], []), [(.inr (some (.inl (ck_one 1))), 245, ([], [], []))])
set_option maxRecDepth 100000 in
theorem p5y0_434_e : ck_ok p1_O none [] [] 287 [] 88 p5y0_434 = true := by decide +kernel
theorem p5y0_434_s {X : Int → Int} {LX : Nat} : ck_Ok p1_O X LX 287 p5y0_434 := ck_ok_s (ck_E0) ck_X0 ck_l0 p5y0_434_e
set_option maxRecDepth 100000 in
def p5y0_435 : ck_Sum := ((1, 0, 0), 245, [.inl (ck_one 41)], ([], [], []), ([], []), [(.inr (some (.inl (ck_one 0))), 245, ([], [], []))])
set_option maxRecDepth 100000 in
theorem p5y0_435_e : ck_ok p1_O none [] [(287, [p5y0_434])] 286 [] 84 p5y0_435 = true := by decide +kernel
theorem p5y0_435_s {X : Int → Int} {LX : Nat} : ck_Ok p1_O X LX 286 p5y0_435 := ck_ok_s (ck_E1 (ck_S1 p5y0_434_s ck_S0) ck_E0) ck_X0 ck_l0 p5y0_435_e
set_option maxRecDepth 100000 in
def p5y0_436 : ck_Sum := ((2, 0, 0), 245, [.inr (.inr (.inl 226)), .inl (ck_one 41)], ([], [], [(234, 41, 41, ck_one 8)]), ([(226, 0, 0)], []), [(.inr (some (.inl (ck_one 8))), 245, ([], [], [(226, 0, 0, ck_one 0)]))])
set_option maxRecDepth 100000 in
theorem p5y0_436_e : ck_ok p1_O none [] [(286, [p5y0_435]), (283, [p5y0_147])] 285 [] 98 p5y0_436 = true := by decide +kernel
theorem p5y0_436_s {X : Int → Int} {LX : Nat} : ck_Ok p1_O X LX 285 p5y0_436 := ck_ok_s (ck_E1 (ck_S1 p5y0_435_s ck_S0) (ck_E1 (ck_S1 p5y0_147_s ck_S0) ck_E0)) ck_X0 ck_l0 p5y0_436_e
set_option maxRecDepth 100000 in
def p5y0_441 : ck_Sum := ((0, 0, 0), 245, [.inl (ck_one 42), .inl (ck_one 0), .inl (ck_one 299)], ([], [], []), ([], []), [(.inr (some (.inl (ck_one 1))), 245, ([], [], []))])
set_option maxRecDepth 100000 in
theorem p5y0_441_e : ck_ok p1_O none [] [] 287 [] 88 p5y0_441 = true := by decide +kernel
theorem p5y0_441_s {X : Int → Int} {LX : Nat} : ck_Ok p1_O X LX 287 p5y0_441 := ck_ok_s (ck_E0) ck_X0 ck_l0 p5y0_441_e
set_option maxRecDepth 100000 in
def p5y0_442 : ck_Sum := ((1, 0, 0), 245, [.inl (ck_one 42)], ([], [], []), ([], []), [(.inr (some (.inl (ck_one 0))), 245, ([], [], []))])
set_option maxRecDepth 100000 in
theorem p5y0_442_e : ck_ok p1_O none [] [(287, [p5y0_441])] 286 [] 84 p5y0_442 = true := by decide +kernel
theorem p5y0_442_s {X : Int → Int} {LX : Nat} : ck_Ok p1_O X LX 286 p5y0_442 := ck_ok_s (ck_E1 (ck_S1 p5y0_441_s ck_S0) ck_E0) ck_X0 ck_l0 p5y0_442_e
set_option maxRecDepth 100000 in
def p5y0_443 : ck_Sum := ((2, 0, 0), 245, [.inr (.inr (.inl 226)), .inl (ck_one 42)], ([], [], [(234, 42, 42, ck_one 5)]), ([(226, 0, 0)], []), [(.inr (some (.inl (ck_one 5))), 245, ([], [], [(226, 0, 0, ck_one 0)]))])
set_option maxRecDepth 100000 in
theorem p5y0_443_e : ck_ok p1_O none [] [(286, [p5y0_442]), (283, [p5y0_147])] 285 [] 98 p5y0_443 = true := by decide +kernel
theorem p5y0_443_s {X : Int → Int} {LX : Nat} : ck_Ok p1_O X LX 285 p5y0_443 := ck_ok_s (ck_E1 (ck_S1 p5y0_442_s ck_S0) (ck_E1 (ck_S1 p5y0_147_s ck_S0) ck_E0)) ck_X0 ck_l0 p5y0_443_e
set_option maxRecDepth 100000 in
def p5y0_448 : ck_Sum := ((0, 0, 0), 245, [.inl (ck_one 43), .inl (ck_one 0), .inl (ck_one 299)], ([], [], []), ([], []), [(.inr (some (.inl (ck_one 1))), 245, ([], [], []))])
set_option maxRecDepth 100000 in
theorem p5y0_448_e : ck_ok p1_O none [] [] 287 [] 88 p5y0_448 = true := by decide +kernel
theorem p5y0_448_s {X : Int → Int} {LX : Nat} : ck_Ok p1_O X LX 287 p5y0_448 := ck_ok_s (ck_E0) ck_X0 ck_l0 p5y0_448_e
set_option maxRecDepth 100000 in
def p5y0_449 : ck_Sum := ((1, 0, 0), 245, [.inl (ck_one 43)], ([], [], []), ([], []), [(.inr (some (.inl (ck_one 0))), 245, ([], [], []))])
set_option maxRecDepth 100000 in
theorem p5y0_449_e : ck_ok p1_O none [] [(287, [p5y0_448])] 286 [] 84 p5y0_449 = true := by decide +kernel
theorem p5y0_449_s {X : Int → Int} {LX : Nat} : ck_Ok p1_O X LX 286 p5y0_449 := ck_ok_s (ck_E1 (ck_S1 p5y0_448_s ck_S0) ck_E0) ck_X0 ck_l0 p5y0_449_e
set_option maxRecDepth 100000 in
def p5y0_450 : ck_Sum := ((2, 0, 0), 245, [.inr (.inr (.inl 226)), .inl (ck_one 43)], ([], [], [(234, 43, 43, ck_one 3)]), ([(226, 0, 0)], []), [(.inr (some (.inl (ck_one 3))), 245, ([], [], [(226, 0, 0, ck_one 0)]))])
set_option maxRecDepth 100000 in
theorem p5y0_450_e : ck_ok p1_O none [] [(286, [p5y0_449]), (283, [p5y0_147])] 285 [] 98 p5y0_450 = true := by decide +kernel
theorem p5y0_450_s {X : Int → Int} {LX : Nat} : ck_Ok p1_O X LX 285 p5y0_450 := ck_ok_s (ck_E1 (ck_S1 p5y0_449_s ck_S0) (ck_E1 (ck_S1 p5y0_147_s ck_S0) ck_E0)) ck_X0 ck_l0 p5y0_450_e
set_option maxRecDepth 100000 in
def p5y0_455 : ck_Sum := ((0, 0, 0), 245, [.inl (ck_one 44), .inl (ck_one 0), .inl (ck_one 299)], ([], [], []), ([], []), [(.inr (some (.inl (ck_one 1))), 245, ([], [], []))])
set_option maxRecDepth 100000 in
theorem p5y0_455_e : ck_ok p1_O none [] [] 287 [] 88 p5y0_455 = true := by decide +kernel
theorem p5y0_455_s {X : Int → Int} {LX : Nat} : ck_Ok p1_O X LX 287 p5y0_455 := ck_ok_s (ck_E0) ck_X0 ck_l0 p5y0_455_e
set_option maxRecDepth 100000 in
def p5y0_456 : ck_Sum := ((1, 0, 0), 245, [.inl (ck_one 44)], ([], [], []), ([], []), [(.inr (some (.inl (ck_one 0))), 245, ([], [], []))])
set_option maxRecDepth 100000 in
theorem p5y0_456_e : ck_ok p1_O none [] [(287, [p5y0_455])] 286 [] 84 p5y0_456 = true := by decide +kernel
theorem p5y0_456_s {X : Int → Int} {LX : Nat} : ck_Ok p1_O X LX 286 p5y0_456 := ck_ok_s (ck_E1 (ck_S1 p5y0_455_s ck_S0) ck_E0) ck_X0 ck_l0 p5y0_456_e
set_option maxRecDepth 100000 in
def p5y0_457 : ck_Sum := ((2, 0, 0), 245, [.inr (.inr (.inl 226)), .inl (ck_one 44)], ([], [], [(234, 44, 44, ck_one 7)]), ([(226, 0, 0)], []), [(.inr (some (.inl (ck_one 7))), 245, ([], [], [(226, 0, 0, ck_one 0)]))])
set_option maxRecDepth 100000 in
theorem p5y0_457_e : ck_ok p1_O none [] [(286, [p5y0_456]), (283, [p5y0_147])] 285 [] 98 p5y0_457 = true := by decide +kernel
theorem p5y0_457_s {X : Int → Int} {LX : Nat} : ck_Ok p1_O X LX 285 p5y0_457 := ck_ok_s (ck_E1 (ck_S1 p5y0_456_s ck_S0) (ck_E1 (ck_S1 p5y0_147_s ck_S0) ck_E0)) ck_X0 ck_l0 p5y0_457_e
set_option maxRecDepth 100000 in
def p5y0_462 : ck_Sum := ((0, 0, 0), 245, [.inl (ck_one 45), .inl (ck_one 0), .inl (ck_one 299)], ([], [], []), ([], []), [(.inr (some (.inl (ck_one 1))), 245, ([], [], []))])
set_option maxRecDepth 100000 in
theorem p5y0_462_e : ck_ok p1_O none [] [] 287 [] 88 p5y0_462 = true := by decide +kernel
theorem p5y0_462_s {X : Int → Int} {LX : Nat} : ck_Ok p1_O X LX 287 p5y0_462 := ck_ok_s (ck_E0) ck_X0 ck_l0 p5y0_462_e
set_option maxRecDepth 100000 in
def p5y0_463 : ck_Sum := ((1, 0, 0), 245, [.inl (ck_one 45)], ([], [], []), ([], []), [(.inr (some (.inl (ck_one 0))), 245, ([], [], []))])
set_option maxRecDepth 100000 in
theorem p5y0_463_e : ck_ok p1_O none [] [(287, [p5y0_462])] 286 [] 84 p5y0_463 = true := by decide +kernel
theorem p5y0_463_s {X : Int → Int} {LX : Nat} : ck_Ok p1_O X LX 286 p5y0_463 := ck_ok_s (ck_E1 (ck_S1 p5y0_462_s ck_S0) ck_E0) ck_X0 ck_l0 p5y0_463_e
set_option maxRecDepth 100000 in
def p5y0_464 : ck_Sum := ((2, 0, 0), 245, [.inr (.inr (.inl 226)), .inl (ck_one 45)], ([], [], [(234, 45, 45, ck_one 6)]), ([(226, 0, 0)], []), [(.inr (some (.inl (ck_one 6))), 245, ([], [], [(226, 0, 0, ck_one 0)]))])
set_option maxRecDepth 100000 in
theorem p5y0_464_e : ck_ok p1_O none [] [(286, [p5y0_463]), (283, [p5y0_147])] 285 [] 98 p5y0_464 = true := by decide +kernel
theorem p5y0_464_s {X : Int → Int} {LX : Nat} : ck_Ok p1_O X LX 285 p5y0_464 := ck_ok_s (ck_E1 (ck_S1 p5y0_463_s ck_S0) (ck_E1 (ck_S1 p5y0_147_s ck_S0) ck_E0)) ck_X0 ck_l0 p5y0_464_e
set_option maxRecDepth 100000 in
def p5y0_469 : ck_Sum := ((0, 0, 0), 245, [.inl (ck_one 46), .inl (ck_one 0), .inl (ck_one 299)], ([], [], []), ([], []), [(.inr (some (.inl (ck_one 1))), 245, ([], [], []))])
set_option maxRecDepth 100000 in
theorem p5y0_469_e : ck_ok p1_O none [] [] 287 [] 88 p5y0_469 = true := by decide +kernel
theorem p5y0_469_s {X : Int → Int} {LX : Nat} : ck_Ok p1_O X LX 287 p5y0_469 := ck_ok_s (ck_E0) ck_X0 ck_l0 p5y0_469_e
set_option maxRecDepth 100000 in
def p5y0_470 : ck_Sum := ((1, 0, 0), 245, [.inl (ck_one 46)], ([], [], []), ([], []), [(.inr (some (.inl (ck_one 0))), 245, ([], [], []))])
set_option maxRecDepth 100000 in
theorem p5y0_470_e : ck_ok p1_O none [] [(287, [p5y0_469])] 286 [] 84 p5y0_470 = true := by decide +kernel
theorem p5y0_470_s {X : Int → Int} {LX : Nat} : ck_Ok p1_O X LX 286 p5y0_470 := ck_ok_s (ck_E1 (ck_S1 p5y0_469_s ck_S0) ck_E0) ck_X0 ck_l0 p5y0_470_e
set_option maxRecDepth 100000 in
def p5y0_471 : ck_Sum := ((2, 0, 0), 245, [.inr (.inr (.inl 226)), .inl (ck_one 46)], ([], [], [(234, 46, 46, ck_one 5)]), ([(226, 0, 0)], []), [(.inr (some (.inl (ck_one 5))), 245, ([], [], [(226, 0, 0, ck_one 0)]))])
set_option maxRecDepth 100000 in
theorem p5y0_471_e : ck_ok p1_O none [] [(286, [p5y0_470]), (283, [p5y0_147])] 285 [] 98 p5y0_471 = true := by decide +kernel
theorem p5y0_471_s {X : Int → Int} {LX : Nat} : ck_Ok p1_O X LX 285 p5y0_471 := ck_ok_s (ck_E1 (ck_S1 p5y0_470_s ck_S0) (ck_E1 (ck_S1 p5y0_147_s ck_S0) ck_E0)) ck_X0 ck_l0 p5y0_471_e
set_option maxRecDepth 100000 in
def p5y0_476 : ck_Sum := ((0, 0, 0), 245, [.inl (ck_one 47), .inl (ck_one 0), .inl (ck_one 299)], ([], [], []), ([], []), [(.inr (some (.inl (ck_one 1))), 245, ([], [], []))])
set_option maxRecDepth 100000 in
theorem p5y0_476_e : ck_ok p1_O none [] [] 287 [] 88 p5y0_476 = true := by decide +kernel
theorem p5y0_476_s {X : Int → Int} {LX : Nat} : ck_Ok p1_O X LX 287 p5y0_476 := ck_ok_s (ck_E0) ck_X0 ck_l0 p5y0_476_e
set_option maxRecDepth 100000 in
def p5y0_477 : ck_Sum := ((1, 0, 0), 245, [.inl (ck_one 47)], ([], [], []), ([], []), [(.inr (some (.inl (ck_one 0))), 245, ([], [], []))])
set_option maxRecDepth 100000 in
theorem p5y0_477_e : ck_ok p1_O none [] [(287, [p5y0_476])] 286 [] 84 p5y0_477 = true := by decide +kernel
theorem p5y0_477_s {X : Int → Int} {LX : Nat} : ck_Ok p1_O X LX 286 p5y0_477 := ck_ok_s (ck_E1 (ck_S1 p5y0_476_s ck_S0) ck_E0) ck_X0 ck_l0 p5y0_477_e
set_option maxRecDepth 100000 in
def p5y0_478 : ck_Sum := ((2, 0, 0), 245, [.inr (.inr (.inl 226)), .inl (ck_one 47)], ([], [], [(234, 47, 47, ck_one 3)]), ([(226, 0, 0)], []), [(.inr (some (.inl (ck_one 3))), 245, ([], [], [(226, 0, 0, ck_one 0)]))])
set_option maxRecDepth 100000 in
theorem p5y0_478_e : ck_ok p1_O none [] [(286, [p5y0_477]), (283, [p5y0_147])] 285 [] 98 p5y0_478 = true := by decide +kernel
theorem p5y0_478_s {X : Int → Int} {LX : Nat} : ck_Ok p1_O X LX 285 p5y0_478 := ck_ok_s (ck_E1 (ck_S1 p5y0_477_s ck_S0) (ck_E1 (ck_S1 p5y0_147_s ck_S0) ck_E0)) ck_X0 ck_l0 p5y0_478_e
set_option maxRecDepth 100000 in
def p5y0_483 : ck_Sum := ((0, 0, 0), 245, [.inl (ck_one 48), .inl (ck_one 0), .inl (ck_one 299)], ([], [], []), ([], []), [(.inr (some (.inl (ck_one 1))), 245, ([], [], []))])
set_option maxRecDepth 100000 in
theorem p5y0_483_e : ck_ok p1_O none [] [] 287 [] 88 p5y0_483 = true := by decide +kernel
theorem p5y0_483_s {X : Int → Int} {LX : Nat} : ck_Ok p1_O X LX 287 p5y0_483 := ck_ok_s (ck_E0) ck_X0 ck_l0 p5y0_483_e
set_option maxRecDepth 100000 in
def p5y0_484 : ck_Sum := ((1, 0, 0), 245, [.inl (ck_one 48)], ([], [], []), ([], []), [(.inr (some (.inl (ck_one 0))), 245, ([], [], []))])
set_option maxRecDepth 100000 in
theorem p5y0_484_e : ck_ok p1_O none [] [(287, [p5y0_483])] 286 [] 84 p5y0_484 = true := by decide +kernel
theorem p5y0_484_s {X : Int → Int} {LX : Nat} : ck_Ok p1_O X LX 286 p5y0_484 := ck_ok_s (ck_E1 (ck_S1 p5y0_483_s ck_S0) ck_E0) ck_X0 ck_l0 p5y0_484_e
set_option maxRecDepth 100000 in
def p5y0_485 : ck_Sum := ((2, 0, 0), 245, [.inr (.inr (.inl 226)), .inl (ck_one 48)], ([], [], [(234, 48, 48, ck_one 2)]), ([(226, 0, 0)], []), [(.inr (some (.inl (ck_one 2))), 245, ([], [], [(226, 0, 0, ck_one 0)]))])
set_option maxRecDepth 100000 in
theorem p5y0_485_e : ck_ok p1_O none [] [(286, [p5y0_484]), (283, [p5y0_147])] 285 [] 98 p5y0_485 = true := by decide +kernel
theorem p5y0_485_s {X : Int → Int} {LX : Nat} : ck_Ok p1_O X LX 285 p5y0_485 := ck_ok_s (ck_E1 (ck_S1 p5y0_484_s ck_S0) (ck_E1 (ck_S1 p5y0_147_s ck_S0) ck_E0)) ck_X0 ck_l0 p5y0_485_e
set_option maxRecDepth 100000 in
def p5y0_490 : ck_Sum := ((0, 0, 0), 245, [.inl (ck_one 49), .inl (ck_one 0), .inl (ck_one 299)], ([], [], []), ([], []), [(.inr (some (.inl (ck_one 1))), 245, ([], [], []))])
set_option maxRecDepth 100000 in
theorem p5y0_490_e : ck_ok p1_O none [] [] 287 [] 88 p5y0_490 = true := by decide +kernel
theorem p5y0_490_s {X : Int → Int} {LX : Nat} : ck_Ok p1_O X LX 287 p5y0_490 := ck_ok_s (ck_E0) ck_X0 ck_l0 p5y0_490_e
set_option maxRecDepth 100000 in
def p5y0_491 : ck_Sum := ((1, 0, 0), 245, [.inl (ck_one 49)], ([], [], []), ([], []), [(.inr (some (.inl (ck_one 0))), 245, ([], [], []))])
set_option maxRecDepth 100000 in
theorem p5y0_491_e : ck_ok p1_O none [] [(287, [p5y0_490])] 286 [] 84 p5y0_491 = true := by decide +kernel
theorem p5y0_491_s {X : Int → Int} {LX : Nat} : ck_Ok p1_O X LX 286 p5y0_491 := ck_ok_s (ck_E1 (ck_S1 p5y0_490_s ck_S0) ck_E0) ck_X0 ck_l0 p5y0_491_e
set_option maxRecDepth 100000 in
def p5y0_492 : ck_Sum := ((2, 0, 0), 245, [.inr (.inr (.inl 226)), .inl (ck_one 49)], ([], [], [(234, 49, 49, ck_one 4)]), ([(226, 0, 0)], []), [(.inr (some (.inl (ck_one 4))), 245, ([], [], [(226, 0, 0, ck_one 0)]))])
set_option maxRecDepth 100000 in
theorem p5y0_492_e : ck_ok p1_O none [] [(286, [p5y0_491]), (283, [p5y0_147])] 285 [] 98 p5y0_492 = true := by decide +kernel
theorem p5y0_492_s {X : Int → Int} {LX : Nat} : ck_Ok p1_O X LX 285 p5y0_492 := ck_ok_s (ck_E1 (ck_S1 p5y0_491_s ck_S0) (ck_E1 (ck_S1 p5y0_147_s ck_S0) ck_E0)) ck_X0 ck_l0 p5y0_492_e
set_option maxRecDepth 100000 in
def p5y0_140 : ck_Sum := ((0, 0, 0), 245, [.inr (.inr (.inl 226))], ([], [], [(226, 0, 0, ck_one 1)]), ([], []), [(.inr (some (.inl (ck_one 1))), 245, ([], [], []))])
set_option maxRecDepth 100000 in
theorem p5y0_140_e : ck_ok p1_O none [] [] 234 [] 76 p5y0_140 = true := by decide +kernel
theorem p5y0_140_s {X : Int → Int} {LX : Nat} : ck_Ok p1_O X LX 234 p5y0_140 := ck_ok_s (ck_E0) ck_X0 ck_l0 p5y0_140_e
set_option maxRecDepth 100000 in
def p5y0_149 : ck_Sum := ((0, 0, 0), 245, [.inr (.inr (.inl 226))], ([], [], [(226, 0, 0, ck_one 0)]), ([], []), [(.inr (some (.inl (ck_one 0))), 245, ([], [], []))])
set_option maxRecDepth 100000 in
theorem p5y0_149_e : ck_ok p1_O none [] [] 234 [] 76 p5y0_149 = true := by decide +kernel
theorem p5y0_149_s {X : Int → Int} {LX : Nat} : ck_Ok p1_O X LX 234 p5y0_149 := ck_ok_s (ck_E0) ck_X0 ck_l0 p5y0_149_e
set_option maxRecDepth 100000 in
def p5y0_F : ck_F := ([], [(3, 8, 0), (16, 8, 0), (29, 8, 0), (44, 8, 0), (57, 8, 0), (70, 8, 0), (83, 8, 0), (96, 8, 0), (109, 8, 0), (122, 8, 0), (135, 8, 0), (148, 8, 0), (161, 8, 0), (174, 8, 0), (187, 8, 0)], [(245, 0, 0, ck_one 0), (234, 49, 49, ck_one 4), (234, 48, 48, ck_one 2), (234, 47, 47, ck_one 3), (234, 46, 46, ck_one 5), (234, 45, 45, ck_one 6), (234, 44, 44, ck_one 7), (234, 43, 43, ck_one 3), (234, 42, 42, ck_one 5), (234, 41, 41, ck_one 8), (234, 40, 40, ck_one 8), (234, 39, 39, ck_one 6), (234, 38, 38, ck_one 1), (234, 37, 37, ck_one 3), (234, 36, 36, ck_one 4), (234, 35, 35, ck_one 7), (234, 34, 34, ck_one 1), (234, 33, 33, ck_one 2), (234, 32, 32, ck_one 4), (234, 31, 31, ck_one 5), (234, 30, 30, ck_one 4), (234, 29, 29, ck_one 6), (234, 28, 28, ck_one 2), (234, 27, 27, ck_one 5), (234, 26, 26, ck_one 1), (234, 25, 25, ck_one 4), (234, 24, 24, ck_one 7), (234, 23, 23, ck_one 1), (234, 22, 22, ck_one 5), (234, 21, 21, ck_one 8), (234, 20, 20, ck_one 6), (234, 19, 19, ck_one 6), (234, 18, 18, ck_one 7), (234, 17, 17, ck_one 3), (234, 16, 16, ck_one 9), (234, 15, 15, ck_one 3), (234, 14, 14, ck_one 5), (234, 13, 13, ck_one 0), (234, 12, 12, ck_one 4), (234, 11, 11, ck_one 7), (234, 10, 10, ck_one 9), (234, 9, 9, ck_one 6), (234, 8, 8, ck_one 2), (234, 7, 7, ck_one 9), (234, 6, 6, ck_one 0), (234, 5, 5, ck_one 7), (234, 4, 4, ck_one 1), (234, 3, 3, ck_one 5), (234, 2, 2, ck_one 3), (234, 1, 1, ck_one 8), (234, 0, 0, ck_one 8), (226, 0, 0, ck_one 0), (201, 49, 49, ck_one 4), (201, 48, 48, ck_one 2), (201, 47, 47, ck_one 3), (201, 46, 46, ck_one 5), (201, 45, 45, ck_one 6), (201, 44, 44, ck_one 7), (201, 43, 43, ck_one 3), (201, 42, 42, ck_one 5), (201, 41, 41, ck_one 8), (201, 40, 40, ck_one 8), (201, 39, 39, ck_one 6), (201, 38, 38, ck_one 1), (201, 37, 37, ck_one 3), (201, 36, 36, ck_one 4), (201, 35, 35, ck_one 7), (201, 34, 34, ck_one 1), (201, 33, 33, ck_one 2), (201, 32, 32, ck_one 4), (201, 31, 31, ck_one 5), (201, 30, 30, ck_one 4), (201, 29, 29, ck_one 6), (201, 28, 28, ck_one 2), (201, 27, 27, ck_one 5), (201, 26, 26, ck_one 1), (201, 25, 25, ck_one 4), (201, 24, 24, ck_one 7), (201, 23, 23, ck_one 1), (201, 22, 22, ck_one 5), (201, 21, 21, ck_one 8), (201, 20, 20, ck_one 6), (201, 19, 19, ck_one 6), (201, 18, 18, ck_one 7), (201, 17, 17, ck_one 3), (201, 16, 16, ck_one 9), (201, 15, 15, ck_one 3), (201, 14, 14, ck_one 5), (201, 13, 13, ck_one 0), (201, 12, 12, ck_one 4), (201, 11, 11, ck_one 7), (201, 10, 10, ck_one 9), (201, 9, 9, ck_one 6), (201, 8, 8, ck_one 2), (201, 7, 7, ck_one 9), (201, 6, 6, ck_one 0), (201, 5, 5, ck_one 7), (201, 4, 4, ck_one 1), (201, 3, 3, ck_one 5), (201, 2, 2, ck_one 3), (201, 1, 1, ck_one 8), (201, 0, 0, ck_one 8)])
def p5y0_E : List (Nat × List ck_Sum) := [(127, [p5y0_135, p5y0_144, p5y0_153, p5y0_160, p5y0_167, p5y0_174, p5y0_181, p5y0_188, p5y0_195, p5y0_202, p5y0_209, p5y0_216, p5y0_223, p5y0_230, p5y0_237, p5y0_244, p5y0_251, p5y0_258, p5y0_265, p5y0_272, p5y0_279, p5y0_286, p5y0_293, p5y0_300, p5y0_307, p5y0_314, p5y0_321, p5y0_328, p5y0_335, p5y0_342, p5y0_349, p5y0_356, p5y0_363, p5y0_370, p5y0_377, p5y0_384, p5y0_391, p5y0_398, p5y0_405, p5y0_412, p5y0_419, p5y0_426, p5y0_433, p5y0_440, p5y0_447, p5y0_454, p5y0_461, p5y0_468, p5y0_475, p5y0_482, p5y0_489]), (285, [p5y0_139, p5y0_148, p5y0_156, p5y0_163, p5y0_170, p5y0_177, p5y0_184, p5y0_191, p5y0_198, p5y0_205, p5y0_212, p5y0_219, p5y0_226, p5y0_233, p5y0_240, p5y0_247, p5y0_254, p5y0_261, p5y0_268, p5y0_275, p5y0_282, p5y0_289, p5y0_296, p5y0_303, p5y0_310, p5y0_317, p5y0_324, p5y0_331, p5y0_338, p5y0_345, p5y0_352, p5y0_359, p5y0_366, p5y0_373, p5y0_380, p5y0_387, p5y0_394, p5y0_401, p5y0_408, p5y0_415, p5y0_422, p5y0_429, p5y0_436, p5y0_443, p5y0_450, p5y0_457, p5y0_464, p5y0_471, p5y0_478, p5y0_485, p5y0_492]), (234, [p5y0_140, p5y0_149])]
set_option maxRecDepth 100000 in
theorem p5y0_h {X : Int → Int} {LX : Nat} : ck_OkE p1_O X LX p5y0_E := ck_E1 (ck_S1 p5y0_135_s (ck_S1 p5y0_144_s (ck_S1 p5y0_153_s (ck_S1 p5y0_160_s (ck_S1 p5y0_167_s (ck_S1 p5y0_174_s (ck_S1 p5y0_181_s (ck_S1 p5y0_188_s (ck_S1 p5y0_195_s (ck_S1 p5y0_202_s (ck_S1 p5y0_209_s (ck_S1 p5y0_216_s (ck_S1 p5y0_223_s (ck_S1 p5y0_230_s (ck_S1 p5y0_237_s (ck_S1 p5y0_244_s (ck_S1 p5y0_251_s (ck_S1 p5y0_258_s (ck_S1 p5y0_265_s (ck_S1 p5y0_272_s (ck_S1 p5y0_279_s (ck_S1 p5y0_286_s (ck_S1 p5y0_293_s (ck_S1 p5y0_300_s (ck_S1 p5y0_307_s (ck_S1 p5y0_314_s (ck_S1 p5y0_321_s (ck_S1 p5y0_328_s (ck_S1 p5y0_335_s (ck_S1 p5y0_342_s (ck_S1 p5y0_349_s (ck_S1 p5y0_356_s (ck_S1 p5y0_363_s (ck_S1 p5y0_370_s (ck_S1 p5y0_377_s (ck_S1 p5y0_384_s (ck_S1 p5y0_391_s (ck_S1 p5y0_398_s (ck_S1 p5y0_405_s (ck_S1 p5y0_412_s (ck_S1 p5y0_419_s (ck_S1 p5y0_426_s (ck_S1 p5y0_433_s (ck_S1 p5y0_440_s (ck_S1 p5y0_447_s (ck_S1 p5y0_454_s (ck_S1 p5y0_461_s (ck_S1 p5y0_468_s (ck_S1 p5y0_475_s (ck_S1 p5y0_482_s (ck_S1 p5y0_489_s ck_S0))))))))))))))))))))))))))))))))))))))))))))))))))) (ck_E1 (ck_S1 p5y0_139_s (ck_S1 p5y0_148_s (ck_S1 p5y0_156_s (ck_S1 p5y0_163_s (ck_S1 p5y0_170_s (ck_S1 p5y0_177_s (ck_S1 p5y0_184_s (ck_S1 p5y0_191_s (ck_S1 p5y0_198_s (ck_S1 p5y0_205_s (ck_S1 p5y0_212_s (ck_S1 p5y0_219_s (ck_S1 p5y0_226_s (ck_S1 p5y0_233_s (ck_S1 p5y0_240_s (ck_S1 p5y0_247_s (ck_S1 p5y0_254_s (ck_S1 p5y0_261_s (ck_S1 p5y0_268_s (ck_S1 p5y0_275_s (ck_S1 p5y0_282_s (ck_S1 p5y0_289_s (ck_S1 p5y0_296_s (ck_S1 p5y0_303_s (ck_S1 p5y0_310_s (ck_S1 p5y0_317_s (ck_S1 p5y0_324_s (ck_S1 p5y0_331_s (ck_S1 p5y0_338_s (ck_S1 p5y0_345_s (ck_S1 p5y0_352_s (ck_S1 p5y0_359_s (ck_S1 p5y0_366_s (ck_S1 p5y0_373_s (ck_S1 p5y0_380_s (ck_S1 p5y0_387_s (ck_S1 p5y0_394_s (ck_S1 p5y0_401_s (ck_S1 p5y0_408_s (ck_S1 p5y0_415_s (ck_S1 p5y0_422_s (ck_S1 p5y0_429_s (ck_S1 p5y0_436_s (ck_S1 p5y0_443_s (ck_S1 p5y0_450_s (ck_S1 p5y0_457_s (ck_S1 p5y0_464_s (ck_S1 p5y0_471_s (ck_S1 p5y0_478_s (ck_S1 p5y0_485_s (ck_S1 p5y0_492_s ck_S0))))))))))))))))))))))))))))))))))))))))))))))))))) (ck_E1 (ck_S1 p5y0_140_s (ck_S1 p5y0_149_s ck_S0)) ck_E0))
set_option maxRecDepth 100000 in
theorem p5y0_b : (ck_prod ((1, [((-2147483648), (-1)), (0, 0), (1, 1), (2, 2), (3, 3), (4, 4), (5, 5), (6, 6), (7, 7), (8, 8), (9, 9), (10, 10), (11, 11), (12, 12), (13, 13), (14, 14), (15, 15), (16, 16), (17, 17), (18, 18), (19, 19), (20, 20), (21, 21), (22, 22), (23, 23), (24, 24), (25, 25), (26, 26), (27, 27), (28, 28), (29, 29), (30, 30), (31, 31), (32, 32), (33, 33), (34, 34), (35, 35), (36, 36), (37, 37), (38, 38), (39, 39), (40, 40), (41, 41), (42, 42), (43, 43), (44, 44), (45, 45), (46, 46), (47, 47), (48, 48), (49, 49)]) :: [])).all (fun xf => ck_go p1_O (some 6) xf p5y0_E 370 280 245 p1_W p1_outs [] 132 false [] 1000 2000 443 p1_L [] 245 p5y0_F) = true := by decide +kernel
theorem p5y0_s {X : Int → Int} {LX : Nat} (hLX : 6 = LX) (hX : ∀ j, gm_ir (X j)) (h1 : (-2147483648) ≤ X 1) (h2 : X 1 ≤ 49) {σ : Nat → Int} {L : gm_L} {K0 K : gm_K} {R0 R : gm_R} {M0 M : gm_M} (hS : ck_St p1_O σ p1_W 245 K0 R0 M0 p1_L [] p5y0_F L [] 245 K R M) : gm_Wp X LX 280 1000 2000 370 443 L [] 245 K R M (ck_Q p1_O σ p1_W 245 K0 R0 M0 p1_outs) := ck_boxesR p5y0_h hLX hX h1 h2 (by decide +kernel) (by decide +kernel) p5y0_b hS
