/-! throwsFor, on a new object: laid by wip/am/p1g.py. -/
set_option maxRecDepth 100000 in
def p16x_133 : ck_Sum := ((6, 1, 6), 245, [.inr (.inr (.inl 1)), .inl ((-2147483648), (-1), none), .inl (ck_one 3)], ([], [], []), ([], []), [(.inl 3, 245, ([], [], []))])
set_option maxRecDepth 100000 in
theorem p16x_133_e : ck_ok p1_O none [] [] 133 [] 76 p16x_133 = true := by decide +kernel
theorem p16x_133_s {X : Int → Int} {LX : Nat} : ck_Ok p1_O X LX 133 p16x_133 := ck_ok_s (ck_E0) ck_X0 ck_l0 p16x_133_e
set_option maxRecDepth 100000 in
def p16x_134 : ck_Sum := ((7, 1, 6), 245, [.inr (.inr (.inl 1)), .inl ((-2147483648), (-1), none)], ([], [], [(3, 0, 0, ck_one 3)]), ([], []), [(.inl 3, 245, ([], [], []))])
set_option maxRecDepth 100000 in
theorem p16x_134_e : ck_ok p1_O none [] [(133, [p16x_133])] 132 [] 82 p16x_134 = true := by decide +kernel
theorem p16x_134_s {X : Int → Int} {LX : Nat} : ck_Ok p1_O X LX 132 p16x_134 := ck_ok_s (ck_E1 (ck_S1 p16x_133_s ck_S0) ck_E0) ck_X0 ck_l0 p16x_134_e
set_option maxRecDepth 100000 in
def p16x_135 : ck_Sum := ((8, 1, 6), 245, [.inr (.inr (.inl 1)), .inl ((-2147483648), (-1), none), .inl ((-2147483648), (-1), none), .inl ((-2147483648), (-1), none), .inl ((-2147483648), (-1), none)], ([], [], [(3, 0, 0, ck_one 3)]), ([], []), [(.inl 3, 245, ([], [], []))])
set_option maxRecDepth 100000 in
theorem p16x_135_e : ck_ok p1_O none [] [(132, [p16x_134])] 167 [] 76 p16x_135 = true := by decide +kernel
theorem p16x_135_s {X : Int → Int} {LX : Nat} : ck_Ok p1_O X LX 167 p16x_135 := ck_ok_s (ck_E1 (ck_S1 p16x_134_s ck_S0) ck_E0) ck_X0 ck_l0 p16x_135_e
set_option maxRecDepth 100000 in
def p16x_136 : ck_Sum := ((9, 1, 6), 245, [.inr (.inr (.inl 1)), .inl ((-2147483648), (-1), none), .inl ((-2147483648), (-1), none), .inl ((-2147483648), (-1), none), .inl ((-2147483648), (-1), none), .inr (.inr (.inl 245))], ([], [], [(3, 0, 0, ck_one 3)]), ([], []), [(.inr (some (.inl (ck_one 1))), 245, ([], [], []))])
set_option maxRecDepth 100000 in
theorem p16x_136_e : ck_ok p1_O none [] [(167, [p16x_135])] 166 [] 92 p16x_136 = true := by decide +kernel
theorem p16x_136_s {X : Int → Int} {LX : Nat} : ck_Ok p1_O X LX 166 p16x_136 := ck_ok_s (ck_E1 (ck_S1 p16x_135_s ck_S0) ck_E0) ck_X0 ck_l0 p16x_136_e
set_option maxRecDepth 100000 in
def p16x_143 : ck_Sum := ((8, 1, 6), 245, [.inr (.inr (.inl 1)), .inl ((-2147483648), (-1), none), .inl ((-2147483648), (-1), none), .inl ((-2147483648), (-1), none), .inl (ck_one 0)], ([], [], [(3, 0, 0, ck_one 3)]), ([], []), [(.inl 3, 245, ([], [], []))])
set_option maxRecDepth 100000 in
theorem p16x_143_e : ck_ok p1_O none [] [(132, [p16x_134])] 167 [] 76 p16x_143 = true := by decide +kernel
theorem p16x_143_s {X : Int → Int} {LX : Nat} : ck_Ok p1_O X LX 167 p16x_143 := ck_ok_s (ck_E1 (ck_S1 p16x_134_s ck_S0) ck_E0) ck_X0 ck_l0 p16x_143_e
set_option maxRecDepth 100000 in
def p16x_144 : ck_Sum := ((9, 1, 6), 245, [.inr (.inr (.inl 1)), .inl ((-2147483648), (-1), none), .inl ((-2147483648), (-1), none), .inl ((-2147483648), (-1), none), .inl (ck_one 0), .inr (.inr (.inl 245))], ([], [], [(3, 0, 0, ck_one 3)]), ([], []), [(.inr (some (.inl (ck_one 1))), 245, ([], [], []))])
set_option maxRecDepth 100000 in
theorem p16x_144_e : ck_ok p1_O none [] [(167, [p16x_143])] 166 [] 92 p16x_144 = true := by decide +kernel
theorem p16x_144_s {X : Int → Int} {LX : Nat} : ck_Ok p1_O X LX 166 p16x_144 := ck_ok_s (ck_E1 (ck_S1 p16x_143_s ck_S0) ck_E0) ck_X0 ck_l0 p16x_144_e
set_option maxRecDepth 100000 in
def p16x_146 : ck_Sum := ((8, 1, 6), 245, [.inr (.inr (.inl 1)), .inl ((-2147483648), (-1), none), .inl ((-2147483648), (-1), none), .inl ((-2147483648), (-1), none), .inl (ck_one 1)], ([], [], [(3, 0, 0, ck_one 3)]), ([], []), [(.inl 3, 245, ([], [], []))])
set_option maxRecDepth 100000 in
theorem p16x_146_e : ck_ok p1_O none [] [(132, [p16x_134])] 167 [] 76 p16x_146 = true := by decide +kernel
theorem p16x_146_s {X : Int → Int} {LX : Nat} : ck_Ok p1_O X LX 167 p16x_146 := ck_ok_s (ck_E1 (ck_S1 p16x_134_s ck_S0) ck_E0) ck_X0 ck_l0 p16x_146_e
set_option maxRecDepth 100000 in
def p16x_147 : ck_Sum := ((9, 1, 6), 245, [.inr (.inr (.inl 1)), .inl ((-2147483648), (-1), none), .inl ((-2147483648), (-1), none), .inl ((-2147483648), (-1), none), .inl (ck_one 1), .inr (.inr (.inl 245))], ([], [], [(3, 0, 0, ck_one 3)]), ([], []), [(.inr (some (.inl (ck_one 1))), 245, ([], [], []))])
set_option maxRecDepth 100000 in
theorem p16x_147_e : ck_ok p1_O none [] [(167, [p16x_146])] 166 [] 92 p16x_147 = true := by decide +kernel
theorem p16x_147_s {X : Int → Int} {LX : Nat} : ck_Ok p1_O X LX 166 p16x_147 := ck_ok_s (ck_E1 (ck_S1 p16x_146_s ck_S0) ck_E0) ck_X0 ck_l0 p16x_147_e
set_option maxRecDepth 100000 in
def p16x_149 : ck_Sum := ((8, 1, 6), 245, [.inr (.inr (.inl 1)), .inl ((-2147483648), (-1), none), .inl ((-2147483648), (-1), none), .inl ((-2147483648), (-1), none), .inl (ck_one 2)], ([], [], [(3, 0, 0, ck_one 3)]), ([], []), [(.inl 3, 245, ([], [], []))])
set_option maxRecDepth 100000 in
theorem p16x_149_e : ck_ok p1_O none [] [(132, [p16x_134])] 167 [] 76 p16x_149 = true := by decide +kernel
theorem p16x_149_s {X : Int → Int} {LX : Nat} : ck_Ok p1_O X LX 167 p16x_149 := ck_ok_s (ck_E1 (ck_S1 p16x_134_s ck_S0) ck_E0) ck_X0 ck_l0 p16x_149_e
set_option maxRecDepth 100000 in
def p16x_150 : ck_Sum := ((9, 1, 6), 245, [.inr (.inr (.inl 1)), .inl ((-2147483648), (-1), none), .inl ((-2147483648), (-1), none), .inl ((-2147483648), (-1), none), .inl (ck_one 2), .inr (.inr (.inl 245))], ([], [], [(3, 0, 0, ck_one 3)]), ([], []), [(.inr (some (.inl (ck_one 1))), 245, ([], [], []))])
set_option maxRecDepth 100000 in
theorem p16x_150_e : ck_ok p1_O none [] [(167, [p16x_149])] 166 [] 92 p16x_150 = true := by decide +kernel
theorem p16x_150_s {X : Int → Int} {LX : Nat} : ck_Ok p1_O X LX 166 p16x_150 := ck_ok_s (ck_E1 (ck_S1 p16x_149_s ck_S0) ck_E0) ck_X0 ck_l0 p16x_150_e
set_option maxRecDepth 100000 in
def p16x_152 : ck_Sum := ((8, 1, 6), 245, [.inr (.inr (.inl 1)), .inl ((-2147483648), (-1), none), .inl ((-2147483648), (-1), none), .inl ((-2147483648), (-1), none), .inl (3, 2147483647, none)], ([], [], [(3, 0, 0, ck_one 3)]), ([], []), [(.inl 3, 245, ([], [], []))])
set_option maxRecDepth 100000 in
theorem p16x_152_e : ck_ok p1_O none [] [(132, [p16x_134])] 167 [] 76 p16x_152 = true := by decide +kernel
theorem p16x_152_s {X : Int → Int} {LX : Nat} : ck_Ok p1_O X LX 167 p16x_152 := ck_ok_s (ck_E1 (ck_S1 p16x_134_s ck_S0) ck_E0) ck_X0 ck_l0 p16x_152_e
set_option maxRecDepth 100000 in
def p16x_153 : ck_Sum := ((9, 1, 6), 245, [.inr (.inr (.inl 1)), .inl ((-2147483648), (-1), none), .inl ((-2147483648), (-1), none), .inl ((-2147483648), (-1), none), .inl (3, 2147483647, none), .inr (.inr (.inl 245))], ([], [], [(3, 0, 0, ck_one 3)]), ([], []), [(.inr (some (.inl (ck_one 1))), 245, ([], [], []))])
set_option maxRecDepth 100000 in
theorem p16x_153_e : ck_ok p1_O none [] [(167, [p16x_152])] 166 [] 92 p16x_153 = true := by decide +kernel
theorem p16x_153_s {X : Int → Int} {LX : Nat} : ck_Ok p1_O X LX 166 p16x_153 := ck_ok_s (ck_E1 (ck_S1 p16x_152_s ck_S0) ck_E0) ck_X0 ck_l0 p16x_153_e
set_option maxRecDepth 100000 in
def p16x_155 : ck_Sum := ((8, 1, 6), 245, [.inr (.inr (.inl 1)), .inl ((-2147483648), (-1), none), .inl ((-2147483648), (-1), none), .inl (0, 299, none), .inl ((-2147483648), (-1), none)], ([], [], [(3, 0, 0, ck_one 3)]), ([], []), [(.inl 3, 245, ([], [], []))])
set_option maxRecDepth 100000 in
theorem p16x_155_e : ck_ok p1_O none [] [(132, [p16x_134])] 167 [] 76 p16x_155 = true := by decide +kernel
theorem p16x_155_s {X : Int → Int} {LX : Nat} : ck_Ok p1_O X LX 167 p16x_155 := ck_ok_s (ck_E1 (ck_S1 p16x_134_s ck_S0) ck_E0) ck_X0 ck_l0 p16x_155_e
set_option maxRecDepth 100000 in
def p16x_156 : ck_Sum := ((9, 1, 6), 245, [.inr (.inr (.inl 1)), .inl ((-2147483648), (-1), none), .inl ((-2147483648), (-1), none), .inl (0, 299, none), .inl ((-2147483648), (-1), none), .inr (.inr (.inl 245))], ([], [], [(3, 0, 0, ck_one 3)]), ([], []), [(.inr (some (.inl (ck_one 1))), 245, ([], [], []))])
set_option maxRecDepth 100000 in
theorem p16x_156_e : ck_ok p1_O none [] [(167, [p16x_155])] 166 [] 92 p16x_156 = true := by decide +kernel
theorem p16x_156_s {X : Int → Int} {LX : Nat} : ck_Ok p1_O X LX 166 p16x_156 := ck_ok_s (ck_E1 (ck_S1 p16x_155_s ck_S0) ck_E0) ck_X0 ck_l0 p16x_156_e
set_option maxRecDepth 100000 in
def p16x_158 : ck_Sum := ((8, 1, 6), 245, [.inr (.inr (.inl 1)), .inl ((-2147483648), (-1), none), .inl ((-2147483648), (-1), none), .inl (0, 299, none), .inl (ck_one 0)], ([], [], [(3, 0, 0, ck_one 3)]), ([], []), [(.inl 3, 245, ([], [], []))])
set_option maxRecDepth 100000 in
theorem p16x_158_e : ck_ok p1_O none [] [(132, [p16x_134])] 167 [] 76 p16x_158 = true := by decide +kernel
theorem p16x_158_s {X : Int → Int} {LX : Nat} : ck_Ok p1_O X LX 167 p16x_158 := ck_ok_s (ck_E1 (ck_S1 p16x_134_s ck_S0) ck_E0) ck_X0 ck_l0 p16x_158_e
set_option maxRecDepth 100000 in
def p16x_159 : ck_Sum := ((9, 1, 6), 245, [.inr (.inr (.inl 1)), .inl ((-2147483648), (-1), none), .inl ((-2147483648), (-1), none), .inl (0, 299, none), .inl (ck_one 0), .inr (.inr (.inl 245))], ([], [], [(3, 0, 0, ck_one 3)]), ([], []), [(.inr (some (.inl (ck_one 1))), 245, ([], [], []))])
set_option maxRecDepth 100000 in
theorem p16x_159_e : ck_ok p1_O none [] [(167, [p16x_158])] 166 [] 92 p16x_159 = true := by decide +kernel
theorem p16x_159_s {X : Int → Int} {LX : Nat} : ck_Ok p1_O X LX 166 p16x_159 := ck_ok_s (ck_E1 (ck_S1 p16x_158_s ck_S0) ck_E0) ck_X0 ck_l0 p16x_159_e
set_option maxRecDepth 100000 in
def p16x_161 : ck_Sum := ((8, 1, 6), 245, [.inr (.inr (.inl 1)), .inl ((-2147483648), (-1), none), .inl ((-2147483648), (-1), none), .inl (0, 299, none), .inl (ck_one 1)], ([], [], [(3, 0, 0, ck_one 3)]), ([], []), [(.inl 3, 245, ([], [], []))])
set_option maxRecDepth 100000 in
theorem p16x_161_e : ck_ok p1_O none [] [(132, [p16x_134])] 167 [] 76 p16x_161 = true := by decide +kernel
theorem p16x_161_s {X : Int → Int} {LX : Nat} : ck_Ok p1_O X LX 167 p16x_161 := ck_ok_s (ck_E1 (ck_S1 p16x_134_s ck_S0) ck_E0) ck_X0 ck_l0 p16x_161_e
set_option maxRecDepth 100000 in
def p16x_162 : ck_Sum := ((9, 1, 6), 245, [.inr (.inr (.inl 1)), .inl ((-2147483648), (-1), none), .inl ((-2147483648), (-1), none), .inl (0, 299, none), .inl (ck_one 1), .inr (.inr (.inl 245))], ([], [], [(3, 0, 0, ck_one 3)]), ([], []), [(.inr (some (.inl (ck_one 1))), 245, ([], [], []))])
set_option maxRecDepth 100000 in
theorem p16x_162_e : ck_ok p1_O none [] [(167, [p16x_161])] 166 [] 92 p16x_162 = true := by decide +kernel
theorem p16x_162_s {X : Int → Int} {LX : Nat} : ck_Ok p1_O X LX 166 p16x_162 := ck_ok_s (ck_E1 (ck_S1 p16x_161_s ck_S0) ck_E0) ck_X0 ck_l0 p16x_162_e
set_option maxRecDepth 100000 in
def p16x_164 : ck_Sum := ((8, 1, 6), 245, [.inr (.inr (.inl 1)), .inl ((-2147483648), (-1), none), .inl ((-2147483648), (-1), none), .inl (0, 299, none), .inl (ck_one 2)], ([], [], [(3, 0, 0, ck_one 3)]), ([], []), [(.inl 3, 245, ([], [], []))])
set_option maxRecDepth 100000 in
theorem p16x_164_e : ck_ok p1_O none [] [(132, [p16x_134])] 167 [] 76 p16x_164 = true := by decide +kernel
theorem p16x_164_s {X : Int → Int} {LX : Nat} : ck_Ok p1_O X LX 167 p16x_164 := ck_ok_s (ck_E1 (ck_S1 p16x_134_s ck_S0) ck_E0) ck_X0 ck_l0 p16x_164_e
set_option maxRecDepth 100000 in
def p16x_165 : ck_Sum := ((9, 1, 6), 245, [.inr (.inr (.inl 1)), .inl ((-2147483648), (-1), none), .inl ((-2147483648), (-1), none), .inl (0, 299, none), .inl (ck_one 2), .inr (.inr (.inl 245))], ([], [], [(3, 0, 0, ck_one 3)]), ([], []), [(.inr (some (.inl (ck_one 1))), 245, ([], [], []))])
set_option maxRecDepth 100000 in
theorem p16x_165_e : ck_ok p1_O none [] [(167, [p16x_164])] 166 [] 92 p16x_165 = true := by decide +kernel
theorem p16x_165_s {X : Int → Int} {LX : Nat} : ck_Ok p1_O X LX 166 p16x_165 := ck_ok_s (ck_E1 (ck_S1 p16x_164_s ck_S0) ck_E0) ck_X0 ck_l0 p16x_165_e
set_option maxRecDepth 100000 in
def p16x_167 : ck_Sum := ((8, 1, 6), 245, [.inr (.inr (.inl 1)), .inl ((-2147483648), (-1), none), .inl ((-2147483648), (-1), none), .inl (0, 299, none), .inl (3, 2147483647, none)], ([], [], [(3, 0, 0, ck_one 3)]), ([], []), [(.inl 3, 245, ([], [], []))])
set_option maxRecDepth 100000 in
theorem p16x_167_e : ck_ok p1_O none [] [(132, [p16x_134])] 167 [] 76 p16x_167 = true := by decide +kernel
theorem p16x_167_s {X : Int → Int} {LX : Nat} : ck_Ok p1_O X LX 167 p16x_167 := ck_ok_s (ck_E1 (ck_S1 p16x_134_s ck_S0) ck_E0) ck_X0 ck_l0 p16x_167_e
set_option maxRecDepth 100000 in
def p16x_168 : ck_Sum := ((9, 1, 6), 245, [.inr (.inr (.inl 1)), .inl ((-2147483648), (-1), none), .inl ((-2147483648), (-1), none), .inl (0, 299, none), .inl (3, 2147483647, none), .inr (.inr (.inl 245))], ([], [], [(3, 0, 0, ck_one 3)]), ([], []), [(.inr (some (.inl (ck_one 1))), 245, ([], [], []))])
set_option maxRecDepth 100000 in
theorem p16x_168_e : ck_ok p1_O none [] [(167, [p16x_167])] 166 [] 92 p16x_168 = true := by decide +kernel
theorem p16x_168_s {X : Int → Int} {LX : Nat} : ck_Ok p1_O X LX 166 p16x_168 := ck_ok_s (ck_E1 (ck_S1 p16x_167_s ck_S0) ck_E0) ck_X0 ck_l0 p16x_168_e
set_option maxRecDepth 100000 in
def p16x_170 : ck_Sum := ((8, 1, 6), 245, [.inr (.inr (.inl 1)), .inl ((-2147483648), (-1), none), .inl ((-2147483648), (-1), none), .inl (300, 2147483647, none), .inl ((-2147483648), (-1), none)], ([], [], [(3, 0, 0, ck_one 3)]), ([], []), [(.inl 3, 245, ([], [], []))])
set_option maxRecDepth 100000 in
theorem p16x_170_e : ck_ok p1_O none [] [(132, [p16x_134])] 167 [] 76 p16x_170 = true := by decide +kernel
theorem p16x_170_s {X : Int → Int} {LX : Nat} : ck_Ok p1_O X LX 167 p16x_170 := ck_ok_s (ck_E1 (ck_S1 p16x_134_s ck_S0) ck_E0) ck_X0 ck_l0 p16x_170_e
set_option maxRecDepth 100000 in
def p16x_171 : ck_Sum := ((9, 1, 6), 245, [.inr (.inr (.inl 1)), .inl ((-2147483648), (-1), none), .inl ((-2147483648), (-1), none), .inl (300, 2147483647, none), .inl ((-2147483648), (-1), none), .inr (.inr (.inl 245))], ([], [], [(3, 0, 0, ck_one 3)]), ([], []), [(.inr (some (.inl (ck_one 1))), 245, ([], [], []))])
set_option maxRecDepth 100000 in
theorem p16x_171_e : ck_ok p1_O none [] [(167, [p16x_170])] 166 [] 92 p16x_171 = true := by decide +kernel
theorem p16x_171_s {X : Int → Int} {LX : Nat} : ck_Ok p1_O X LX 166 p16x_171 := ck_ok_s (ck_E1 (ck_S1 p16x_170_s ck_S0) ck_E0) ck_X0 ck_l0 p16x_171_e
set_option maxRecDepth 100000 in
def p16x_173 : ck_Sum := ((8, 1, 6), 245, [.inr (.inr (.inl 1)), .inl ((-2147483648), (-1), none), .inl ((-2147483648), (-1), none), .inl (300, 2147483647, none), .inl (ck_one 0)], ([], [], [(3, 0, 0, ck_one 3)]), ([], []), [(.inl 3, 245, ([], [], []))])
set_option maxRecDepth 100000 in
theorem p16x_173_e : ck_ok p1_O none [] [(132, [p16x_134])] 167 [] 76 p16x_173 = true := by decide +kernel
theorem p16x_173_s {X : Int → Int} {LX : Nat} : ck_Ok p1_O X LX 167 p16x_173 := ck_ok_s (ck_E1 (ck_S1 p16x_134_s ck_S0) ck_E0) ck_X0 ck_l0 p16x_173_e
set_option maxRecDepth 100000 in
def p16x_174 : ck_Sum := ((9, 1, 6), 245, [.inr (.inr (.inl 1)), .inl ((-2147483648), (-1), none), .inl ((-2147483648), (-1), none), .inl (300, 2147483647, none), .inl (ck_one 0), .inr (.inr (.inl 245))], ([], [], [(3, 0, 0, ck_one 3)]), ([], []), [(.inr (some (.inl (ck_one 1))), 245, ([], [], []))])
set_option maxRecDepth 100000 in
theorem p16x_174_e : ck_ok p1_O none [] [(167, [p16x_173])] 166 [] 92 p16x_174 = true := by decide +kernel
theorem p16x_174_s {X : Int → Int} {LX : Nat} : ck_Ok p1_O X LX 166 p16x_174 := ck_ok_s (ck_E1 (ck_S1 p16x_173_s ck_S0) ck_E0) ck_X0 ck_l0 p16x_174_e
set_option maxRecDepth 100000 in
def p16x_176 : ck_Sum := ((8, 1, 6), 245, [.inr (.inr (.inl 1)), .inl ((-2147483648), (-1), none), .inl ((-2147483648), (-1), none), .inl (300, 2147483647, none), .inl (ck_one 1)], ([], [], [(3, 0, 0, ck_one 3)]), ([], []), [(.inl 3, 245, ([], [], []))])
set_option maxRecDepth 100000 in
theorem p16x_176_e : ck_ok p1_O none [] [(132, [p16x_134])] 167 [] 76 p16x_176 = true := by decide +kernel
theorem p16x_176_s {X : Int → Int} {LX : Nat} : ck_Ok p1_O X LX 167 p16x_176 := ck_ok_s (ck_E1 (ck_S1 p16x_134_s ck_S0) ck_E0) ck_X0 ck_l0 p16x_176_e
set_option maxRecDepth 100000 in
def p16x_177 : ck_Sum := ((9, 1, 6), 245, [.inr (.inr (.inl 1)), .inl ((-2147483648), (-1), none), .inl ((-2147483648), (-1), none), .inl (300, 2147483647, none), .inl (ck_one 1), .inr (.inr (.inl 245))], ([], [], [(3, 0, 0, ck_one 3)]), ([], []), [(.inr (some (.inl (ck_one 1))), 245, ([], [], []))])
set_option maxRecDepth 100000 in
theorem p16x_177_e : ck_ok p1_O none [] [(167, [p16x_176])] 166 [] 92 p16x_177 = true := by decide +kernel
theorem p16x_177_s {X : Int → Int} {LX : Nat} : ck_Ok p1_O X LX 166 p16x_177 := ck_ok_s (ck_E1 (ck_S1 p16x_176_s ck_S0) ck_E0) ck_X0 ck_l0 p16x_177_e
set_option maxRecDepth 100000 in
def p16x_179 : ck_Sum := ((8, 1, 6), 245, [.inr (.inr (.inl 1)), .inl ((-2147483648), (-1), none), .inl ((-2147483648), (-1), none), .inl (300, 2147483647, none), .inl (ck_one 2)], ([], [], [(3, 0, 0, ck_one 3)]), ([], []), [(.inl 3, 245, ([], [], []))])
set_option maxRecDepth 100000 in
theorem p16x_179_e : ck_ok p1_O none [] [(132, [p16x_134])] 167 [] 76 p16x_179 = true := by decide +kernel
theorem p16x_179_s {X : Int → Int} {LX : Nat} : ck_Ok p1_O X LX 167 p16x_179 := ck_ok_s (ck_E1 (ck_S1 p16x_134_s ck_S0) ck_E0) ck_X0 ck_l0 p16x_179_e
set_option maxRecDepth 100000 in
def p16x_180 : ck_Sum := ((9, 1, 6), 245, [.inr (.inr (.inl 1)), .inl ((-2147483648), (-1), none), .inl ((-2147483648), (-1), none), .inl (300, 2147483647, none), .inl (ck_one 2), .inr (.inr (.inl 245))], ([], [], [(3, 0, 0, ck_one 3)]), ([], []), [(.inr (some (.inl (ck_one 1))), 245, ([], [], []))])
set_option maxRecDepth 100000 in
theorem p16x_180_e : ck_ok p1_O none [] [(167, [p16x_179])] 166 [] 92 p16x_180 = true := by decide +kernel
theorem p16x_180_s {X : Int → Int} {LX : Nat} : ck_Ok p1_O X LX 166 p16x_180 := ck_ok_s (ck_E1 (ck_S1 p16x_179_s ck_S0) ck_E0) ck_X0 ck_l0 p16x_180_e
set_option maxRecDepth 100000 in
def p16x_182 : ck_Sum := ((8, 1, 6), 245, [.inr (.inr (.inl 1)), .inl ((-2147483648), (-1), none), .inl ((-2147483648), (-1), none), .inl (300, 2147483647, none), .inl (3, 2147483647, none)], ([], [], [(3, 0, 0, ck_one 3)]), ([], []), [(.inl 3, 245, ([], [], []))])
set_option maxRecDepth 100000 in
theorem p16x_182_e : ck_ok p1_O none [] [(132, [p16x_134])] 167 [] 76 p16x_182 = true := by decide +kernel
theorem p16x_182_s {X : Int → Int} {LX : Nat} : ck_Ok p1_O X LX 167 p16x_182 := ck_ok_s (ck_E1 (ck_S1 p16x_134_s ck_S0) ck_E0) ck_X0 ck_l0 p16x_182_e
set_option maxRecDepth 100000 in
def p16x_183 : ck_Sum := ((9, 1, 6), 245, [.inr (.inr (.inl 1)), .inl ((-2147483648), (-1), none), .inl ((-2147483648), (-1), none), .inl (300, 2147483647, none), .inl (3, 2147483647, none), .inr (.inr (.inl 245))], ([], [], [(3, 0, 0, ck_one 3)]), ([], []), [(.inr (some (.inl (ck_one 1))), 245, ([], [], []))])
set_option maxRecDepth 100000 in
theorem p16x_183_e : ck_ok p1_O none [] [(167, [p16x_182])] 166 [] 92 p16x_183 = true := by decide +kernel
theorem p16x_183_s {X : Int → Int} {LX : Nat} : ck_Ok p1_O X LX 166 p16x_183 := ck_ok_s (ck_E1 (ck_S1 p16x_182_s ck_S0) ck_E0) ck_X0 ck_l0 p16x_183_e
set_option maxRecDepth 100000 in
def p16x_185 : ck_Sum := ((8, 1, 6), 245, [.inr (.inr (.inl 1)), .inl ((-2147483648), (-1), none), .inl (0, 299, none), .inl ((-2147483648), (-1), none), .inl ((-2147483648), (-1), none)], ([], [], [(3, 0, 0, ck_one 3)]), ([], []), [(.inl 3, 245, ([], [], []))])
set_option maxRecDepth 100000 in
theorem p16x_185_e : ck_ok p1_O none [] [(132, [p16x_134])] 167 [] 76 p16x_185 = true := by decide +kernel
theorem p16x_185_s {X : Int → Int} {LX : Nat} : ck_Ok p1_O X LX 167 p16x_185 := ck_ok_s (ck_E1 (ck_S1 p16x_134_s ck_S0) ck_E0) ck_X0 ck_l0 p16x_185_e
set_option maxRecDepth 100000 in
def p16x_186 : ck_Sum := ((9, 1, 6), 245, [.inr (.inr (.inl 1)), .inl ((-2147483648), (-1), none), .inl (0, 299, none), .inl ((-2147483648), (-1), none), .inl ((-2147483648), (-1), none), .inr (.inr (.inl 245))], ([], [], [(3, 0, 0, ck_one 3)]), ([], []), [(.inr (some (.inl (ck_one 1))), 245, ([], [], []))])
set_option maxRecDepth 100000 in
theorem p16x_186_e : ck_ok p1_O none [] [(167, [p16x_185])] 166 [] 92 p16x_186 = true := by decide +kernel
theorem p16x_186_s {X : Int → Int} {LX : Nat} : ck_Ok p1_O X LX 166 p16x_186 := ck_ok_s (ck_E1 (ck_S1 p16x_185_s ck_S0) ck_E0) ck_X0 ck_l0 p16x_186_e
set_option maxRecDepth 100000 in
def p16x_188 : ck_Sum := ((8, 1, 6), 245, [.inr (.inr (.inl 1)), .inl ((-2147483648), (-1), none), .inl (0, 299, none), .inl ((-2147483648), (-1), none), .inl (ck_one 0)], ([], [], [(3, 0, 0, ck_one 3)]), ([], []), [(.inl 3, 245, ([], [], []))])
set_option maxRecDepth 100000 in
theorem p16x_188_e : ck_ok p1_O none [] [(132, [p16x_134])] 167 [] 76 p16x_188 = true := by decide +kernel
theorem p16x_188_s {X : Int → Int} {LX : Nat} : ck_Ok p1_O X LX 167 p16x_188 := ck_ok_s (ck_E1 (ck_S1 p16x_134_s ck_S0) ck_E0) ck_X0 ck_l0 p16x_188_e
set_option maxRecDepth 100000 in
def p16x_189 : ck_Sum := ((9, 1, 6), 245, [.inr (.inr (.inl 1)), .inl ((-2147483648), (-1), none), .inl (0, 299, none), .inl ((-2147483648), (-1), none), .inl (ck_one 0), .inr (.inr (.inl 245))], ([], [], [(3, 0, 0, ck_one 3)]), ([], []), [(.inr (some (.inl (ck_one 1))), 245, ([], [], []))])
set_option maxRecDepth 100000 in
theorem p16x_189_e : ck_ok p1_O none [] [(167, [p16x_188])] 166 [] 92 p16x_189 = true := by decide +kernel
theorem p16x_189_s {X : Int → Int} {LX : Nat} : ck_Ok p1_O X LX 166 p16x_189 := ck_ok_s (ck_E1 (ck_S1 p16x_188_s ck_S0) ck_E0) ck_X0 ck_l0 p16x_189_e
set_option maxRecDepth 100000 in
def p16x_191 : ck_Sum := ((8, 1, 6), 245, [.inr (.inr (.inl 1)), .inl ((-2147483648), (-1), none), .inl (0, 299, none), .inl ((-2147483648), (-1), none), .inl (ck_one 1)], ([], [], [(3, 0, 0, ck_one 3)]), ([], []), [(.inl 3, 245, ([], [], []))])
set_option maxRecDepth 100000 in
theorem p16x_191_e : ck_ok p1_O none [] [(132, [p16x_134])] 167 [] 76 p16x_191 = true := by decide +kernel
theorem p16x_191_s {X : Int → Int} {LX : Nat} : ck_Ok p1_O X LX 167 p16x_191 := ck_ok_s (ck_E1 (ck_S1 p16x_134_s ck_S0) ck_E0) ck_X0 ck_l0 p16x_191_e
set_option maxRecDepth 100000 in
def p16x_192 : ck_Sum := ((9, 1, 6), 245, [.inr (.inr (.inl 1)), .inl ((-2147483648), (-1), none), .inl (0, 299, none), .inl ((-2147483648), (-1), none), .inl (ck_one 1), .inr (.inr (.inl 245))], ([], [], [(3, 0, 0, ck_one 3)]), ([], []), [(.inr (some (.inl (ck_one 1))), 245, ([], [], []))])
set_option maxRecDepth 100000 in
theorem p16x_192_e : ck_ok p1_O none [] [(167, [p16x_191])] 166 [] 92 p16x_192 = true := by decide +kernel
theorem p16x_192_s {X : Int → Int} {LX : Nat} : ck_Ok p1_O X LX 166 p16x_192 := ck_ok_s (ck_E1 (ck_S1 p16x_191_s ck_S0) ck_E0) ck_X0 ck_l0 p16x_192_e
set_option maxRecDepth 100000 in
def p16x_194 : ck_Sum := ((8, 1, 6), 245, [.inr (.inr (.inl 1)), .inl ((-2147483648), (-1), none), .inl (0, 299, none), .inl ((-2147483648), (-1), none), .inl (ck_one 2)], ([], [], [(3, 0, 0, ck_one 3)]), ([], []), [(.inl 3, 245, ([], [], []))])
set_option maxRecDepth 100000 in
theorem p16x_194_e : ck_ok p1_O none [] [(132, [p16x_134])] 167 [] 76 p16x_194 = true := by decide +kernel
theorem p16x_194_s {X : Int → Int} {LX : Nat} : ck_Ok p1_O X LX 167 p16x_194 := ck_ok_s (ck_E1 (ck_S1 p16x_134_s ck_S0) ck_E0) ck_X0 ck_l0 p16x_194_e
set_option maxRecDepth 100000 in
def p16x_195 : ck_Sum := ((9, 1, 6), 245, [.inr (.inr (.inl 1)), .inl ((-2147483648), (-1), none), .inl (0, 299, none), .inl ((-2147483648), (-1), none), .inl (ck_one 2), .inr (.inr (.inl 245))], ([], [], [(3, 0, 0, ck_one 3)]), ([], []), [(.inr (some (.inl (ck_one 1))), 245, ([], [], []))])
set_option maxRecDepth 100000 in
theorem p16x_195_e : ck_ok p1_O none [] [(167, [p16x_194])] 166 [] 92 p16x_195 = true := by decide +kernel
theorem p16x_195_s {X : Int → Int} {LX : Nat} : ck_Ok p1_O X LX 166 p16x_195 := ck_ok_s (ck_E1 (ck_S1 p16x_194_s ck_S0) ck_E0) ck_X0 ck_l0 p16x_195_e
set_option maxRecDepth 100000 in
def p16x_197 : ck_Sum := ((8, 1, 6), 245, [.inr (.inr (.inl 1)), .inl ((-2147483648), (-1), none), .inl (0, 299, none), .inl ((-2147483648), (-1), none), .inl (3, 2147483647, none)], ([], [], [(3, 0, 0, ck_one 3)]), ([], []), [(.inl 3, 245, ([], [], []))])
set_option maxRecDepth 100000 in
theorem p16x_197_e : ck_ok p1_O none [] [(132, [p16x_134])] 167 [] 76 p16x_197 = true := by decide +kernel
theorem p16x_197_s {X : Int → Int} {LX : Nat} : ck_Ok p1_O X LX 167 p16x_197 := ck_ok_s (ck_E1 (ck_S1 p16x_134_s ck_S0) ck_E0) ck_X0 ck_l0 p16x_197_e
set_option maxRecDepth 100000 in
def p16x_198 : ck_Sum := ((9, 1, 6), 245, [.inr (.inr (.inl 1)), .inl ((-2147483648), (-1), none), .inl (0, 299, none), .inl ((-2147483648), (-1), none), .inl (3, 2147483647, none), .inr (.inr (.inl 245))], ([], [], [(3, 0, 0, ck_one 3)]), ([], []), [(.inr (some (.inl (ck_one 1))), 245, ([], [], []))])
set_option maxRecDepth 100000 in
theorem p16x_198_e : ck_ok p1_O none [] [(167, [p16x_197])] 166 [] 92 p16x_198 = true := by decide +kernel
theorem p16x_198_s {X : Int → Int} {LX : Nat} : ck_Ok p1_O X LX 166 p16x_198 := ck_ok_s (ck_E1 (ck_S1 p16x_197_s ck_S0) ck_E0) ck_X0 ck_l0 p16x_198_e
set_option maxRecDepth 100000 in
def p16x_200 : ck_Sum := ((8, 1, 6), 245, [.inr (.inr (.inl 1)), .inl ((-2147483648), (-1), none), .inl (0, 299, none), .inl (0, 299, none), .inl ((-2147483648), (-1), none)], ([], [], [(3, 0, 0, ck_one 3)]), ([], []), [(.inl 3, 245, ([], [], []))])
set_option maxRecDepth 100000 in
theorem p16x_200_e : ck_ok p1_O none [] [(132, [p16x_134])] 167 [] 76 p16x_200 = true := by decide +kernel
theorem p16x_200_s {X : Int → Int} {LX : Nat} : ck_Ok p1_O X LX 167 p16x_200 := ck_ok_s (ck_E1 (ck_S1 p16x_134_s ck_S0) ck_E0) ck_X0 ck_l0 p16x_200_e
set_option maxRecDepth 100000 in
def p16x_201 : ck_Sum := ((9, 1, 6), 245, [.inr (.inr (.inl 1)), .inl ((-2147483648), (-1), none), .inl (0, 299, none), .inl (0, 299, none), .inl ((-2147483648), (-1), none), .inr (.inr (.inl 245))], ([], [], [(3, 0, 0, ck_one 3)]), ([], []), [(.inr (some (.inl (ck_one 1))), 245, ([], [], []))])
set_option maxRecDepth 100000 in
theorem p16x_201_e : ck_ok p1_O none [] [(167, [p16x_200])] 166 [] 92 p16x_201 = true := by decide +kernel
theorem p16x_201_s {X : Int → Int} {LX : Nat} : ck_Ok p1_O X LX 166 p16x_201 := ck_ok_s (ck_E1 (ck_S1 p16x_200_s ck_S0) ck_E0) ck_X0 ck_l0 p16x_201_e
set_option maxRecDepth 100000 in
def p16x_203 : ck_Sum := ((8, 1, 6), 245, [.inr (.inr (.inl 1)), .inl ((-2147483648), (-1), none), .inl (0, 299, none), .inl (0, 299, none), .inl (ck_one 0)], ([], [], [(3, 0, 0, ck_one 3)]), ([], []), [(.inl 3, 245, ([], [], []))])
set_option maxRecDepth 100000 in
theorem p16x_203_e : ck_ok p1_O none [] [(132, [p16x_134])] 167 [] 76 p16x_203 = true := by decide +kernel
theorem p16x_203_s {X : Int → Int} {LX : Nat} : ck_Ok p1_O X LX 167 p16x_203 := ck_ok_s (ck_E1 (ck_S1 p16x_134_s ck_S0) ck_E0) ck_X0 ck_l0 p16x_203_e
set_option maxRecDepth 100000 in
def p16x_204 : ck_Sum := ((9, 1, 6), 245, [.inr (.inr (.inl 1)), .inl ((-2147483648), (-1), none), .inl (0, 299, none), .inl (0, 299, none), .inl (ck_one 0), .inr (.inr (.inl 245))], ([], [], [(3, 0, 0, ck_one 3)]), ([], []), [(.inr (some (.inl (ck_one 1))), 245, ([], [], []))])
set_option maxRecDepth 100000 in
theorem p16x_204_e : ck_ok p1_O none [] [(167, [p16x_203])] 166 [] 92 p16x_204 = true := by decide +kernel
theorem p16x_204_s {X : Int → Int} {LX : Nat} : ck_Ok p1_O X LX 166 p16x_204 := ck_ok_s (ck_E1 (ck_S1 p16x_203_s ck_S0) ck_E0) ck_X0 ck_l0 p16x_204_e
set_option maxRecDepth 100000 in
def p16x_206 : ck_Sum := ((8, 1, 6), 245, [.inr (.inr (.inl 1)), .inl ((-2147483648), (-1), none), .inl (0, 299, none), .inl (0, 299, none), .inl (ck_one 1)], ([], [], [(3, 0, 0, ck_one 3)]), ([], []), [(.inl 3, 245, ([], [], []))])
set_option maxRecDepth 100000 in
theorem p16x_206_e : ck_ok p1_O none [] [(132, [p16x_134])] 167 [] 76 p16x_206 = true := by decide +kernel
theorem p16x_206_s {X : Int → Int} {LX : Nat} : ck_Ok p1_O X LX 167 p16x_206 := ck_ok_s (ck_E1 (ck_S1 p16x_134_s ck_S0) ck_E0) ck_X0 ck_l0 p16x_206_e
set_option maxRecDepth 100000 in
def p16x_207 : ck_Sum := ((9, 1, 6), 245, [.inr (.inr (.inl 1)), .inl ((-2147483648), (-1), none), .inl (0, 299, none), .inl (0, 299, none), .inl (ck_one 1), .inr (.inr (.inl 245))], ([], [], [(3, 0, 0, ck_one 3)]), ([], []), [(.inr (some (.inl (ck_one 1))), 245, ([], [], []))])
set_option maxRecDepth 100000 in
theorem p16x_207_e : ck_ok p1_O none [] [(167, [p16x_206])] 166 [] 92 p16x_207 = true := by decide +kernel
theorem p16x_207_s {X : Int → Int} {LX : Nat} : ck_Ok p1_O X LX 166 p16x_207 := ck_ok_s (ck_E1 (ck_S1 p16x_206_s ck_S0) ck_E0) ck_X0 ck_l0 p16x_207_e
set_option maxRecDepth 100000 in
def p16x_209 : ck_Sum := ((8, 1, 6), 245, [.inr (.inr (.inl 1)), .inl ((-2147483648), (-1), none), .inl (0, 299, none), .inl (0, 299, none), .inl (ck_one 2)], ([], [], [(3, 0, 0, ck_one 3)]), ([], []), [(.inl 3, 245, ([], [], []))])
set_option maxRecDepth 100000 in
theorem p16x_209_e : ck_ok p1_O none [] [(132, [p16x_134])] 167 [] 76 p16x_209 = true := by decide +kernel
theorem p16x_209_s {X : Int → Int} {LX : Nat} : ck_Ok p1_O X LX 167 p16x_209 := ck_ok_s (ck_E1 (ck_S1 p16x_134_s ck_S0) ck_E0) ck_X0 ck_l0 p16x_209_e
set_option maxRecDepth 100000 in
def p16x_210 : ck_Sum := ((9, 1, 6), 245, [.inr (.inr (.inl 1)), .inl ((-2147483648), (-1), none), .inl (0, 299, none), .inl (0, 299, none), .inl (ck_one 2), .inr (.inr (.inl 245))], ([], [], [(3, 0, 0, ck_one 3)]), ([], []), [(.inr (some (.inl (ck_one 1))), 245, ([], [], []))])
set_option maxRecDepth 100000 in
theorem p16x_210_e : ck_ok p1_O none [] [(167, [p16x_209])] 166 [] 92 p16x_210 = true := by decide +kernel
theorem p16x_210_s {X : Int → Int} {LX : Nat} : ck_Ok p1_O X LX 166 p16x_210 := ck_ok_s (ck_E1 (ck_S1 p16x_209_s ck_S0) ck_E0) ck_X0 ck_l0 p16x_210_e
set_option maxRecDepth 100000 in
def p16x_212 : ck_Sum := ((8, 1, 6), 245, [.inr (.inr (.inl 1)), .inl ((-2147483648), (-1), none), .inl (0, 299, none), .inl (0, 299, none), .inl (3, 2147483647, none)], ([], [], [(3, 0, 0, ck_one 3)]), ([], []), [(.inl 3, 245, ([], [], []))])
set_option maxRecDepth 100000 in
theorem p16x_212_e : ck_ok p1_O none [] [(132, [p16x_134])] 167 [] 76 p16x_212 = true := by decide +kernel
theorem p16x_212_s {X : Int → Int} {LX : Nat} : ck_Ok p1_O X LX 167 p16x_212 := ck_ok_s (ck_E1 (ck_S1 p16x_134_s ck_S0) ck_E0) ck_X0 ck_l0 p16x_212_e
set_option maxRecDepth 100000 in
def p16x_213 : ck_Sum := ((9, 1, 6), 245, [.inr (.inr (.inl 1)), .inl ((-2147483648), (-1), none), .inl (0, 299, none), .inl (0, 299, none), .inl (3, 2147483647, none), .inr (.inr (.inl 245))], ([], [], [(3, 0, 0, ck_one 3)]), ([], []), [(.inr (some (.inl (ck_one 1))), 245, ([], [], []))])
set_option maxRecDepth 100000 in
theorem p16x_213_e : ck_ok p1_O none [] [(167, [p16x_212])] 166 [] 92 p16x_213 = true := by decide +kernel
theorem p16x_213_s {X : Int → Int} {LX : Nat} : ck_Ok p1_O X LX 166 p16x_213 := ck_ok_s (ck_E1 (ck_S1 p16x_212_s ck_S0) ck_E0) ck_X0 ck_l0 p16x_213_e
set_option maxRecDepth 100000 in
def p16x_215 : ck_Sum := ((8, 1, 6), 245, [.inr (.inr (.inl 1)), .inl ((-2147483648), (-1), none), .inl (0, 299, none), .inl (300, 2147483647, none), .inl ((-2147483648), (-1), none)], ([], [], [(3, 0, 0, ck_one 3)]), ([], []), [(.inl 3, 245, ([], [], []))])
set_option maxRecDepth 100000 in
theorem p16x_215_e : ck_ok p1_O none [] [(132, [p16x_134])] 167 [] 76 p16x_215 = true := by decide +kernel
theorem p16x_215_s {X : Int → Int} {LX : Nat} : ck_Ok p1_O X LX 167 p16x_215 := ck_ok_s (ck_E1 (ck_S1 p16x_134_s ck_S0) ck_E0) ck_X0 ck_l0 p16x_215_e
set_option maxRecDepth 100000 in
def p16x_216 : ck_Sum := ((9, 1, 6), 245, [.inr (.inr (.inl 1)), .inl ((-2147483648), (-1), none), .inl (0, 299, none), .inl (300, 2147483647, none), .inl ((-2147483648), (-1), none), .inr (.inr (.inl 245))], ([], [], [(3, 0, 0, ck_one 3)]), ([], []), [(.inr (some (.inl (ck_one 1))), 245, ([], [], []))])
set_option maxRecDepth 100000 in
theorem p16x_216_e : ck_ok p1_O none [] [(167, [p16x_215])] 166 [] 92 p16x_216 = true := by decide +kernel
theorem p16x_216_s {X : Int → Int} {LX : Nat} : ck_Ok p1_O X LX 166 p16x_216 := ck_ok_s (ck_E1 (ck_S1 p16x_215_s ck_S0) ck_E0) ck_X0 ck_l0 p16x_216_e
set_option maxRecDepth 100000 in
def p16x_218 : ck_Sum := ((8, 1, 6), 245, [.inr (.inr (.inl 1)), .inl ((-2147483648), (-1), none), .inl (0, 299, none), .inl (300, 2147483647, none), .inl (ck_one 0)], ([], [], [(3, 0, 0, ck_one 3)]), ([], []), [(.inl 3, 245, ([], [], []))])
set_option maxRecDepth 100000 in
theorem p16x_218_e : ck_ok p1_O none [] [(132, [p16x_134])] 167 [] 76 p16x_218 = true := by decide +kernel
theorem p16x_218_s {X : Int → Int} {LX : Nat} : ck_Ok p1_O X LX 167 p16x_218 := ck_ok_s (ck_E1 (ck_S1 p16x_134_s ck_S0) ck_E0) ck_X0 ck_l0 p16x_218_e
set_option maxRecDepth 100000 in
def p16x_219 : ck_Sum := ((9, 1, 6), 245, [.inr (.inr (.inl 1)), .inl ((-2147483648), (-1), none), .inl (0, 299, none), .inl (300, 2147483647, none), .inl (ck_one 0), .inr (.inr (.inl 245))], ([], [], [(3, 0, 0, ck_one 3)]), ([], []), [(.inr (some (.inl (ck_one 1))), 245, ([], [], []))])
set_option maxRecDepth 100000 in
theorem p16x_219_e : ck_ok p1_O none [] [(167, [p16x_218])] 166 [] 92 p16x_219 = true := by decide +kernel
theorem p16x_219_s {X : Int → Int} {LX : Nat} : ck_Ok p1_O X LX 166 p16x_219 := ck_ok_s (ck_E1 (ck_S1 p16x_218_s ck_S0) ck_E0) ck_X0 ck_l0 p16x_219_e
set_option maxRecDepth 100000 in
def p16x_221 : ck_Sum := ((8, 1, 6), 245, [.inr (.inr (.inl 1)), .inl ((-2147483648), (-1), none), .inl (0, 299, none), .inl (300, 2147483647, none), .inl (ck_one 1)], ([], [], [(3, 0, 0, ck_one 3)]), ([], []), [(.inl 3, 245, ([], [], []))])
set_option maxRecDepth 100000 in
theorem p16x_221_e : ck_ok p1_O none [] [(132, [p16x_134])] 167 [] 76 p16x_221 = true := by decide +kernel
theorem p16x_221_s {X : Int → Int} {LX : Nat} : ck_Ok p1_O X LX 167 p16x_221 := ck_ok_s (ck_E1 (ck_S1 p16x_134_s ck_S0) ck_E0) ck_X0 ck_l0 p16x_221_e
set_option maxRecDepth 100000 in
def p16x_222 : ck_Sum := ((9, 1, 6), 245, [.inr (.inr (.inl 1)), .inl ((-2147483648), (-1), none), .inl (0, 299, none), .inl (300, 2147483647, none), .inl (ck_one 1), .inr (.inr (.inl 245))], ([], [], [(3, 0, 0, ck_one 3)]), ([], []), [(.inr (some (.inl (ck_one 1))), 245, ([], [], []))])
set_option maxRecDepth 100000 in
theorem p16x_222_e : ck_ok p1_O none [] [(167, [p16x_221])] 166 [] 92 p16x_222 = true := by decide +kernel
theorem p16x_222_s {X : Int → Int} {LX : Nat} : ck_Ok p1_O X LX 166 p16x_222 := ck_ok_s (ck_E1 (ck_S1 p16x_221_s ck_S0) ck_E0) ck_X0 ck_l0 p16x_222_e
set_option maxRecDepth 100000 in
def p16x_224 : ck_Sum := ((8, 1, 6), 245, [.inr (.inr (.inl 1)), .inl ((-2147483648), (-1), none), .inl (0, 299, none), .inl (300, 2147483647, none), .inl (ck_one 2)], ([], [], [(3, 0, 0, ck_one 3)]), ([], []), [(.inl 3, 245, ([], [], []))])
set_option maxRecDepth 100000 in
theorem p16x_224_e : ck_ok p1_O none [] [(132, [p16x_134])] 167 [] 76 p16x_224 = true := by decide +kernel
theorem p16x_224_s {X : Int → Int} {LX : Nat} : ck_Ok p1_O X LX 167 p16x_224 := ck_ok_s (ck_E1 (ck_S1 p16x_134_s ck_S0) ck_E0) ck_X0 ck_l0 p16x_224_e
set_option maxRecDepth 100000 in
def p16x_225 : ck_Sum := ((9, 1, 6), 245, [.inr (.inr (.inl 1)), .inl ((-2147483648), (-1), none), .inl (0, 299, none), .inl (300, 2147483647, none), .inl (ck_one 2), .inr (.inr (.inl 245))], ([], [], [(3, 0, 0, ck_one 3)]), ([], []), [(.inr (some (.inl (ck_one 1))), 245, ([], [], []))])
set_option maxRecDepth 100000 in
theorem p16x_225_e : ck_ok p1_O none [] [(167, [p16x_224])] 166 [] 92 p16x_225 = true := by decide +kernel
theorem p16x_225_s {X : Int → Int} {LX : Nat} : ck_Ok p1_O X LX 166 p16x_225 := ck_ok_s (ck_E1 (ck_S1 p16x_224_s ck_S0) ck_E0) ck_X0 ck_l0 p16x_225_e
set_option maxRecDepth 100000 in
def p16x_227 : ck_Sum := ((8, 1, 6), 245, [.inr (.inr (.inl 1)), .inl ((-2147483648), (-1), none), .inl (0, 299, none), .inl (300, 2147483647, none), .inl (3, 2147483647, none)], ([], [], [(3, 0, 0, ck_one 3)]), ([], []), [(.inl 3, 245, ([], [], []))])
set_option maxRecDepth 100000 in
theorem p16x_227_e : ck_ok p1_O none [] [(132, [p16x_134])] 167 [] 76 p16x_227 = true := by decide +kernel
theorem p16x_227_s {X : Int → Int} {LX : Nat} : ck_Ok p1_O X LX 167 p16x_227 := ck_ok_s (ck_E1 (ck_S1 p16x_134_s ck_S0) ck_E0) ck_X0 ck_l0 p16x_227_e
set_option maxRecDepth 100000 in
def p16x_228 : ck_Sum := ((9, 1, 6), 245, [.inr (.inr (.inl 1)), .inl ((-2147483648), (-1), none), .inl (0, 299, none), .inl (300, 2147483647, none), .inl (3, 2147483647, none), .inr (.inr (.inl 245))], ([], [], [(3, 0, 0, ck_one 3)]), ([], []), [(.inr (some (.inl (ck_one 1))), 245, ([], [], []))])
set_option maxRecDepth 100000 in
theorem p16x_228_e : ck_ok p1_O none [] [(167, [p16x_227])] 166 [] 92 p16x_228 = true := by decide +kernel
theorem p16x_228_s {X : Int → Int} {LX : Nat} : ck_Ok p1_O X LX 166 p16x_228 := ck_ok_s (ck_E1 (ck_S1 p16x_227_s ck_S0) ck_E0) ck_X0 ck_l0 p16x_228_e
set_option maxRecDepth 100000 in
def p16x_230 : ck_Sum := ((8, 1, 6), 245, [.inr (.inr (.inl 1)), .inl ((-2147483648), (-1), none), .inl (300, 2147483647, none), .inl ((-2147483648), (-1), none), .inl ((-2147483648), (-1), none)], ([], [], [(3, 0, 0, ck_one 3)]), ([], []), [(.inl 3, 245, ([], [], []))])
set_option maxRecDepth 100000 in
theorem p16x_230_e : ck_ok p1_O none [] [(132, [p16x_134])] 167 [] 76 p16x_230 = true := by decide +kernel
theorem p16x_230_s {X : Int → Int} {LX : Nat} : ck_Ok p1_O X LX 167 p16x_230 := ck_ok_s (ck_E1 (ck_S1 p16x_134_s ck_S0) ck_E0) ck_X0 ck_l0 p16x_230_e
set_option maxRecDepth 100000 in
def p16x_231 : ck_Sum := ((9, 1, 6), 245, [.inr (.inr (.inl 1)), .inl ((-2147483648), (-1), none), .inl (300, 2147483647, none), .inl ((-2147483648), (-1), none), .inl ((-2147483648), (-1), none), .inr (.inr (.inl 245))], ([], [], [(3, 0, 0, ck_one 3)]), ([], []), [(.inr (some (.inl (ck_one 1))), 245, ([], [], []))])
set_option maxRecDepth 100000 in
theorem p16x_231_e : ck_ok p1_O none [] [(167, [p16x_230])] 166 [] 92 p16x_231 = true := by decide +kernel
theorem p16x_231_s {X : Int → Int} {LX : Nat} : ck_Ok p1_O X LX 166 p16x_231 := ck_ok_s (ck_E1 (ck_S1 p16x_230_s ck_S0) ck_E0) ck_X0 ck_l0 p16x_231_e
set_option maxRecDepth 100000 in
def p16x_233 : ck_Sum := ((8, 1, 6), 245, [.inr (.inr (.inl 1)), .inl ((-2147483648), (-1), none), .inl (300, 2147483647, none), .inl ((-2147483648), (-1), none), .inl (ck_one 0)], ([], [], [(3, 0, 0, ck_one 3)]), ([], []), [(.inl 3, 245, ([], [], []))])
set_option maxRecDepth 100000 in
theorem p16x_233_e : ck_ok p1_O none [] [(132, [p16x_134])] 167 [] 76 p16x_233 = true := by decide +kernel
theorem p16x_233_s {X : Int → Int} {LX : Nat} : ck_Ok p1_O X LX 167 p16x_233 := ck_ok_s (ck_E1 (ck_S1 p16x_134_s ck_S0) ck_E0) ck_X0 ck_l0 p16x_233_e
set_option maxRecDepth 100000 in
def p16x_234 : ck_Sum := ((9, 1, 6), 245, [.inr (.inr (.inl 1)), .inl ((-2147483648), (-1), none), .inl (300, 2147483647, none), .inl ((-2147483648), (-1), none), .inl (ck_one 0), .inr (.inr (.inl 245))], ([], [], [(3, 0, 0, ck_one 3)]), ([], []), [(.inr (some (.inl (ck_one 1))), 245, ([], [], []))])
set_option maxRecDepth 100000 in
theorem p16x_234_e : ck_ok p1_O none [] [(167, [p16x_233])] 166 [] 92 p16x_234 = true := by decide +kernel
theorem p16x_234_s {X : Int → Int} {LX : Nat} : ck_Ok p1_O X LX 166 p16x_234 := ck_ok_s (ck_E1 (ck_S1 p16x_233_s ck_S0) ck_E0) ck_X0 ck_l0 p16x_234_e
set_option maxRecDepth 100000 in
def p16x_236 : ck_Sum := ((8, 1, 6), 245, [.inr (.inr (.inl 1)), .inl ((-2147483648), (-1), none), .inl (300, 2147483647, none), .inl ((-2147483648), (-1), none), .inl (ck_one 1)], ([], [], [(3, 0, 0, ck_one 3)]), ([], []), [(.inl 3, 245, ([], [], []))])
set_option maxRecDepth 100000 in
theorem p16x_236_e : ck_ok p1_O none [] [(132, [p16x_134])] 167 [] 76 p16x_236 = true := by decide +kernel
theorem p16x_236_s {X : Int → Int} {LX : Nat} : ck_Ok p1_O X LX 167 p16x_236 := ck_ok_s (ck_E1 (ck_S1 p16x_134_s ck_S0) ck_E0) ck_X0 ck_l0 p16x_236_e
set_option maxRecDepth 100000 in
def p16x_237 : ck_Sum := ((9, 1, 6), 245, [.inr (.inr (.inl 1)), .inl ((-2147483648), (-1), none), .inl (300, 2147483647, none), .inl ((-2147483648), (-1), none), .inl (ck_one 1), .inr (.inr (.inl 245))], ([], [], [(3, 0, 0, ck_one 3)]), ([], []), [(.inr (some (.inl (ck_one 1))), 245, ([], [], []))])
set_option maxRecDepth 100000 in
theorem p16x_237_e : ck_ok p1_O none [] [(167, [p16x_236])] 166 [] 92 p16x_237 = true := by decide +kernel
theorem p16x_237_s {X : Int → Int} {LX : Nat} : ck_Ok p1_O X LX 166 p16x_237 := ck_ok_s (ck_E1 (ck_S1 p16x_236_s ck_S0) ck_E0) ck_X0 ck_l0 p16x_237_e
set_option maxRecDepth 100000 in
def p16x_239 : ck_Sum := ((8, 1, 6), 245, [.inr (.inr (.inl 1)), .inl ((-2147483648), (-1), none), .inl (300, 2147483647, none), .inl ((-2147483648), (-1), none), .inl (ck_one 2)], ([], [], [(3, 0, 0, ck_one 3)]), ([], []), [(.inl 3, 245, ([], [], []))])
set_option maxRecDepth 100000 in
theorem p16x_239_e : ck_ok p1_O none [] [(132, [p16x_134])] 167 [] 76 p16x_239 = true := by decide +kernel
theorem p16x_239_s {X : Int → Int} {LX : Nat} : ck_Ok p1_O X LX 167 p16x_239 := ck_ok_s (ck_E1 (ck_S1 p16x_134_s ck_S0) ck_E0) ck_X0 ck_l0 p16x_239_e
set_option maxRecDepth 100000 in
def p16x_240 : ck_Sum := ((9, 1, 6), 245, [.inr (.inr (.inl 1)), .inl ((-2147483648), (-1), none), .inl (300, 2147483647, none), .inl ((-2147483648), (-1), none), .inl (ck_one 2), .inr (.inr (.inl 245))], ([], [], [(3, 0, 0, ck_one 3)]), ([], []), [(.inr (some (.inl (ck_one 1))), 245, ([], [], []))])
set_option maxRecDepth 100000 in
theorem p16x_240_e : ck_ok p1_O none [] [(167, [p16x_239])] 166 [] 92 p16x_240 = true := by decide +kernel
theorem p16x_240_s {X : Int → Int} {LX : Nat} : ck_Ok p1_O X LX 166 p16x_240 := ck_ok_s (ck_E1 (ck_S1 p16x_239_s ck_S0) ck_E0) ck_X0 ck_l0 p16x_240_e
set_option maxRecDepth 100000 in
def p16x_242 : ck_Sum := ((8, 1, 6), 245, [.inr (.inr (.inl 1)), .inl ((-2147483648), (-1), none), .inl (300, 2147483647, none), .inl ((-2147483648), (-1), none), .inl (3, 2147483647, none)], ([], [], [(3, 0, 0, ck_one 3)]), ([], []), [(.inl 3, 245, ([], [], []))])
set_option maxRecDepth 100000 in
theorem p16x_242_e : ck_ok p1_O none [] [(132, [p16x_134])] 167 [] 76 p16x_242 = true := by decide +kernel
theorem p16x_242_s {X : Int → Int} {LX : Nat} : ck_Ok p1_O X LX 167 p16x_242 := ck_ok_s (ck_E1 (ck_S1 p16x_134_s ck_S0) ck_E0) ck_X0 ck_l0 p16x_242_e
set_option maxRecDepth 100000 in
def p16x_243 : ck_Sum := ((9, 1, 6), 245, [.inr (.inr (.inl 1)), .inl ((-2147483648), (-1), none), .inl (300, 2147483647, none), .inl ((-2147483648), (-1), none), .inl (3, 2147483647, none), .inr (.inr (.inl 245))], ([], [], [(3, 0, 0, ck_one 3)]), ([], []), [(.inr (some (.inl (ck_one 1))), 245, ([], [], []))])
set_option maxRecDepth 100000 in
theorem p16x_243_e : ck_ok p1_O none [] [(167, [p16x_242])] 166 [] 92 p16x_243 = true := by decide +kernel
theorem p16x_243_s {X : Int → Int} {LX : Nat} : ck_Ok p1_O X LX 166 p16x_243 := ck_ok_s (ck_E1 (ck_S1 p16x_242_s ck_S0) ck_E0) ck_X0 ck_l0 p16x_243_e
set_option maxRecDepth 100000 in
def p16x_245 : ck_Sum := ((8, 1, 6), 245, [.inr (.inr (.inl 1)), .inl ((-2147483648), (-1), none), .inl (300, 2147483647, none), .inl (0, 299, none), .inl ((-2147483648), (-1), none)], ([], [], [(3, 0, 0, ck_one 3)]), ([], []), [(.inl 3, 245, ([], [], []))])
set_option maxRecDepth 100000 in
theorem p16x_245_e : ck_ok p1_O none [] [(132, [p16x_134])] 167 [] 76 p16x_245 = true := by decide +kernel
theorem p16x_245_s {X : Int → Int} {LX : Nat} : ck_Ok p1_O X LX 167 p16x_245 := ck_ok_s (ck_E1 (ck_S1 p16x_134_s ck_S0) ck_E0) ck_X0 ck_l0 p16x_245_e
set_option maxRecDepth 100000 in
def p16x_246 : ck_Sum := ((9, 1, 6), 245, [.inr (.inr (.inl 1)), .inl ((-2147483648), (-1), none), .inl (300, 2147483647, none), .inl (0, 299, none), .inl ((-2147483648), (-1), none), .inr (.inr (.inl 245))], ([], [], [(3, 0, 0, ck_one 3)]), ([], []), [(.inr (some (.inl (ck_one 1))), 245, ([], [], []))])
set_option maxRecDepth 100000 in
theorem p16x_246_e : ck_ok p1_O none [] [(167, [p16x_245])] 166 [] 92 p16x_246 = true := by decide +kernel
theorem p16x_246_s {X : Int → Int} {LX : Nat} : ck_Ok p1_O X LX 166 p16x_246 := ck_ok_s (ck_E1 (ck_S1 p16x_245_s ck_S0) ck_E0) ck_X0 ck_l0 p16x_246_e
set_option maxRecDepth 100000 in
def p16x_248 : ck_Sum := ((8, 1, 6), 245, [.inr (.inr (.inl 1)), .inl ((-2147483648), (-1), none), .inl (300, 2147483647, none), .inl (0, 299, none), .inl (ck_one 0)], ([], [], [(3, 0, 0, ck_one 3)]), ([], []), [(.inl 3, 245, ([], [], []))])
set_option maxRecDepth 100000 in
theorem p16x_248_e : ck_ok p1_O none [] [(132, [p16x_134])] 167 [] 76 p16x_248 = true := by decide +kernel
theorem p16x_248_s {X : Int → Int} {LX : Nat} : ck_Ok p1_O X LX 167 p16x_248 := ck_ok_s (ck_E1 (ck_S1 p16x_134_s ck_S0) ck_E0) ck_X0 ck_l0 p16x_248_e
set_option maxRecDepth 100000 in
def p16x_249 : ck_Sum := ((9, 1, 6), 245, [.inr (.inr (.inl 1)), .inl ((-2147483648), (-1), none), .inl (300, 2147483647, none), .inl (0, 299, none), .inl (ck_one 0), .inr (.inr (.inl 245))], ([], [], [(3, 0, 0, ck_one 3)]), ([], []), [(.inr (some (.inl (ck_one 1))), 245, ([], [], []))])
set_option maxRecDepth 100000 in
theorem p16x_249_e : ck_ok p1_O none [] [(167, [p16x_248])] 166 [] 92 p16x_249 = true := by decide +kernel
theorem p16x_249_s {X : Int → Int} {LX : Nat} : ck_Ok p1_O X LX 166 p16x_249 := ck_ok_s (ck_E1 (ck_S1 p16x_248_s ck_S0) ck_E0) ck_X0 ck_l0 p16x_249_e
set_option maxRecDepth 100000 in
def p16x_251 : ck_Sum := ((8, 1, 6), 245, [.inr (.inr (.inl 1)), .inl ((-2147483648), (-1), none), .inl (300, 2147483647, none), .inl (0, 299, none), .inl (ck_one 1)], ([], [], [(3, 0, 0, ck_one 3)]), ([], []), [(.inl 3, 245, ([], [], []))])
set_option maxRecDepth 100000 in
theorem p16x_251_e : ck_ok p1_O none [] [(132, [p16x_134])] 167 [] 76 p16x_251 = true := by decide +kernel
theorem p16x_251_s {X : Int → Int} {LX : Nat} : ck_Ok p1_O X LX 167 p16x_251 := ck_ok_s (ck_E1 (ck_S1 p16x_134_s ck_S0) ck_E0) ck_X0 ck_l0 p16x_251_e
set_option maxRecDepth 100000 in
def p16x_252 : ck_Sum := ((9, 1, 6), 245, [.inr (.inr (.inl 1)), .inl ((-2147483648), (-1), none), .inl (300, 2147483647, none), .inl (0, 299, none), .inl (ck_one 1), .inr (.inr (.inl 245))], ([], [], [(3, 0, 0, ck_one 3)]), ([], []), [(.inr (some (.inl (ck_one 1))), 245, ([], [], []))])
set_option maxRecDepth 100000 in
theorem p16x_252_e : ck_ok p1_O none [] [(167, [p16x_251])] 166 [] 92 p16x_252 = true := by decide +kernel
theorem p16x_252_s {X : Int → Int} {LX : Nat} : ck_Ok p1_O X LX 166 p16x_252 := ck_ok_s (ck_E1 (ck_S1 p16x_251_s ck_S0) ck_E0) ck_X0 ck_l0 p16x_252_e
set_option maxRecDepth 100000 in
def p16x_254 : ck_Sum := ((8, 1, 6), 245, [.inr (.inr (.inl 1)), .inl ((-2147483648), (-1), none), .inl (300, 2147483647, none), .inl (0, 299, none), .inl (ck_one 2)], ([], [], [(3, 0, 0, ck_one 3)]), ([], []), [(.inl 3, 245, ([], [], []))])
set_option maxRecDepth 100000 in
theorem p16x_254_e : ck_ok p1_O none [] [(132, [p16x_134])] 167 [] 76 p16x_254 = true := by decide +kernel
theorem p16x_254_s {X : Int → Int} {LX : Nat} : ck_Ok p1_O X LX 167 p16x_254 := ck_ok_s (ck_E1 (ck_S1 p16x_134_s ck_S0) ck_E0) ck_X0 ck_l0 p16x_254_e
set_option maxRecDepth 100000 in
def p16x_255 : ck_Sum := ((9, 1, 6), 245, [.inr (.inr (.inl 1)), .inl ((-2147483648), (-1), none), .inl (300, 2147483647, none), .inl (0, 299, none), .inl (ck_one 2), .inr (.inr (.inl 245))], ([], [], [(3, 0, 0, ck_one 3)]), ([], []), [(.inr (some (.inl (ck_one 1))), 245, ([], [], []))])
set_option maxRecDepth 100000 in
theorem p16x_255_e : ck_ok p1_O none [] [(167, [p16x_254])] 166 [] 92 p16x_255 = true := by decide +kernel
theorem p16x_255_s {X : Int → Int} {LX : Nat} : ck_Ok p1_O X LX 166 p16x_255 := ck_ok_s (ck_E1 (ck_S1 p16x_254_s ck_S0) ck_E0) ck_X0 ck_l0 p16x_255_e
set_option maxRecDepth 100000 in
def p16x_257 : ck_Sum := ((8, 1, 6), 245, [.inr (.inr (.inl 1)), .inl ((-2147483648), (-1), none), .inl (300, 2147483647, none), .inl (0, 299, none), .inl (3, 2147483647, none)], ([], [], [(3, 0, 0, ck_one 3)]), ([], []), [(.inl 3, 245, ([], [], []))])
set_option maxRecDepth 100000 in
theorem p16x_257_e : ck_ok p1_O none [] [(132, [p16x_134])] 167 [] 76 p16x_257 = true := by decide +kernel
theorem p16x_257_s {X : Int → Int} {LX : Nat} : ck_Ok p1_O X LX 167 p16x_257 := ck_ok_s (ck_E1 (ck_S1 p16x_134_s ck_S0) ck_E0) ck_X0 ck_l0 p16x_257_e
set_option maxRecDepth 100000 in
def p16x_258 : ck_Sum := ((9, 1, 6), 245, [.inr (.inr (.inl 1)), .inl ((-2147483648), (-1), none), .inl (300, 2147483647, none), .inl (0, 299, none), .inl (3, 2147483647, none), .inr (.inr (.inl 245))], ([], [], [(3, 0, 0, ck_one 3)]), ([], []), [(.inr (some (.inl (ck_one 1))), 245, ([], [], []))])
set_option maxRecDepth 100000 in
theorem p16x_258_e : ck_ok p1_O none [] [(167, [p16x_257])] 166 [] 92 p16x_258 = true := by decide +kernel
theorem p16x_258_s {X : Int → Int} {LX : Nat} : ck_Ok p1_O X LX 166 p16x_258 := ck_ok_s (ck_E1 (ck_S1 p16x_257_s ck_S0) ck_E0) ck_X0 ck_l0 p16x_258_e
set_option maxRecDepth 100000 in
def p16x_260 : ck_Sum := ((8, 1, 6), 245, [.inr (.inr (.inl 1)), .inl ((-2147483648), (-1), none), .inl (300, 2147483647, none), .inl (300, 2147483647, none), .inl ((-2147483648), (-1), none)], ([], [], [(3, 0, 0, ck_one 3)]), ([], []), [(.inl 3, 245, ([], [], []))])
set_option maxRecDepth 100000 in
theorem p16x_260_e : ck_ok p1_O none [] [(132, [p16x_134])] 167 [] 76 p16x_260 = true := by decide +kernel
theorem p16x_260_s {X : Int → Int} {LX : Nat} : ck_Ok p1_O X LX 167 p16x_260 := ck_ok_s (ck_E1 (ck_S1 p16x_134_s ck_S0) ck_E0) ck_X0 ck_l0 p16x_260_e
set_option maxRecDepth 100000 in
def p16x_261 : ck_Sum := ((9, 1, 6), 245, [.inr (.inr (.inl 1)), .inl ((-2147483648), (-1), none), .inl (300, 2147483647, none), .inl (300, 2147483647, none), .inl ((-2147483648), (-1), none), .inr (.inr (.inl 245))], ([], [], [(3, 0, 0, ck_one 3)]), ([], []), [(.inr (some (.inl (ck_one 1))), 245, ([], [], []))])
set_option maxRecDepth 100000 in
theorem p16x_261_e : ck_ok p1_O none [] [(167, [p16x_260])] 166 [] 92 p16x_261 = true := by decide +kernel
theorem p16x_261_s {X : Int → Int} {LX : Nat} : ck_Ok p1_O X LX 166 p16x_261 := ck_ok_s (ck_E1 (ck_S1 p16x_260_s ck_S0) ck_E0) ck_X0 ck_l0 p16x_261_e
set_option maxRecDepth 100000 in
def p16x_263 : ck_Sum := ((8, 1, 6), 245, [.inr (.inr (.inl 1)), .inl ((-2147483648), (-1), none), .inl (300, 2147483647, none), .inl (300, 2147483647, none), .inl (ck_one 0)], ([], [], [(3, 0, 0, ck_one 3)]), ([], []), [(.inl 3, 245, ([], [], []))])
set_option maxRecDepth 100000 in
theorem p16x_263_e : ck_ok p1_O none [] [(132, [p16x_134])] 167 [] 76 p16x_263 = true := by decide +kernel
theorem p16x_263_s {X : Int → Int} {LX : Nat} : ck_Ok p1_O X LX 167 p16x_263 := ck_ok_s (ck_E1 (ck_S1 p16x_134_s ck_S0) ck_E0) ck_X0 ck_l0 p16x_263_e
set_option maxRecDepth 100000 in
def p16x_264 : ck_Sum := ((9, 1, 6), 245, [.inr (.inr (.inl 1)), .inl ((-2147483648), (-1), none), .inl (300, 2147483647, none), .inl (300, 2147483647, none), .inl (ck_one 0), .inr (.inr (.inl 245))], ([], [], [(3, 0, 0, ck_one 3)]), ([], []), [(.inr (some (.inl (ck_one 1))), 245, ([], [], []))])
set_option maxRecDepth 100000 in
theorem p16x_264_e : ck_ok p1_O none [] [(167, [p16x_263])] 166 [] 92 p16x_264 = true := by decide +kernel
theorem p16x_264_s {X : Int → Int} {LX : Nat} : ck_Ok p1_O X LX 166 p16x_264 := ck_ok_s (ck_E1 (ck_S1 p16x_263_s ck_S0) ck_E0) ck_X0 ck_l0 p16x_264_e
set_option maxRecDepth 100000 in
def p16x_266 : ck_Sum := ((8, 1, 6), 245, [.inr (.inr (.inl 1)), .inl ((-2147483648), (-1), none), .inl (300, 2147483647, none), .inl (300, 2147483647, none), .inl (ck_one 1)], ([], [], [(3, 0, 0, ck_one 3)]), ([], []), [(.inl 3, 245, ([], [], []))])
set_option maxRecDepth 100000 in
theorem p16x_266_e : ck_ok p1_O none [] [(132, [p16x_134])] 167 [] 76 p16x_266 = true := by decide +kernel
theorem p16x_266_s {X : Int → Int} {LX : Nat} : ck_Ok p1_O X LX 167 p16x_266 := ck_ok_s (ck_E1 (ck_S1 p16x_134_s ck_S0) ck_E0) ck_X0 ck_l0 p16x_266_e
set_option maxRecDepth 100000 in
def p16x_267 : ck_Sum := ((9, 1, 6), 245, [.inr (.inr (.inl 1)), .inl ((-2147483648), (-1), none), .inl (300, 2147483647, none), .inl (300, 2147483647, none), .inl (ck_one 1), .inr (.inr (.inl 245))], ([], [], [(3, 0, 0, ck_one 3)]), ([], []), [(.inr (some (.inl (ck_one 1))), 245, ([], [], []))])
set_option maxRecDepth 100000 in
theorem p16x_267_e : ck_ok p1_O none [] [(167, [p16x_266])] 166 [] 92 p16x_267 = true := by decide +kernel
theorem p16x_267_s {X : Int → Int} {LX : Nat} : ck_Ok p1_O X LX 166 p16x_267 := ck_ok_s (ck_E1 (ck_S1 p16x_266_s ck_S0) ck_E0) ck_X0 ck_l0 p16x_267_e
set_option maxRecDepth 100000 in
def p16x_269 : ck_Sum := ((8, 1, 6), 245, [.inr (.inr (.inl 1)), .inl ((-2147483648), (-1), none), .inl (300, 2147483647, none), .inl (300, 2147483647, none), .inl (ck_one 2)], ([], [], [(3, 0, 0, ck_one 3)]), ([], []), [(.inl 3, 245, ([], [], []))])
set_option maxRecDepth 100000 in
theorem p16x_269_e : ck_ok p1_O none [] [(132, [p16x_134])] 167 [] 76 p16x_269 = true := by decide +kernel
theorem p16x_269_s {X : Int → Int} {LX : Nat} : ck_Ok p1_O X LX 167 p16x_269 := ck_ok_s (ck_E1 (ck_S1 p16x_134_s ck_S0) ck_E0) ck_X0 ck_l0 p16x_269_e
set_option maxRecDepth 100000 in
def p16x_270 : ck_Sum := ((9, 1, 6), 245, [.inr (.inr (.inl 1)), .inl ((-2147483648), (-1), none), .inl (300, 2147483647, none), .inl (300, 2147483647, none), .inl (ck_one 2), .inr (.inr (.inl 245))], ([], [], [(3, 0, 0, ck_one 3)]), ([], []), [(.inr (some (.inl (ck_one 1))), 245, ([], [], []))])
set_option maxRecDepth 100000 in
theorem p16x_270_e : ck_ok p1_O none [] [(167, [p16x_269])] 166 [] 92 p16x_270 = true := by decide +kernel
theorem p16x_270_s {X : Int → Int} {LX : Nat} : ck_Ok p1_O X LX 166 p16x_270 := ck_ok_s (ck_E1 (ck_S1 p16x_269_s ck_S0) ck_E0) ck_X0 ck_l0 p16x_270_e
set_option maxRecDepth 100000 in
def p16x_272 : ck_Sum := ((8, 1, 6), 245, [.inr (.inr (.inl 1)), .inl ((-2147483648), (-1), none), .inl (300, 2147483647, none), .inl (300, 2147483647, none), .inl (3, 2147483647, none)], ([], [], [(3, 0, 0, ck_one 3)]), ([], []), [(.inl 3, 245, ([], [], []))])
set_option maxRecDepth 100000 in
theorem p16x_272_e : ck_ok p1_O none [] [(132, [p16x_134])] 167 [] 76 p16x_272 = true := by decide +kernel
theorem p16x_272_s {X : Int → Int} {LX : Nat} : ck_Ok p1_O X LX 167 p16x_272 := ck_ok_s (ck_E1 (ck_S1 p16x_134_s ck_S0) ck_E0) ck_X0 ck_l0 p16x_272_e
set_option maxRecDepth 100000 in
def p16x_273 : ck_Sum := ((9, 1, 6), 245, [.inr (.inr (.inl 1)), .inl ((-2147483648), (-1), none), .inl (300, 2147483647, none), .inl (300, 2147483647, none), .inl (3, 2147483647, none), .inr (.inr (.inl 245))], ([], [], [(3, 0, 0, ck_one 3)]), ([], []), [(.inr (some (.inl (ck_one 1))), 245, ([], [], []))])
set_option maxRecDepth 100000 in
theorem p16x_273_e : ck_ok p1_O none [] [(167, [p16x_272])] 166 [] 92 p16x_273 = true := by decide +kernel
theorem p16x_273_s {X : Int → Int} {LX : Nat} : ck_Ok p1_O X LX 166 p16x_273 := ck_ok_s (ck_E1 (ck_S1 p16x_272_s ck_S0) ck_E0) ck_X0 ck_l0 p16x_273_e
set_option maxRecDepth 100000 in
def p16x_275 : ck_Sum := ((0, 0, 0), 245, [.inr (.inr (.inl 1)), .inl (0, 2, none), .inl (ck_one 3)], ([], [], []), ([], []), [(.inr none, 245, ([], [], []))])
set_option maxRecDepth 100000 in
theorem p16x_275_e : ck_ok p1_O none [] [] 133 [] 82 p16x_275 = true := by decide +kernel
theorem p16x_275_s {X : Int → Int} {LX : Nat} : ck_Ok p1_O X LX 133 p16x_275 := ck_ok_s (ck_E0) ck_X0 ck_l0 p16x_275_e
set_option maxRecDepth 100000 in
def p16x_276 : ck_Sum := ((1, 0, 0), 245, [.inr (.inr (.inl 1)), .inl (0, 2, none)], ([], [], [(3, 0, 0, ck_one 3)]), ([], []), [(.inr none, 245, ([], [], []))])
set_option maxRecDepth 100000 in
theorem p16x_276_e : ck_ok p1_O none [] [(133, [p16x_275])] 132 [] 84 p16x_276 = true := by decide +kernel
theorem p16x_276_s {X : Int → Int} {LX : Nat} : ck_Ok p1_O X LX 132 p16x_276 := ck_ok_s (ck_E1 (ck_S1 p16x_275_s ck_S0) ck_E0) ck_X0 ck_l0 p16x_276_e
set_option maxRecDepth 100000 in
def p16x_277 : ck_Sum := ((6, 1, 6), 245, [.inr (.inr (.inl 1)), .inl ((-2147483648), (-1), none)], ([], [], []), ([], []), [(.inl 0, 245, ([], [], []))])
set_option maxRecDepth 100000 in
theorem p16x_277_e : ck_ok p1_O none [] [] 129 [] 76 p16x_277 = true := by decide +kernel
theorem p16x_277_s {X : Int → Int} {LX : Nat} : ck_Ok p1_O X LX 129 p16x_277 := ck_ok_s (ck_E0) ck_X0 ck_l0 p16x_277_e
set_option maxRecDepth 100000 in
def p16x_278 : ck_Sum := ((7, 1, 6), 245, [.inr (.inr (.inl 1)), .inl (0, 2, none), .inl ((-2147483648), (-1), none), .inl ((-2147483648), (-1), none), .inl ((-2147483648), (-1), none)], ([], [], [(3, 0, 0, ck_one 3)]), ([], []), [(.inl 0, 245, ([], [], []))])
set_option maxRecDepth 100000 in
theorem p16x_278_e : ck_ok p1_O none [] [(132, [p16x_276]), (129, [p16x_277])] 167 [] 82 p16x_278 = true := by decide +kernel
theorem p16x_278_s {X : Int → Int} {LX : Nat} : ck_Ok p1_O X LX 167 p16x_278 := ck_ok_s (ck_E1 (ck_S1 p16x_276_s ck_S0) (ck_E1 (ck_S1 p16x_277_s ck_S0) ck_E0)) ck_X0 ck_l0 p16x_278_e
set_option maxRecDepth 100000 in
def p16x_279 : ck_Sum := ((8, 1, 6), 245, [.inr (.inr (.inl 1)), .inl (0, 2, none), .inl ((-2147483648), (-1), none), .inl ((-2147483648), (-1), none), .inl ((-2147483648), (-1), none), .inr (.inr (.inl 245))], ([], [], [(3, 0, 0, ck_one 3)]), ([], []), [(.inr (some (.inl (ck_one 2))), 245, ([], [], []))])
set_option maxRecDepth 100000 in
theorem p16x_279_e : ck_ok p1_O none [] [(167, [p16x_278])] 166 [] 92 p16x_279 = true := by decide +kernel
theorem p16x_279_s {X : Int → Int} {LX : Nat} : ck_Ok p1_O X LX 166 p16x_279 := ck_ok_s (ck_E1 (ck_S1 p16x_278_s ck_S0) ck_E0) ck_X0 ck_l0 p16x_279_e
set_option maxRecDepth 100000 in
def p16x_288 : ck_Sum := ((7, 1, 6), 245, [.inr (.inr (.inl 1)), .inl (0, 2, none), .inl ((-2147483648), (-1), none), .inl ((-2147483648), (-1), none), .inl (ck_one 0)], ([], [], [(3, 0, 0, ck_one 3)]), ([], []), [(.inl 0, 245, ([], [], []))])
set_option maxRecDepth 100000 in
theorem p16x_288_e : ck_ok p1_O none [] [(132, [p16x_276]), (129, [p16x_277])] 167 [] 82 p16x_288 = true := by decide +kernel
theorem p16x_288_s {X : Int → Int} {LX : Nat} : ck_Ok p1_O X LX 167 p16x_288 := ck_ok_s (ck_E1 (ck_S1 p16x_276_s ck_S0) (ck_E1 (ck_S1 p16x_277_s ck_S0) ck_E0)) ck_X0 ck_l0 p16x_288_e
set_option maxRecDepth 100000 in
def p16x_289 : ck_Sum := ((8, 1, 6), 245, [.inr (.inr (.inl 1)), .inl (0, 2, none), .inl ((-2147483648), (-1), none), .inl ((-2147483648), (-1), none), .inl (ck_one 0), .inr (.inr (.inl 245))], ([], [], [(3, 0, 0, ck_one 3)]), ([], []), [(.inr (some (.inl (ck_one 2))), 245, ([], [], []))])
set_option maxRecDepth 100000 in
theorem p16x_289_e : ck_ok p1_O none [] [(167, [p16x_288])] 166 [] 92 p16x_289 = true := by decide +kernel
theorem p16x_289_s {X : Int → Int} {LX : Nat} : ck_Ok p1_O X LX 166 p16x_289 := ck_ok_s (ck_E1 (ck_S1 p16x_288_s ck_S0) ck_E0) ck_X0 ck_l0 p16x_289_e
set_option maxRecDepth 100000 in
def p16x_291 : ck_Sum := ((7, 1, 6), 245, [.inr (.inr (.inl 1)), .inl (0, 2, none), .inl ((-2147483648), (-1), none), .inl ((-2147483648), (-1), none), .inl (ck_one 1)], ([], [], [(3, 0, 0, ck_one 3)]), ([], []), [(.inl 0, 245, ([], [], []))])
set_option maxRecDepth 100000 in
theorem p16x_291_e : ck_ok p1_O none [] [(132, [p16x_276]), (129, [p16x_277])] 167 [] 82 p16x_291 = true := by decide +kernel
theorem p16x_291_s {X : Int → Int} {LX : Nat} : ck_Ok p1_O X LX 167 p16x_291 := ck_ok_s (ck_E1 (ck_S1 p16x_276_s ck_S0) (ck_E1 (ck_S1 p16x_277_s ck_S0) ck_E0)) ck_X0 ck_l0 p16x_291_e
set_option maxRecDepth 100000 in
def p16x_292 : ck_Sum := ((8, 1, 6), 245, [.inr (.inr (.inl 1)), .inl (0, 2, none), .inl ((-2147483648), (-1), none), .inl ((-2147483648), (-1), none), .inl (ck_one 1), .inr (.inr (.inl 245))], ([], [], [(3, 0, 0, ck_one 3)]), ([], []), [(.inr (some (.inl (ck_one 2))), 245, ([], [], []))])
set_option maxRecDepth 100000 in
theorem p16x_292_e : ck_ok p1_O none [] [(167, [p16x_291])] 166 [] 92 p16x_292 = true := by decide +kernel
theorem p16x_292_s {X : Int → Int} {LX : Nat} : ck_Ok p1_O X LX 166 p16x_292 := ck_ok_s (ck_E1 (ck_S1 p16x_291_s ck_S0) ck_E0) ck_X0 ck_l0 p16x_292_e
set_option maxRecDepth 100000 in
def p16x_294 : ck_Sum := ((7, 1, 6), 245, [.inr (.inr (.inl 1)), .inl (0, 2, none), .inl ((-2147483648), (-1), none), .inl ((-2147483648), (-1), none), .inl (ck_one 2)], ([], [], [(3, 0, 0, ck_one 3)]), ([], []), [(.inl 0, 245, ([], [], []))])
set_option maxRecDepth 100000 in
theorem p16x_294_e : ck_ok p1_O none [] [(132, [p16x_276]), (129, [p16x_277])] 167 [] 82 p16x_294 = true := by decide +kernel
theorem p16x_294_s {X : Int → Int} {LX : Nat} : ck_Ok p1_O X LX 167 p16x_294 := ck_ok_s (ck_E1 (ck_S1 p16x_276_s ck_S0) (ck_E1 (ck_S1 p16x_277_s ck_S0) ck_E0)) ck_X0 ck_l0 p16x_294_e
set_option maxRecDepth 100000 in
def p16x_295 : ck_Sum := ((8, 1, 6), 245, [.inr (.inr (.inl 1)), .inl (0, 2, none), .inl ((-2147483648), (-1), none), .inl ((-2147483648), (-1), none), .inl (ck_one 2), .inr (.inr (.inl 245))], ([], [], [(3, 0, 0, ck_one 3)]), ([], []), [(.inr (some (.inl (ck_one 2))), 245, ([], [], []))])
set_option maxRecDepth 100000 in
theorem p16x_295_e : ck_ok p1_O none [] [(167, [p16x_294])] 166 [] 92 p16x_295 = true := by decide +kernel
theorem p16x_295_s {X : Int → Int} {LX : Nat} : ck_Ok p1_O X LX 166 p16x_295 := ck_ok_s (ck_E1 (ck_S1 p16x_294_s ck_S0) ck_E0) ck_X0 ck_l0 p16x_295_e
set_option maxRecDepth 100000 in
def p16x_297 : ck_Sum := ((7, 1, 6), 245, [.inr (.inr (.inl 1)), .inl (0, 2, none), .inl ((-2147483648), (-1), none), .inl ((-2147483648), (-1), none), .inl (3, 2147483647, none)], ([], [], [(3, 0, 0, ck_one 3)]), ([], []), [(.inl 0, 245, ([], [], []))])
set_option maxRecDepth 100000 in
theorem p16x_297_e : ck_ok p1_O none [] [(132, [p16x_276]), (129, [p16x_277])] 167 [] 82 p16x_297 = true := by decide +kernel
theorem p16x_297_s {X : Int → Int} {LX : Nat} : ck_Ok p1_O X LX 167 p16x_297 := ck_ok_s (ck_E1 (ck_S1 p16x_276_s ck_S0) (ck_E1 (ck_S1 p16x_277_s ck_S0) ck_E0)) ck_X0 ck_l0 p16x_297_e
set_option maxRecDepth 100000 in
def p16x_298 : ck_Sum := ((8, 1, 6), 245, [.inr (.inr (.inl 1)), .inl (0, 2, none), .inl ((-2147483648), (-1), none), .inl ((-2147483648), (-1), none), .inl (3, 2147483647, none), .inr (.inr (.inl 245))], ([], [], [(3, 0, 0, ck_one 3)]), ([], []), [(.inr (some (.inl (ck_one 2))), 245, ([], [], []))])
set_option maxRecDepth 100000 in
theorem p16x_298_e : ck_ok p1_O none [] [(167, [p16x_297])] 166 [] 92 p16x_298 = true := by decide +kernel
theorem p16x_298_s {X : Int → Int} {LX : Nat} : ck_Ok p1_O X LX 166 p16x_298 := ck_ok_s (ck_E1 (ck_S1 p16x_297_s ck_S0) ck_E0) ck_X0 ck_l0 p16x_298_e
set_option maxRecDepth 100000 in
def p16x_300 : ck_Sum := ((7, 1, 6), 245, [.inr (.inr (.inl 1)), .inl (0, 2, none), .inl ((-2147483648), (-1), none), .inl (0, 299, none), .inl ((-2147483648), (-1), none)], ([], [], [(3, 0, 0, ck_one 3)]), ([], []), [(.inl 0, 245, ([], [], []))])
set_option maxRecDepth 100000 in
theorem p16x_300_e : ck_ok p1_O none [] [(132, [p16x_276]), (129, [p16x_277])] 167 [] 82 p16x_300 = true := by decide +kernel
theorem p16x_300_s {X : Int → Int} {LX : Nat} : ck_Ok p1_O X LX 167 p16x_300 := ck_ok_s (ck_E1 (ck_S1 p16x_276_s ck_S0) (ck_E1 (ck_S1 p16x_277_s ck_S0) ck_E0)) ck_X0 ck_l0 p16x_300_e
set_option maxRecDepth 100000 in
def p16x_301 : ck_Sum := ((8, 1, 6), 245, [.inr (.inr (.inl 1)), .inl (0, 2, none), .inl ((-2147483648), (-1), none), .inl (0, 299, none), .inl ((-2147483648), (-1), none), .inr (.inr (.inl 245))], ([], [], [(3, 0, 0, ck_one 3)]), ([], []), [(.inr (some (.inl (ck_one 2))), 245, ([], [], []))])
set_option maxRecDepth 100000 in
theorem p16x_301_e : ck_ok p1_O none [] [(167, [p16x_300])] 166 [] 92 p16x_301 = true := by decide +kernel
theorem p16x_301_s {X : Int → Int} {LX : Nat} : ck_Ok p1_O X LX 166 p16x_301 := ck_ok_s (ck_E1 (ck_S1 p16x_300_s ck_S0) ck_E0) ck_X0 ck_l0 p16x_301_e
set_option maxRecDepth 100000 in
def p16x_303 : ck_Sum := ((7, 1, 6), 245, [.inr (.inr (.inl 1)), .inl (0, 2, none), .inl ((-2147483648), (-1), none), .inl (0, 299, none), .inl (ck_one 0)], ([], [], [(3, 0, 0, ck_one 3)]), ([], []), [(.inl 0, 245, ([], [], []))])
set_option maxRecDepth 100000 in
theorem p16x_303_e : ck_ok p1_O none [] [(132, [p16x_276]), (129, [p16x_277])] 167 [] 82 p16x_303 = true := by decide +kernel
theorem p16x_303_s {X : Int → Int} {LX : Nat} : ck_Ok p1_O X LX 167 p16x_303 := ck_ok_s (ck_E1 (ck_S1 p16x_276_s ck_S0) (ck_E1 (ck_S1 p16x_277_s ck_S0) ck_E0)) ck_X0 ck_l0 p16x_303_e
set_option maxRecDepth 100000 in
def p16x_304 : ck_Sum := ((8, 1, 6), 245, [.inr (.inr (.inl 1)), .inl (0, 2, none), .inl ((-2147483648), (-1), none), .inl (0, 299, none), .inl (ck_one 0), .inr (.inr (.inl 245))], ([], [], [(3, 0, 0, ck_one 3)]), ([], []), [(.inr (some (.inl (ck_one 2))), 245, ([], [], []))])
set_option maxRecDepth 100000 in
theorem p16x_304_e : ck_ok p1_O none [] [(167, [p16x_303])] 166 [] 92 p16x_304 = true := by decide +kernel
theorem p16x_304_s {X : Int → Int} {LX : Nat} : ck_Ok p1_O X LX 166 p16x_304 := ck_ok_s (ck_E1 (ck_S1 p16x_303_s ck_S0) ck_E0) ck_X0 ck_l0 p16x_304_e
set_option maxRecDepth 100000 in
def p16x_306 : ck_Sum := ((7, 1, 6), 245, [.inr (.inr (.inl 1)), .inl (0, 2, none), .inl ((-2147483648), (-1), none), .inl (0, 299, none), .inl (ck_one 1)], ([], [], [(3, 0, 0, ck_one 3)]), ([], []), [(.inl 0, 245, ([], [], []))])
set_option maxRecDepth 100000 in
theorem p16x_306_e : ck_ok p1_O none [] [(132, [p16x_276]), (129, [p16x_277])] 167 [] 82 p16x_306 = true := by decide +kernel
theorem p16x_306_s {X : Int → Int} {LX : Nat} : ck_Ok p1_O X LX 167 p16x_306 := ck_ok_s (ck_E1 (ck_S1 p16x_276_s ck_S0) (ck_E1 (ck_S1 p16x_277_s ck_S0) ck_E0)) ck_X0 ck_l0 p16x_306_e
set_option maxRecDepth 100000 in
def p16x_307 : ck_Sum := ((8, 1, 6), 245, [.inr (.inr (.inl 1)), .inl (0, 2, none), .inl ((-2147483648), (-1), none), .inl (0, 299, none), .inl (ck_one 1), .inr (.inr (.inl 245))], ([], [], [(3, 0, 0, ck_one 3)]), ([], []), [(.inr (some (.inl (ck_one 2))), 245, ([], [], []))])
set_option maxRecDepth 100000 in
theorem p16x_307_e : ck_ok p1_O none [] [(167, [p16x_306])] 166 [] 92 p16x_307 = true := by decide +kernel
theorem p16x_307_s {X : Int → Int} {LX : Nat} : ck_Ok p1_O X LX 166 p16x_307 := ck_ok_s (ck_E1 (ck_S1 p16x_306_s ck_S0) ck_E0) ck_X0 ck_l0 p16x_307_e
set_option maxRecDepth 100000 in
def p16x_309 : ck_Sum := ((7, 1, 6), 245, [.inr (.inr (.inl 1)), .inl (0, 2, none), .inl ((-2147483648), (-1), none), .inl (0, 299, none), .inl (ck_one 2)], ([], [], [(3, 0, 0, ck_one 3)]), ([], []), [(.inl 0, 245, ([], [], []))])
set_option maxRecDepth 100000 in
theorem p16x_309_e : ck_ok p1_O none [] [(132, [p16x_276]), (129, [p16x_277])] 167 [] 82 p16x_309 = true := by decide +kernel
theorem p16x_309_s {X : Int → Int} {LX : Nat} : ck_Ok p1_O X LX 167 p16x_309 := ck_ok_s (ck_E1 (ck_S1 p16x_276_s ck_S0) (ck_E1 (ck_S1 p16x_277_s ck_S0) ck_E0)) ck_X0 ck_l0 p16x_309_e
set_option maxRecDepth 100000 in
def p16x_310 : ck_Sum := ((8, 1, 6), 245, [.inr (.inr (.inl 1)), .inl (0, 2, none), .inl ((-2147483648), (-1), none), .inl (0, 299, none), .inl (ck_one 2), .inr (.inr (.inl 245))], ([], [], [(3, 0, 0, ck_one 3)]), ([], []), [(.inr (some (.inl (ck_one 2))), 245, ([], [], []))])
set_option maxRecDepth 100000 in
theorem p16x_310_e : ck_ok p1_O none [] [(167, [p16x_309])] 166 [] 92 p16x_310 = true := by decide +kernel
theorem p16x_310_s {X : Int → Int} {LX : Nat} : ck_Ok p1_O X LX 166 p16x_310 := ck_ok_s (ck_E1 (ck_S1 p16x_309_s ck_S0) ck_E0) ck_X0 ck_l0 p16x_310_e
set_option maxRecDepth 100000 in
def p16x_312 : ck_Sum := ((7, 1, 6), 245, [.inr (.inr (.inl 1)), .inl (0, 2, none), .inl ((-2147483648), (-1), none), .inl (0, 299, none), .inl (3, 2147483647, none)], ([], [], [(3, 0, 0, ck_one 3)]), ([], []), [(.inl 0, 245, ([], [], []))])
set_option maxRecDepth 100000 in
theorem p16x_312_e : ck_ok p1_O none [] [(132, [p16x_276]), (129, [p16x_277])] 167 [] 82 p16x_312 = true := by decide +kernel
theorem p16x_312_s {X : Int → Int} {LX : Nat} : ck_Ok p1_O X LX 167 p16x_312 := ck_ok_s (ck_E1 (ck_S1 p16x_276_s ck_S0) (ck_E1 (ck_S1 p16x_277_s ck_S0) ck_E0)) ck_X0 ck_l0 p16x_312_e
set_option maxRecDepth 100000 in
def p16x_313 : ck_Sum := ((8, 1, 6), 245, [.inr (.inr (.inl 1)), .inl (0, 2, none), .inl ((-2147483648), (-1), none), .inl (0, 299, none), .inl (3, 2147483647, none), .inr (.inr (.inl 245))], ([], [], [(3, 0, 0, ck_one 3)]), ([], []), [(.inr (some (.inl (ck_one 2))), 245, ([], [], []))])
set_option maxRecDepth 100000 in
theorem p16x_313_e : ck_ok p1_O none [] [(167, [p16x_312])] 166 [] 92 p16x_313 = true := by decide +kernel
theorem p16x_313_s {X : Int → Int} {LX : Nat} : ck_Ok p1_O X LX 166 p16x_313 := ck_ok_s (ck_E1 (ck_S1 p16x_312_s ck_S0) ck_E0) ck_X0 ck_l0 p16x_313_e
set_option maxRecDepth 100000 in
def p16x_315 : ck_Sum := ((7, 1, 6), 245, [.inr (.inr (.inl 1)), .inl (0, 2, none), .inl ((-2147483648), (-1), none), .inl (300, 2147483647, none), .inl ((-2147483648), (-1), none)], ([], [], [(3, 0, 0, ck_one 3)]), ([], []), [(.inl 0, 245, ([], [], []))])
set_option maxRecDepth 100000 in
theorem p16x_315_e : ck_ok p1_O none [] [(132, [p16x_276]), (129, [p16x_277])] 167 [] 82 p16x_315 = true := by decide +kernel
theorem p16x_315_s {X : Int → Int} {LX : Nat} : ck_Ok p1_O X LX 167 p16x_315 := ck_ok_s (ck_E1 (ck_S1 p16x_276_s ck_S0) (ck_E1 (ck_S1 p16x_277_s ck_S0) ck_E0)) ck_X0 ck_l0 p16x_315_e
set_option maxRecDepth 100000 in
def p16x_316 : ck_Sum := ((8, 1, 6), 245, [.inr (.inr (.inl 1)), .inl (0, 2, none), .inl ((-2147483648), (-1), none), .inl (300, 2147483647, none), .inl ((-2147483648), (-1), none), .inr (.inr (.inl 245))], ([], [], [(3, 0, 0, ck_one 3)]), ([], []), [(.inr (some (.inl (ck_one 2))), 245, ([], [], []))])
set_option maxRecDepth 100000 in
theorem p16x_316_e : ck_ok p1_O none [] [(167, [p16x_315])] 166 [] 92 p16x_316 = true := by decide +kernel
theorem p16x_316_s {X : Int → Int} {LX : Nat} : ck_Ok p1_O X LX 166 p16x_316 := ck_ok_s (ck_E1 (ck_S1 p16x_315_s ck_S0) ck_E0) ck_X0 ck_l0 p16x_316_e
set_option maxRecDepth 100000 in
def p16x_318 : ck_Sum := ((7, 1, 6), 245, [.inr (.inr (.inl 1)), .inl (0, 2, none), .inl ((-2147483648), (-1), none), .inl (300, 2147483647, none), .inl (ck_one 0)], ([], [], [(3, 0, 0, ck_one 3)]), ([], []), [(.inl 0, 245, ([], [], []))])
set_option maxRecDepth 100000 in
theorem p16x_318_e : ck_ok p1_O none [] [(132, [p16x_276]), (129, [p16x_277])] 167 [] 82 p16x_318 = true := by decide +kernel
theorem p16x_318_s {X : Int → Int} {LX : Nat} : ck_Ok p1_O X LX 167 p16x_318 := ck_ok_s (ck_E1 (ck_S1 p16x_276_s ck_S0) (ck_E1 (ck_S1 p16x_277_s ck_S0) ck_E0)) ck_X0 ck_l0 p16x_318_e
set_option maxRecDepth 100000 in
def p16x_319 : ck_Sum := ((8, 1, 6), 245, [.inr (.inr (.inl 1)), .inl (0, 2, none), .inl ((-2147483648), (-1), none), .inl (300, 2147483647, none), .inl (ck_one 0), .inr (.inr (.inl 245))], ([], [], [(3, 0, 0, ck_one 3)]), ([], []), [(.inr (some (.inl (ck_one 2))), 245, ([], [], []))])
set_option maxRecDepth 100000 in
theorem p16x_319_e : ck_ok p1_O none [] [(167, [p16x_318])] 166 [] 92 p16x_319 = true := by decide +kernel
theorem p16x_319_s {X : Int → Int} {LX : Nat} : ck_Ok p1_O X LX 166 p16x_319 := ck_ok_s (ck_E1 (ck_S1 p16x_318_s ck_S0) ck_E0) ck_X0 ck_l0 p16x_319_e
set_option maxRecDepth 100000 in
def p16x_321 : ck_Sum := ((7, 1, 6), 245, [.inr (.inr (.inl 1)), .inl (0, 2, none), .inl ((-2147483648), (-1), none), .inl (300, 2147483647, none), .inl (ck_one 1)], ([], [], [(3, 0, 0, ck_one 3)]), ([], []), [(.inl 0, 245, ([], [], []))])
set_option maxRecDepth 100000 in
theorem p16x_321_e : ck_ok p1_O none [] [(132, [p16x_276]), (129, [p16x_277])] 167 [] 82 p16x_321 = true := by decide +kernel
theorem p16x_321_s {X : Int → Int} {LX : Nat} : ck_Ok p1_O X LX 167 p16x_321 := ck_ok_s (ck_E1 (ck_S1 p16x_276_s ck_S0) (ck_E1 (ck_S1 p16x_277_s ck_S0) ck_E0)) ck_X0 ck_l0 p16x_321_e
set_option maxRecDepth 100000 in
def p16x_322 : ck_Sum := ((8, 1, 6), 245, [.inr (.inr (.inl 1)), .inl (0, 2, none), .inl ((-2147483648), (-1), none), .inl (300, 2147483647, none), .inl (ck_one 1), .inr (.inr (.inl 245))], ([], [], [(3, 0, 0, ck_one 3)]), ([], []), [(.inr (some (.inl (ck_one 2))), 245, ([], [], []))])
set_option maxRecDepth 100000 in
theorem p16x_322_e : ck_ok p1_O none [] [(167, [p16x_321])] 166 [] 92 p16x_322 = true := by decide +kernel
theorem p16x_322_s {X : Int → Int} {LX : Nat} : ck_Ok p1_O X LX 166 p16x_322 := ck_ok_s (ck_E1 (ck_S1 p16x_321_s ck_S0) ck_E0) ck_X0 ck_l0 p16x_322_e
set_option maxRecDepth 100000 in
def p16x_324 : ck_Sum := ((7, 1, 6), 245, [.inr (.inr (.inl 1)), .inl (0, 2, none), .inl ((-2147483648), (-1), none), .inl (300, 2147483647, none), .inl (ck_one 2)], ([], [], [(3, 0, 0, ck_one 3)]), ([], []), [(.inl 0, 245, ([], [], []))])
set_option maxRecDepth 100000 in
theorem p16x_324_e : ck_ok p1_O none [] [(132, [p16x_276]), (129, [p16x_277])] 167 [] 82 p16x_324 = true := by decide +kernel
theorem p16x_324_s {X : Int → Int} {LX : Nat} : ck_Ok p1_O X LX 167 p16x_324 := ck_ok_s (ck_E1 (ck_S1 p16x_276_s ck_S0) (ck_E1 (ck_S1 p16x_277_s ck_S0) ck_E0)) ck_X0 ck_l0 p16x_324_e
set_option maxRecDepth 100000 in
def p16x_325 : ck_Sum := ((8, 1, 6), 245, [.inr (.inr (.inl 1)), .inl (0, 2, none), .inl ((-2147483648), (-1), none), .inl (300, 2147483647, none), .inl (ck_one 2), .inr (.inr (.inl 245))], ([], [], [(3, 0, 0, ck_one 3)]), ([], []), [(.inr (some (.inl (ck_one 2))), 245, ([], [], []))])
set_option maxRecDepth 100000 in
theorem p16x_325_e : ck_ok p1_O none [] [(167, [p16x_324])] 166 [] 92 p16x_325 = true := by decide +kernel
theorem p16x_325_s {X : Int → Int} {LX : Nat} : ck_Ok p1_O X LX 166 p16x_325 := ck_ok_s (ck_E1 (ck_S1 p16x_324_s ck_S0) ck_E0) ck_X0 ck_l0 p16x_325_e
set_option maxRecDepth 100000 in
def p16x_327 : ck_Sum := ((7, 1, 6), 245, [.inr (.inr (.inl 1)), .inl (0, 2, none), .inl ((-2147483648), (-1), none), .inl (300, 2147483647, none), .inl (3, 2147483647, none)], ([], [], [(3, 0, 0, ck_one 3)]), ([], []), [(.inl 0, 245, ([], [], []))])
set_option maxRecDepth 100000 in
theorem p16x_327_e : ck_ok p1_O none [] [(132, [p16x_276]), (129, [p16x_277])] 167 [] 82 p16x_327 = true := by decide +kernel
theorem p16x_327_s {X : Int → Int} {LX : Nat} : ck_Ok p1_O X LX 167 p16x_327 := ck_ok_s (ck_E1 (ck_S1 p16x_276_s ck_S0) (ck_E1 (ck_S1 p16x_277_s ck_S0) ck_E0)) ck_X0 ck_l0 p16x_327_e
set_option maxRecDepth 100000 in
def p16x_328 : ck_Sum := ((8, 1, 6), 245, [.inr (.inr (.inl 1)), .inl (0, 2, none), .inl ((-2147483648), (-1), none), .inl (300, 2147483647, none), .inl (3, 2147483647, none), .inr (.inr (.inl 245))], ([], [], [(3, 0, 0, ck_one 3)]), ([], []), [(.inr (some (.inl (ck_one 2))), 245, ([], [], []))])
set_option maxRecDepth 100000 in
theorem p16x_328_e : ck_ok p1_O none [] [(167, [p16x_327])] 166 [] 92 p16x_328 = true := by decide +kernel
theorem p16x_328_s {X : Int → Int} {LX : Nat} : ck_Ok p1_O X LX 166 p16x_328 := ck_ok_s (ck_E1 (ck_S1 p16x_327_s ck_S0) ck_E0) ck_X0 ck_l0 p16x_328_e
set_option maxRecDepth 100000 in
def p16x_330 : ck_Sum := ((0, 0, 0), 245, [.inr (.inr (.inl 1)), .inl (0, 299, none)], ([], [], []), ([], []), [(.inr none, 245, ([], [], []))])
set_option maxRecDepth 100000 in
theorem p16x_330_e : ck_ok p1_O none [] [] 129 [] 82 p16x_330 = true := by decide +kernel
theorem p16x_330_s {X : Int → Int} {LX : Nat} : ck_Ok p1_O X LX 129 p16x_330 := ck_ok_s (ck_E0) ck_X0 ck_l0 p16x_330_e
set_option maxRecDepth 100000 in
def p16x_331 : ck_Sum := ((7, 1, 6), 245, [.inr (.inr (.inl 1)), .inl (0, 2, none), .inl (0, 299, none), .inl ((-2147483648), (-1), none), .inl ((-2147483648), (-1), none)], ([], [], [(3, 0, 0, ck_one 3)]), ([], []), [(.inl 0, 245, ([], [], []))])
set_option maxRecDepth 100000 in
theorem p16x_331_e : ck_ok p1_O none [] [(132, [p16x_276]), (129, [p16x_330, p16x_277])] 167 [] 88 p16x_331 = true := by decide +kernel
theorem p16x_331_s {X : Int → Int} {LX : Nat} : ck_Ok p1_O X LX 167 p16x_331 := ck_ok_s (ck_E1 (ck_S1 p16x_276_s ck_S0) (ck_E1 (ck_S1 p16x_330_s (ck_S1 p16x_277_s ck_S0)) ck_E0)) ck_X0 ck_l0 p16x_331_e
set_option maxRecDepth 100000 in
def p16x_332 : ck_Sum := ((8, 1, 6), 245, [.inr (.inr (.inl 1)), .inl (0, 2, none), .inl (0, 299, none), .inl ((-2147483648), (-1), none), .inl ((-2147483648), (-1), none), .inr (.inr (.inl 245))], ([], [], [(3, 0, 0, ck_one 3)]), ([], []), [(.inr (some (.inl (ck_one 2))), 245, ([], [], []))])
set_option maxRecDepth 100000 in
theorem p16x_332_e : ck_ok p1_O none [] [(167, [p16x_331])] 166 [] 92 p16x_332 = true := by decide +kernel
theorem p16x_332_s {X : Int → Int} {LX : Nat} : ck_Ok p1_O X LX 166 p16x_332 := ck_ok_s (ck_E1 (ck_S1 p16x_331_s ck_S0) ck_E0) ck_X0 ck_l0 p16x_332_e
set_option maxRecDepth 100000 in
def p16x_336 : ck_Sum := ((7, 1, 6), 245, [.inr (.inr (.inl 1)), .inl (0, 2, none), .inl (0, 299, none), .inl ((-2147483648), (-1), none), .inl (ck_one 0)], ([], [], [(3, 0, 0, ck_one 3)]), ([], []), [(.inl 0, 245, ([], [], []))])
set_option maxRecDepth 100000 in
theorem p16x_336_e : ck_ok p1_O none [] [(132, [p16x_276]), (129, [p16x_330, p16x_277])] 167 [] 88 p16x_336 = true := by decide +kernel
theorem p16x_336_s {X : Int → Int} {LX : Nat} : ck_Ok p1_O X LX 167 p16x_336 := ck_ok_s (ck_E1 (ck_S1 p16x_276_s ck_S0) (ck_E1 (ck_S1 p16x_330_s (ck_S1 p16x_277_s ck_S0)) ck_E0)) ck_X0 ck_l0 p16x_336_e
set_option maxRecDepth 100000 in
def p16x_337 : ck_Sum := ((8, 1, 6), 245, [.inr (.inr (.inl 1)), .inl (0, 2, none), .inl (0, 299, none), .inl ((-2147483648), (-1), none), .inl (ck_one 0), .inr (.inr (.inl 245))], ([], [], [(3, 0, 0, ck_one 3)]), ([], []), [(.inr (some (.inl (ck_one 2))), 245, ([], [], []))])
set_option maxRecDepth 100000 in
theorem p16x_337_e : ck_ok p1_O none [] [(167, [p16x_336])] 166 [] 92 p16x_337 = true := by decide +kernel
theorem p16x_337_s {X : Int → Int} {LX : Nat} : ck_Ok p1_O X LX 166 p16x_337 := ck_ok_s (ck_E1 (ck_S1 p16x_336_s ck_S0) ck_E0) ck_X0 ck_l0 p16x_337_e
set_option maxRecDepth 100000 in
def p16x_339 : ck_Sum := ((7, 1, 6), 245, [.inr (.inr (.inl 1)), .inl (0, 2, none), .inl (0, 299, none), .inl ((-2147483648), (-1), none), .inl (ck_one 1)], ([], [], [(3, 0, 0, ck_one 3)]), ([], []), [(.inl 0, 245, ([], [], []))])
set_option maxRecDepth 100000 in
theorem p16x_339_e : ck_ok p1_O none [] [(132, [p16x_276]), (129, [p16x_330, p16x_277])] 167 [] 88 p16x_339 = true := by decide +kernel
theorem p16x_339_s {X : Int → Int} {LX : Nat} : ck_Ok p1_O X LX 167 p16x_339 := ck_ok_s (ck_E1 (ck_S1 p16x_276_s ck_S0) (ck_E1 (ck_S1 p16x_330_s (ck_S1 p16x_277_s ck_S0)) ck_E0)) ck_X0 ck_l0 p16x_339_e
set_option maxRecDepth 100000 in
def p16x_340 : ck_Sum := ((8, 1, 6), 245, [.inr (.inr (.inl 1)), .inl (0, 2, none), .inl (0, 299, none), .inl ((-2147483648), (-1), none), .inl (ck_one 1), .inr (.inr (.inl 245))], ([], [], [(3, 0, 0, ck_one 3)]), ([], []), [(.inr (some (.inl (ck_one 2))), 245, ([], [], []))])
set_option maxRecDepth 100000 in
theorem p16x_340_e : ck_ok p1_O none [] [(167, [p16x_339])] 166 [] 92 p16x_340 = true := by decide +kernel
theorem p16x_340_s {X : Int → Int} {LX : Nat} : ck_Ok p1_O X LX 166 p16x_340 := ck_ok_s (ck_E1 (ck_S1 p16x_339_s ck_S0) ck_E0) ck_X0 ck_l0 p16x_340_e
set_option maxRecDepth 100000 in
def p16x_342 : ck_Sum := ((7, 1, 6), 245, [.inr (.inr (.inl 1)), .inl (0, 2, none), .inl (0, 299, none), .inl ((-2147483648), (-1), none), .inl (ck_one 2)], ([], [], [(3, 0, 0, ck_one 3)]), ([], []), [(.inl 0, 245, ([], [], []))])
set_option maxRecDepth 100000 in
theorem p16x_342_e : ck_ok p1_O none [] [(132, [p16x_276]), (129, [p16x_330, p16x_277])] 167 [] 88 p16x_342 = true := by decide +kernel
theorem p16x_342_s {X : Int → Int} {LX : Nat} : ck_Ok p1_O X LX 167 p16x_342 := ck_ok_s (ck_E1 (ck_S1 p16x_276_s ck_S0) (ck_E1 (ck_S1 p16x_330_s (ck_S1 p16x_277_s ck_S0)) ck_E0)) ck_X0 ck_l0 p16x_342_e
set_option maxRecDepth 100000 in
def p16x_343 : ck_Sum := ((8, 1, 6), 245, [.inr (.inr (.inl 1)), .inl (0, 2, none), .inl (0, 299, none), .inl ((-2147483648), (-1), none), .inl (ck_one 2), .inr (.inr (.inl 245))], ([], [], [(3, 0, 0, ck_one 3)]), ([], []), [(.inr (some (.inl (ck_one 2))), 245, ([], [], []))])
set_option maxRecDepth 100000 in
theorem p16x_343_e : ck_ok p1_O none [] [(167, [p16x_342])] 166 [] 92 p16x_343 = true := by decide +kernel
theorem p16x_343_s {X : Int → Int} {LX : Nat} : ck_Ok p1_O X LX 166 p16x_343 := ck_ok_s (ck_E1 (ck_S1 p16x_342_s ck_S0) ck_E0) ck_X0 ck_l0 p16x_343_e
set_option maxRecDepth 100000 in
def p16x_345 : ck_Sum := ((7, 1, 6), 245, [.inr (.inr (.inl 1)), .inl (0, 2, none), .inl (0, 299, none), .inl ((-2147483648), (-1), none), .inl (3, 2147483647, none)], ([], [], [(3, 0, 0, ck_one 3)]), ([], []), [(.inl 0, 245, ([], [], []))])
set_option maxRecDepth 100000 in
theorem p16x_345_e : ck_ok p1_O none [] [(132, [p16x_276]), (129, [p16x_330, p16x_277])] 167 [] 88 p16x_345 = true := by decide +kernel
theorem p16x_345_s {X : Int → Int} {LX : Nat} : ck_Ok p1_O X LX 167 p16x_345 := ck_ok_s (ck_E1 (ck_S1 p16x_276_s ck_S0) (ck_E1 (ck_S1 p16x_330_s (ck_S1 p16x_277_s ck_S0)) ck_E0)) ck_X0 ck_l0 p16x_345_e
set_option maxRecDepth 100000 in
def p16x_346 : ck_Sum := ((8, 1, 6), 245, [.inr (.inr (.inl 1)), .inl (0, 2, none), .inl (0, 299, none), .inl ((-2147483648), (-1), none), .inl (3, 2147483647, none), .inr (.inr (.inl 245))], ([], [], [(3, 0, 0, ck_one 3)]), ([], []), [(.inr (some (.inl (ck_one 2))), 245, ([], [], []))])
set_option maxRecDepth 100000 in
theorem p16x_346_e : ck_ok p1_O none [] [(167, [p16x_345])] 166 [] 92 p16x_346 = true := by decide +kernel
theorem p16x_346_s {X : Int → Int} {LX : Nat} : ck_Ok p1_O X LX 166 p16x_346 := ck_ok_s (ck_E1 (ck_S1 p16x_345_s ck_S0) ck_E0) ck_X0 ck_l0 p16x_346_e
set_option maxRecDepth 100000 in
def p16x_348 : ck_Sum := ((6, 1, 6), 245, [.inr (.inr (.inl 1)), .inl (0, 2, none), .inl (0, 299, none), .inl (0, 299, none), .inl ((-2147483648), (-1), none)], ([], [], [(3, 6, 6, ck_one 0), (3, 0, 0, ck_one 3)]), ([], []), [(.inl 4, 245, ([], [], []))])
set_option maxRecDepth 100000 in
theorem p16x_348_e : ck_ok p1_O none [] [(132, [p16x_276]), (129, [p16x_330])] 167 [] 104 p16x_348 = true := by decide +kernel
theorem p16x_348_s {X : Int → Int} {LX : Nat} : ck_Ok p1_O X LX 167 p16x_348 := ck_ok_s (ck_E1 (ck_S1 p16x_276_s ck_S0) (ck_E1 (ck_S1 p16x_330_s ck_S0) ck_E0)) ck_X0 ck_l0 p16x_348_e
set_option maxRecDepth 100000 in
def p16x_349 : ck_Sum := ((7, 1, 6), 245, [.inr (.inr (.inl 1)), .inl (0, 2, none), .inl (0, 299, none), .inl (0, 299, none), .inl ((-2147483648), (-1), none), .inr (.inr (.inl 245))], ([], [], [(3, 6, 6, ck_one 0), (3, 0, 0, ck_one 3)]), ([], []), [(.inr (some (.inl (ck_one 3))), 245, ([], [], []))])
set_option maxRecDepth 100000 in
theorem p16x_349_e : ck_ok p1_O none [] [(167, [p16x_348])] 166 [] 92 p16x_349 = true := by decide +kernel
theorem p16x_349_s {X : Int → Int} {LX : Nat} : ck_Ok p1_O X LX 166 p16x_349 := ck_ok_s (ck_E1 (ck_S1 p16x_348_s ck_S0) ck_E0) ck_X0 ck_l0 p16x_349_e
set_option maxRecDepth 100000 in
def p16x_3706 : ck_Sum := ((0, 0, 0), 245, [.inr (.inr (.inl 206)), .inl (0, 2, none), .inl (0, 39, none), .inl (0, 299, none), .inl (ck_one 0)], ([], [], []), ([(206, 2, 8)], []), [(.inr none, 245, ([], [], [(206, 8, 8, ck_one 0), (206, 6, 6, ck_one 0), (206, 4, 4, ck_one (-1)), (206, 3, 3, ck_one 0), (206, 7, 7, (0, 299, none)), (206, 5, 5, (0, 39, none)), (206, 2, 2, (0, 2, none))]))])
set_option maxRecDepth 100000 in
theorem p16x_3706_e : ck_ok p1_O none [] [] 29 [] 114 p16x_3706 = true := by decide +kernel
theorem p16x_3706_s {X : Int → Int} {LX : Nat} : ck_Ok p1_O X LX 29 p16x_3706 := ck_ok_s (ck_E0) ck_X0 ck_l0 p16x_3706_e
set_option maxRecDepth 100000 in
def p16x_3707 : ck_Sum := ((0, 0, 0), 245, [.inr (.inr (.inl 206))], ([], [], [(206, 5, 5, (0, 39, none)), (3, 1, 1, ck_one 40)]), ([], []), [(.inr (some (.inl (ck_one 0))), 245, ([], [], []))])
set_option maxRecDepth 100000 in
theorem p16x_3707_e : ck_ok p1_O none [] [] 31 [] 86 p16x_3707 = true := by decide +kernel
theorem p16x_3707_s {X : Int → Int} {LX : Nat} : ck_Ok p1_O X LX 31 p16x_3707 := ck_ok_s (ck_E0) ck_X0 ck_l0 p16x_3707_e
set_option maxRecDepth 100000 in
def p16x_1675 : ck_Sum := ((0, 0, 0), 245, [.inr (.inr (.inl 200)), .inl ((-2147483648), 2147483647, none)], ([], [], [(201, 0, 299, (0, 9, none))]), ([], []), [(.inr (some (.inl (0, 9, none))), 245, ([], [], []))])
set_option maxRecDepth 100000 in
theorem p16x_1675_e : ck_ok p1_O none [] [] 34 [] 92 p16x_1675 = true := by decide +kernel
theorem p16x_1675_s {X : Int → Int} {LX : Nat} : ck_Ok p1_O X LX 34 p16x_1675 := ck_ok_s (ck_E0) ck_X0 ck_l0 p16x_1675_e
set_option maxRecDepth 100000 in
def p16x_3806 : ck_Sum := ((1, 0, 0), 245, [.inr (.inr (.inl 206))], ([], [], [(206, 6, 6, (0, 167, none)), (206, 3, 3, ck_one 0), (206, 5, 5, (0, 39, none)), (3, 3, 3, ck_one 2), (3, 2, 2, ck_one 10), (201, 0, 299, (0, 9, none))]), ([], []), [(.inr (some (.inl (0, 167, none))), 245, ([], [], []))])
set_option maxRecDepth 100000 in
theorem p16x_3806_e : ck_ok p1_O none [] [(34, [p16x_1675])] 33 [] 110 p16x_3806 = true := by decide +kernel
theorem p16x_3806_s {X : Int → Int} {LX : Nat} : ck_Ok p1_O X LX 33 p16x_3806 := ck_ok_s (ck_E1 (ck_S1 p16x_1675_s ck_S0) ck_E0) ck_X0 ck_l0 p16x_3806_e
set_option maxRecDepth 100000 in
def p16x_3713 : ck_Sum := ((0, 0, 0), 245, [.inr (.inr (.inl 200)), .inl (0, 2, none), .inl (0, 39, none)], ([], [], [(202, 0, 593, ck_one 0)]), ([], []), [(.inr (some (.inl (ck_one 0))), 245, ([], [], []))])
set_option maxRecDepth 100000 in
theorem p16x_3713_e : ck_ok p1_O none [] [] 36 [] 108 p16x_3713 = true := by decide +kernel
theorem p16x_3713_s {X : Int → Int} {LX : Nat} : ck_Ok p1_O X LX 36 p16x_3713 := ck_ok_s (ck_E0) ck_X0 ck_l0 p16x_3713_e
set_option maxRecDepth 100000 in
def p16x_3807 : ck_Sum := ((1, 0, 0), 245, [.inr (.inr (.inl 200)), .inl (0, 2, none), .inl (0, 39, none), .inl ((-2147483648), 2147483647, none)], ([], [(3, 8, 0)], [(202, 0, 593, ck_one 0)]), ([], []), [(.inr (some (.inl (ck_one 0))), 245, ([], [], []))])
set_option maxRecDepth 100000 in
theorem p16x_3807_e : ck_ok p1_O none [] [(36, [p16x_3713])] 35 [] 92 p16x_3807 = true := by decide +kernel
theorem p16x_3807_s {X : Int → Int} {LX : Nat} : ck_Ok p1_O X LX 35 p16x_3807 := ck_ok_s (ck_E1 (ck_S1 p16x_3713_s ck_S0) ck_E0) ck_X0 ck_l0 p16x_3807_e
set_option maxRecDepth 100000 in
def p16x_510 : ck_Sum := ((0, 0, 0), 245, [.inr (.inr (.inl 200)), .inl ((-2147483648), 2147483647, none)], ([], [], [(203, 0, 299, ck_one 0)]), ([], []), [(.inr (some (.inl (ck_one 0))), 245, ([], [], []))])
set_option maxRecDepth 100000 in
theorem p16x_510_e : ck_ok p1_O none [] [] 44 [] 92 p16x_510 = true := by decide +kernel
theorem p16x_510_s {X : Int → Int} {LX : Nat} : ck_Ok p1_O X LX 44 p16x_510 := ck_ok_s (ck_E0) ck_X0 ck_l0 p16x_510_e
set_option maxRecDepth 100000 in
def p16x_511 : ck_Sum := ((1, 0, 0), 245, [.inr (.inr (.inl 206))], ([], [], [(203, 0, 299, ck_one 0)]), ([], []), [(.inr none, 245, ([], [], []))])
set_option maxRecDepth 100000 in
theorem p16x_511_e : ck_ok p1_O none [] [(44, [p16x_510])] 43 [(22, [some (.inr (.inr (.inl 206))), some (.inr (.inr (.inl 6))), some (.inl (ck_one 0)), some (.inl (ck_one 0)), none], ([], [], [(203, 0, 299, ck_one 0)]), 100, .inl 3, true)] 142 p16x_511 = true := by decide +kernel
theorem p16x_511_s {X : Int → Int} {LX : Nat} : ck_Ok p1_O X LX 43 p16x_511 := ck_ok_s (ck_E1 (ck_S1 p16x_510_s ck_S0) ck_E0) ck_X0 ck_l0 p16x_511_e
set_option maxRecDepth 100000 in
def p16x_3808 : ck_Sum := ((2, 0, 0), 245, [.inr (.inr (.inl 206))], ([], [(3, 8, 0)], [(206, 6, 6, (0, 167, none)), (206, 3, 3, ck_one 0), (206, 5, 5, (0, 39, none)), (206, 2, 2, (0, 2, none)), (3, 3, 3, ck_one 2), (3, 2, 2, ck_one 10), (3, 1, 1, ck_one 40), (203, 0, 299, ck_one 0), (202, 0, 593, ck_one 0), (201, 0, 299, (0, 9, none))]), ([(206, 5, 7)], []), [(.inr none, 245, ([], [], [(206, 6, 6, (0, 167, none)), (206, 5, 5, (0, 39, none))]))])
set_option maxRecDepth 100000 in
theorem p16x_3808_e : ck_ok p1_O none [] [(31, [p16x_3707]), (33, [p16x_3806]), (35, [p16x_3807]), (43, [p16x_511])] 32 [] 134 p16x_3808 = true := by decide +kernel
theorem p16x_3808_s {X : Int → Int} {LX : Nat} : ck_Ok p1_O X LX 32 p16x_3808 := ck_ok_s (ck_E1 (ck_S1 p16x_3707_s ck_S0) (ck_E1 (ck_S1 p16x_3806_s ck_S0) (ck_E1 (ck_S1 p16x_3807_s ck_S0) (ck_E1 (ck_S1 p16x_511_s ck_S0) ck_E0)))) ck_X0 ck_l0 p16x_3808_e
set_option maxRecDepth 100000 in
def p16x_3839 : ck_Sum := ((3, 0, 0), 245, [.inr (.inr (.inl 206)), .inl (0, 299, none)], ([], [(3, 8, 0)], [(206, 6, 6, ck_one 0), (206, 3, 3, ck_one 0), (206, 7, 7, (0, 299, none)), (206, 5, 5, (0, 39, none)), (206, 2, 2, (0, 2, none)), (3, 3, 3, ck_one 2), (3, 2, 2, ck_one 10), (3, 1, 1, ck_one 40), (203, 0, 299, ck_one 0), (202, 0, 593, ck_one 0), (201, 0, 299, (0, 9, none))]), ([(206, 5, 7)], []), [(.inr (some (.inl (ck_one (-1)))), 245, ([], [], [(206, 6, 6, (0, 167, none)), (206, 5, 5, (0, 39, none))]))])
set_option maxRecDepth 100000 in
theorem p16x_3839_e : ck_ok p1_O none [] [(31, [p16x_3707]), (32, [p16x_3808])] 30 [(5, [some (.inr (.inr (.inl 206))), some (.inl (0, 299, none)), some (.inl (0, 300, none))], ([], [(3, 8, 0)], [(206, 6, 6, (0, 167, none)), (206, 3, 3, ck_one 0), (206, 5, 5, (0, 39, none)), (206, 2, 2, (0, 2, none)), (3, 3, 3, ck_one 2), (3, 2, 2, ck_one 10), (3, 1, 1, ck_one 40), (203, 0, 299, ck_one 0), (202, 0, 593, ck_one 0), (201, 0, 299, (0, 9, none))]), 100, .inl 2, true)] 134 p16x_3839 = true := by decide +kernel
theorem p16x_3839_s {X : Int → Int} {LX : Nat} : ck_Ok p1_O X LX 30 p16x_3839 := ck_ok_s (ck_E1 (ck_S1 p16x_3707_s ck_S0) (ck_E1 (ck_S1 p16x_3808_s ck_S0) ck_E0)) ck_X0 ck_l0 p16x_3839_e
set_option maxRecDepth 100000 in
def p16x_3840 : ck_Sum := ((4, 0, 0), 245, [.inr (.inr (.inl 1)), .inl (0, 2, none), .inl (0, 299, none), .inl (0, 299, none), .inl (ck_one 0)], ([], [(3, 8, 0)], [(206, 8, 8, ck_one 0), (206, 7, 7, ck_one 0), (206, 6, 6, ck_one 0), (206, 5, 5, ck_one 0), (206, 4, 4, ck_one (-1)), (206, 3, 3, ck_one 0), (206, 2, 2, ck_one 0), (3, 6, 6, ck_one 0), (3, 3, 3, ck_one 2), (3, 2, 2, ck_one 10), (3, 1, 1, ck_one 40), (3, 0, 0, ck_one 3), (203, 0, 299, ck_one 0), (202, 0, 593, ck_one 0), (201, 0, 299, (0, 9, none))]), ([(206, 2, 8)], []), [(.inr (some (.inl (ck_one 0))), 245, ([], [], [(206, 8, 8, ck_one 0), (206, 6, 6, (0, 167, none)), (206, 5, 5, (0, 39, none)), (206, 4, 4, ck_one (-1)), (206, 3, 3, ck_one 0), (206, 2, 2, (0, 2, none))]))])
set_option maxRecDepth 100000 in
theorem p16x_3840_e : ck_ok p1_O none [] [(132, [p16x_276]), (129, [p16x_330]), (29, [p16x_3706]), (30, [p16x_3839])] 167 [(71, [some (.inr (.inr (.inl 1))), some (.inl (0, 2, none)), some (.inl (0, 299, none)), some (.inl (0, 299, none)), some (.inl (ck_one 0)), some (.inl (ck_one 0)), some (.inl (ck_one (-1))), some (.inl (ck_one (-1))), some (.inl (0, 40, none))], ([], [(3, 8, 0)], [(206, 8, 8, ck_one 0), (206, 6, 6, (0, 167, none)), (206, 5, 5, (0, 39, none)), (206, 4, 4, ck_one (-1)), (206, 3, 3, ck_one 0), (206, 2, 2, (0, 2, none)), (3, 6, 6, ck_one 0), (3, 3, 3, ck_one 2), (3, 2, 2, ck_one 10), (3, 1, 1, ck_one 40), (3, 0, 0, ck_one 3), (203, 0, 299, ck_one 0), (202, 0, 593, ck_one 0), (201, 0, 299, (0, 9, none))]), 100, .inl 8, true)] 202 p16x_3840 = true := by decide +kernel
theorem p16x_3840_s {X : Int → Int} {LX : Nat} : ck_Ok p1_O X LX 167 p16x_3840 := ck_ok_s (ck_E1 (ck_S1 p16x_276_s ck_S0) (ck_E1 (ck_S1 p16x_330_s ck_S0) (ck_E1 (ck_S1 p16x_3706_s ck_S0) (ck_E1 (ck_S1 p16x_3839_s ck_S0) ck_E0)))) ck_X0 ck_l0 p16x_3840_e
set_option maxRecDepth 100000 in
def p16x_3841 : ck_Sum := ((5, 0, 0), 245, [.inr (.inr (.inl 1)), .inl (0, 2, none), .inl (0, 299, none), .inl (0, 299, none), .inl (ck_one 0), .inr (.inr (.inl 245))], ([], [(3, 8, 0)], [(206, 8, 8, ck_one 0), (206, 7, 7, ck_one 0), (206, 6, 6, ck_one 0), (206, 5, 5, ck_one 0), (206, 4, 4, ck_one (-1)), (206, 3, 3, ck_one 0), (206, 2, 2, ck_one 0), (3, 6, 6, ck_one 0), (3, 3, 3, ck_one 2), (3, 2, 2, ck_one 10), (3, 1, 1, ck_one 40), (3, 0, 0, ck_one 3), (203, 0, 299, ck_one 0), (202, 0, 593, ck_one 0), (201, 0, 299, (0, 9, none))]), ([(206, 2, 8), (245, 0, 0)], []), [(.inr (some (.inl (ck_one 0))), 245, ([], [], [(245, 0, 0, ck_one 0), (206, 8, 8, ck_one 0), (206, 6, 6, (0, 167, none)), (206, 5, 5, (0, 39, none)), (206, 4, 4, ck_one (-1)), (206, 3, 3, ck_one 0), (206, 2, 2, (0, 2, none))]))])
set_option maxRecDepth 100000 in
theorem p16x_3841_e : ck_ok p1_O none [] [(167, [p16x_3840])] 166 [] 96 p16x_3841 = true := by decide +kernel
theorem p16x_3841_s {X : Int → Int} {LX : Nat} : ck_Ok p1_O X LX 166 p16x_3841 := ck_ok_s (ck_E1 (ck_S1 p16x_3840_s ck_S0) ck_E0) ck_X0 ck_l0 p16x_3841_e
set_option maxRecDepth 100000 in
def p16x_5505 : ck_Sum := ((4, 0, 0), 245, [.inr (.inr (.inl 1)), .inl (0, 2, none), .inl (0, 299, none), .inl (0, 299, none), .inl (ck_one 1)], ([], [(3, 8, 0)], [(206, 8, 8, ck_one 0), (206, 7, 7, ck_one 0), (206, 6, 6, ck_one 0), (206, 5, 5, ck_one 0), (206, 4, 4, ck_one (-1)), (206, 3, 3, ck_one 0), (206, 2, 2, ck_one 0), (3, 6, 6, ck_one 0), (3, 3, 3, ck_one 2), (3, 2, 2, ck_one 10), (3, 1, 1, ck_one 40), (3, 0, 0, ck_one 3), (203, 0, 299, ck_one 0), (202, 0, 593, ck_one 0), (201, 0, 299, (0, 9, none))]), ([(206, 2, 8)], []), [(.inr (some (.inl (ck_one (-1)))), 245, ([], [], [(206, 8, 8, ck_one 0), (206, 6, 6, (0, 167, none)), (206, 5, 5, (0, 39, none)), (206, 4, 4, ck_one (-1)), (206, 3, 3, ck_one 0), (206, 2, 2, (0, 2, none))]))])
set_option maxRecDepth 100000 in
theorem p16x_5505_e : ck_ok p1_O none [] [(132, [p16x_276]), (129, [p16x_330]), (29, [p16x_3706]), (30, [p16x_3839])] 167 [(71, [some (.inr (.inr (.inl 1))), some (.inl (0, 2, none)), some (.inl (0, 299, none)), some (.inl (0, 299, none)), some (.inl (ck_one 1)), some (.inl (ck_one 0)), some (.inl (ck_one (-1))), some (.inl (ck_one (-1))), some (.inl (0, 40, none))], ([], [(3, 8, 0)], [(206, 8, 8, ck_one 0), (206, 6, 6, (0, 167, none)), (206, 5, 5, (0, 39, none)), (206, 4, 4, ck_one (-1)), (206, 3, 3, ck_one 0), (206, 2, 2, (0, 2, none)), (3, 6, 6, ck_one 0), (3, 3, 3, ck_one 2), (3, 2, 2, ck_one 10), (3, 1, 1, ck_one 40), (3, 0, 0, ck_one 3), (203, 0, 299, ck_one 0), (202, 0, 593, ck_one 0), (201, 0, 299, (0, 9, none))]), 100, .inl 8, true)] 202 p16x_5505 = true := by decide +kernel
theorem p16x_5505_s {X : Int → Int} {LX : Nat} : ck_Ok p1_O X LX 167 p16x_5505 := ck_ok_s (ck_E1 (ck_S1 p16x_276_s ck_S0) (ck_E1 (ck_S1 p16x_330_s ck_S0) (ck_E1 (ck_S1 p16x_3706_s ck_S0) (ck_E1 (ck_S1 p16x_3839_s ck_S0) ck_E0)))) ck_X0 ck_l0 p16x_5505_e
set_option maxRecDepth 100000 in
def p16x_5506 : ck_Sum := ((5, 0, 0), 245, [.inr (.inr (.inl 1)), .inl (0, 2, none), .inl (0, 299, none), .inl (0, 299, none), .inl (ck_one 1), .inr (.inr (.inl 245))], ([], [(3, 8, 0)], [(206, 8, 8, ck_one 0), (206, 7, 7, ck_one 0), (206, 6, 6, ck_one 0), (206, 5, 5, ck_one 0), (206, 4, 4, ck_one (-1)), (206, 3, 3, ck_one 0), (206, 2, 2, ck_one 0), (3, 6, 6, ck_one 0), (3, 3, 3, ck_one 2), (3, 2, 2, ck_one 10), (3, 1, 1, ck_one 40), (3, 0, 0, ck_one 3), (203, 0, 299, ck_one 0), (202, 0, 593, ck_one 0), (201, 0, 299, (0, 9, none))]), ([(206, 2, 8), (245, 0, 0)], []), [(.inr (some (.inl (ck_one 0))), 245, ([], [], [(245, 0, 0, ck_one (-1)), (206, 8, 8, ck_one 0), (206, 6, 6, (0, 167, none)), (206, 5, 5, (0, 39, none)), (206, 4, 4, ck_one (-1)), (206, 3, 3, ck_one 0), (206, 2, 2, (0, 2, none))]))])
set_option maxRecDepth 100000 in
theorem p16x_5506_e : ck_ok p1_O none [] [(167, [p16x_5505])] 166 [] 96 p16x_5506 = true := by decide +kernel
theorem p16x_5506_s {X : Int → Int} {LX : Nat} : ck_Ok p1_O X LX 166 p16x_5506 := ck_ok_s (ck_E1 (ck_S1 p16x_5505_s ck_S0) ck_E0) ck_X0 ck_l0 p16x_5506_e
set_option maxRecDepth 100000 in
def p16x_5509 : ck_Sum := ((4, 0, 0), 245, [.inr (.inr (.inl 1)), .inl (0, 2, none), .inl (0, 299, none), .inl (0, 299, none), .inl (ck_one 2)], ([], [(3, 8, 0)], [(206, 8, 8, ck_one 0), (206, 7, 7, ck_one 0), (206, 6, 6, ck_one 0), (206, 5, 5, ck_one 0), (206, 4, 4, ck_one (-1)), (206, 3, 3, ck_one 0), (206, 2, 2, ck_one 0), (3, 6, 6, ck_one 0), (3, 3, 3, ck_one 2), (3, 2, 2, ck_one 10), (3, 1, 1, ck_one 40), (3, 0, 0, ck_one 3), (203, 0, 299, ck_one 0), (202, 0, 593, ck_one 0), (201, 0, 299, (0, 9, none))]), ([(206, 2, 8)], []), [(.inr (some (.inl (ck_one (-1)))), 245, ([], [], [(206, 8, 8, ck_one 0), (206, 6, 6, (0, 167, none)), (206, 5, 5, (0, 39, none)), (206, 4, 4, ck_one (-1)), (206, 3, 3, ck_one 0), (206, 2, 2, (0, 2, none))]))])
set_option maxRecDepth 100000 in
theorem p16x_5509_e : ck_ok p1_O none [] [(132, [p16x_276]), (129, [p16x_330]), (29, [p16x_3706]), (30, [p16x_3839])] 167 [(71, [some (.inr (.inr (.inl 1))), some (.inl (0, 2, none)), some (.inl (0, 299, none)), some (.inl (0, 299, none)), some (.inl (ck_one 2)), some (.inl (ck_one 0)), some (.inl (ck_one (-1))), some (.inl (ck_one (-1))), some (.inl (0, 40, none))], ([], [(3, 8, 0)], [(206, 8, 8, ck_one 0), (206, 6, 6, (0, 167, none)), (206, 5, 5, (0, 39, none)), (206, 4, 4, ck_one (-1)), (206, 3, 3, ck_one 0), (206, 2, 2, (0, 2, none)), (3, 6, 6, ck_one 0), (3, 3, 3, ck_one 2), (3, 2, 2, ck_one 10), (3, 1, 1, ck_one 40), (3, 0, 0, ck_one 3), (203, 0, 299, ck_one 0), (202, 0, 593, ck_one 0), (201, 0, 299, (0, 9, none))]), 100, .inl 8, true)] 202 p16x_5509 = true := by decide +kernel
theorem p16x_5509_s {X : Int → Int} {LX : Nat} : ck_Ok p1_O X LX 167 p16x_5509 := ck_ok_s (ck_E1 (ck_S1 p16x_276_s ck_S0) (ck_E1 (ck_S1 p16x_330_s ck_S0) (ck_E1 (ck_S1 p16x_3706_s ck_S0) (ck_E1 (ck_S1 p16x_3839_s ck_S0) ck_E0)))) ck_X0 ck_l0 p16x_5509_e
set_option maxRecDepth 100000 in
def p16x_5510 : ck_Sum := ((5, 0, 0), 245, [.inr (.inr (.inl 1)), .inl (0, 2, none), .inl (0, 299, none), .inl (0, 299, none), .inl (ck_one 2), .inr (.inr (.inl 245))], ([], [(3, 8, 0)], [(206, 8, 8, ck_one 0), (206, 7, 7, ck_one 0), (206, 6, 6, ck_one 0), (206, 5, 5, ck_one 0), (206, 4, 4, ck_one (-1)), (206, 3, 3, ck_one 0), (206, 2, 2, ck_one 0), (3, 6, 6, ck_one 0), (3, 3, 3, ck_one 2), (3, 2, 2, ck_one 10), (3, 1, 1, ck_one 40), (3, 0, 0, ck_one 3), (203, 0, 299, ck_one 0), (202, 0, 593, ck_one 0), (201, 0, 299, (0, 9, none))]), ([(206, 2, 8), (245, 0, 0)], []), [(.inr (some (.inl (ck_one 0))), 245, ([], [], [(245, 0, 0, ck_one (-1)), (206, 8, 8, ck_one 0), (206, 6, 6, (0, 167, none)), (206, 5, 5, (0, 39, none)), (206, 4, 4, ck_one (-1)), (206, 3, 3, ck_one 0), (206, 2, 2, (0, 2, none))]))])
set_option maxRecDepth 100000 in
theorem p16x_5510_e : ck_ok p1_O none [] [(167, [p16x_5509])] 166 [] 96 p16x_5510 = true := by decide +kernel
theorem p16x_5510_s {X : Int → Int} {LX : Nat} : ck_Ok p1_O X LX 166 p16x_5510 := ck_ok_s (ck_E1 (ck_S1 p16x_5509_s ck_S0) ck_E0) ck_X0 ck_l0 p16x_5510_e
set_option maxRecDepth 100000 in
def p16x_5513 : ck_Sum := ((6, 1, 6), 245, [.inr (.inr (.inl 1)), .inl (0, 2, none), .inl (0, 299, none), .inl (0, 299, none), .inl (3, 2147483647, none)], ([], [], [(3, 6, 6, ck_one 0), (3, 0, 0, ck_one 3)]), ([], []), [(.inl 4, 245, ([], [], []))])
set_option maxRecDepth 100000 in
theorem p16x_5513_e : ck_ok p1_O none [] [(132, [p16x_276]), (129, [p16x_330])] 167 [] 110 p16x_5513 = true := by decide +kernel
theorem p16x_5513_s {X : Int → Int} {LX : Nat} : ck_Ok p1_O X LX 167 p16x_5513 := ck_ok_s (ck_E1 (ck_S1 p16x_276_s ck_S0) (ck_E1 (ck_S1 p16x_330_s ck_S0) ck_E0)) ck_X0 ck_l0 p16x_5513_e
set_option maxRecDepth 100000 in
def p16x_5514 : ck_Sum := ((7, 1, 6), 245, [.inr (.inr (.inl 1)), .inl (0, 2, none), .inl (0, 299, none), .inl (0, 299, none), .inl (3, 2147483647, none), .inr (.inr (.inl 245))], ([], [], [(3, 6, 6, ck_one 0), (3, 0, 0, ck_one 3)]), ([], []), [(.inr (some (.inl (ck_one 3))), 245, ([], [], []))])
set_option maxRecDepth 100000 in
theorem p16x_5514_e : ck_ok p1_O none [] [(167, [p16x_5513])] 166 [] 92 p16x_5514 = true := by decide +kernel
theorem p16x_5514_s {X : Int → Int} {LX : Nat} : ck_Ok p1_O X LX 166 p16x_5514 := ck_ok_s (ck_E1 (ck_S1 p16x_5513_s ck_S0) ck_E0) ck_X0 ck_l0 p16x_5514_e
set_option maxRecDepth 100000 in
def p16x_5517 : ck_Sum := ((6, 1, 6), 245, [.inr (.inr (.inl 1)), .inl (300, 2147483647, none)], ([], [], []), ([], []), [(.inl 0, 245, ([], [], []))])
set_option maxRecDepth 100000 in
theorem p16x_5517_e : ck_ok p1_O none [] [] 129 [] 82 p16x_5517 = true := by decide +kernel
theorem p16x_5517_s {X : Int → Int} {LX : Nat} : ck_Ok p1_O X LX 129 p16x_5517 := ck_ok_s (ck_E0) ck_X0 ck_l0 p16x_5517_e
set_option maxRecDepth 100000 in
def p16x_5518 : ck_Sum := ((7, 1, 6), 245, [.inr (.inr (.inl 1)), .inl (0, 2, none), .inl (0, 299, none), .inl (300, 2147483647, none), .inl ((-2147483648), (-1), none)], ([], [], [(3, 0, 0, ck_one 3)]), ([], []), [(.inl 0, 245, ([], [], []))])
set_option maxRecDepth 100000 in
theorem p16x_5518_e : ck_ok p1_O none [] [(132, [p16x_276]), (129, [p16x_330, p16x_5517])] 167 [] 88 p16x_5518 = true := by decide +kernel
theorem p16x_5518_s {X : Int → Int} {LX : Nat} : ck_Ok p1_O X LX 167 p16x_5518 := ck_ok_s (ck_E1 (ck_S1 p16x_276_s ck_S0) (ck_E1 (ck_S1 p16x_330_s (ck_S1 p16x_5517_s ck_S0)) ck_E0)) ck_X0 ck_l0 p16x_5518_e
set_option maxRecDepth 100000 in
def p16x_5519 : ck_Sum := ((8, 1, 6), 245, [.inr (.inr (.inl 1)), .inl (0, 2, none), .inl (0, 299, none), .inl (300, 2147483647, none), .inl ((-2147483648), (-1), none), .inr (.inr (.inl 245))], ([], [], [(3, 0, 0, ck_one 3)]), ([], []), [(.inr (some (.inl (ck_one 2))), 245, ([], [], []))])
set_option maxRecDepth 100000 in
theorem p16x_5519_e : ck_ok p1_O none [] [(167, [p16x_5518])] 166 [] 92 p16x_5519 = true := by decide +kernel
theorem p16x_5519_s {X : Int → Int} {LX : Nat} : ck_Ok p1_O X LX 166 p16x_5519 := ck_ok_s (ck_E1 (ck_S1 p16x_5518_s ck_S0) ck_E0) ck_X0 ck_l0 p16x_5519_e
set_option maxRecDepth 100000 in
def p16x_5523 : ck_Sum := ((7, 1, 6), 245, [.inr (.inr (.inl 1)), .inl (0, 2, none), .inl (0, 299, none), .inl (300, 2147483647, none), .inl (ck_one 0)], ([], [], [(3, 0, 0, ck_one 3)]), ([], []), [(.inl 0, 245, ([], [], []))])
set_option maxRecDepth 100000 in
theorem p16x_5523_e : ck_ok p1_O none [] [(132, [p16x_276]), (129, [p16x_330, p16x_5517])] 167 [] 88 p16x_5523 = true := by decide +kernel
theorem p16x_5523_s {X : Int → Int} {LX : Nat} : ck_Ok p1_O X LX 167 p16x_5523 := ck_ok_s (ck_E1 (ck_S1 p16x_276_s ck_S0) (ck_E1 (ck_S1 p16x_330_s (ck_S1 p16x_5517_s ck_S0)) ck_E0)) ck_X0 ck_l0 p16x_5523_e
set_option maxRecDepth 100000 in
def p16x_5524 : ck_Sum := ((8, 1, 6), 245, [.inr (.inr (.inl 1)), .inl (0, 2, none), .inl (0, 299, none), .inl (300, 2147483647, none), .inl (ck_one 0), .inr (.inr (.inl 245))], ([], [], [(3, 0, 0, ck_one 3)]), ([], []), [(.inr (some (.inl (ck_one 2))), 245, ([], [], []))])
set_option maxRecDepth 100000 in
theorem p16x_5524_e : ck_ok p1_O none [] [(167, [p16x_5523])] 166 [] 92 p16x_5524 = true := by decide +kernel
theorem p16x_5524_s {X : Int → Int} {LX : Nat} : ck_Ok p1_O X LX 166 p16x_5524 := ck_ok_s (ck_E1 (ck_S1 p16x_5523_s ck_S0) ck_E0) ck_X0 ck_l0 p16x_5524_e
set_option maxRecDepth 100000 in
def p16x_5526 : ck_Sum := ((7, 1, 6), 245, [.inr (.inr (.inl 1)), .inl (0, 2, none), .inl (0, 299, none), .inl (300, 2147483647, none), .inl (ck_one 1)], ([], [], [(3, 0, 0, ck_one 3)]), ([], []), [(.inl 0, 245, ([], [], []))])
set_option maxRecDepth 100000 in
theorem p16x_5526_e : ck_ok p1_O none [] [(132, [p16x_276]), (129, [p16x_330, p16x_5517])] 167 [] 88 p16x_5526 = true := by decide +kernel
theorem p16x_5526_s {X : Int → Int} {LX : Nat} : ck_Ok p1_O X LX 167 p16x_5526 := ck_ok_s (ck_E1 (ck_S1 p16x_276_s ck_S0) (ck_E1 (ck_S1 p16x_330_s (ck_S1 p16x_5517_s ck_S0)) ck_E0)) ck_X0 ck_l0 p16x_5526_e
set_option maxRecDepth 100000 in
def p16x_5527 : ck_Sum := ((8, 1, 6), 245, [.inr (.inr (.inl 1)), .inl (0, 2, none), .inl (0, 299, none), .inl (300, 2147483647, none), .inl (ck_one 1), .inr (.inr (.inl 245))], ([], [], [(3, 0, 0, ck_one 3)]), ([], []), [(.inr (some (.inl (ck_one 2))), 245, ([], [], []))])
set_option maxRecDepth 100000 in
theorem p16x_5527_e : ck_ok p1_O none [] [(167, [p16x_5526])] 166 [] 92 p16x_5527 = true := by decide +kernel
theorem p16x_5527_s {X : Int → Int} {LX : Nat} : ck_Ok p1_O X LX 166 p16x_5527 := ck_ok_s (ck_E1 (ck_S1 p16x_5526_s ck_S0) ck_E0) ck_X0 ck_l0 p16x_5527_e
set_option maxRecDepth 100000 in
def p16x_5529 : ck_Sum := ((7, 1, 6), 245, [.inr (.inr (.inl 1)), .inl (0, 2, none), .inl (0, 299, none), .inl (300, 2147483647, none), .inl (ck_one 2)], ([], [], [(3, 0, 0, ck_one 3)]), ([], []), [(.inl 0, 245, ([], [], []))])
set_option maxRecDepth 100000 in
theorem p16x_5529_e : ck_ok p1_O none [] [(132, [p16x_276]), (129, [p16x_330, p16x_5517])] 167 [] 88 p16x_5529 = true := by decide +kernel
theorem p16x_5529_s {X : Int → Int} {LX : Nat} : ck_Ok p1_O X LX 167 p16x_5529 := ck_ok_s (ck_E1 (ck_S1 p16x_276_s ck_S0) (ck_E1 (ck_S1 p16x_330_s (ck_S1 p16x_5517_s ck_S0)) ck_E0)) ck_X0 ck_l0 p16x_5529_e
set_option maxRecDepth 100000 in
def p16x_5530 : ck_Sum := ((8, 1, 6), 245, [.inr (.inr (.inl 1)), .inl (0, 2, none), .inl (0, 299, none), .inl (300, 2147483647, none), .inl (ck_one 2), .inr (.inr (.inl 245))], ([], [], [(3, 0, 0, ck_one 3)]), ([], []), [(.inr (some (.inl (ck_one 2))), 245, ([], [], []))])
set_option maxRecDepth 100000 in
theorem p16x_5530_e : ck_ok p1_O none [] [(167, [p16x_5529])] 166 [] 92 p16x_5530 = true := by decide +kernel
theorem p16x_5530_s {X : Int → Int} {LX : Nat} : ck_Ok p1_O X LX 166 p16x_5530 := ck_ok_s (ck_E1 (ck_S1 p16x_5529_s ck_S0) ck_E0) ck_X0 ck_l0 p16x_5530_e
set_option maxRecDepth 100000 in
def p16x_5532 : ck_Sum := ((7, 1, 6), 245, [.inr (.inr (.inl 1)), .inl (0, 2, none), .inl (0, 299, none), .inl (300, 2147483647, none), .inl (3, 2147483647, none)], ([], [], [(3, 0, 0, ck_one 3)]), ([], []), [(.inl 0, 245, ([], [], []))])
set_option maxRecDepth 100000 in
theorem p16x_5532_e : ck_ok p1_O none [] [(132, [p16x_276]), (129, [p16x_330, p16x_5517])] 167 [] 88 p16x_5532 = true := by decide +kernel
theorem p16x_5532_s {X : Int → Int} {LX : Nat} : ck_Ok p1_O X LX 167 p16x_5532 := ck_ok_s (ck_E1 (ck_S1 p16x_276_s ck_S0) (ck_E1 (ck_S1 p16x_330_s (ck_S1 p16x_5517_s ck_S0)) ck_E0)) ck_X0 ck_l0 p16x_5532_e
set_option maxRecDepth 100000 in
def p16x_5533 : ck_Sum := ((8, 1, 6), 245, [.inr (.inr (.inl 1)), .inl (0, 2, none), .inl (0, 299, none), .inl (300, 2147483647, none), .inl (3, 2147483647, none), .inr (.inr (.inl 245))], ([], [], [(3, 0, 0, ck_one 3)]), ([], []), [(.inr (some (.inl (ck_one 2))), 245, ([], [], []))])
set_option maxRecDepth 100000 in
theorem p16x_5533_e : ck_ok p1_O none [] [(167, [p16x_5532])] 166 [] 92 p16x_5533 = true := by decide +kernel
theorem p16x_5533_s {X : Int → Int} {LX : Nat} : ck_Ok p1_O X LX 166 p16x_5533 := ck_ok_s (ck_E1 (ck_S1 p16x_5532_s ck_S0) ck_E0) ck_X0 ck_l0 p16x_5533_e
set_option maxRecDepth 100000 in
def p16x_5535 : ck_Sum := ((7, 1, 6), 245, [.inr (.inr (.inl 1)), .inl (0, 2, none), .inl (300, 2147483647, none), .inl ((-2147483648), (-1), none), .inl ((-2147483648), (-1), none)], ([], [], [(3, 0, 0, ck_one 3)]), ([], []), [(.inl 0, 245, ([], [], []))])
set_option maxRecDepth 100000 in
theorem p16x_5535_e : ck_ok p1_O none [] [(132, [p16x_276]), (129, [p16x_5517])] 167 [] 82 p16x_5535 = true := by decide +kernel
theorem p16x_5535_s {X : Int → Int} {LX : Nat} : ck_Ok p1_O X LX 167 p16x_5535 := ck_ok_s (ck_E1 (ck_S1 p16x_276_s ck_S0) (ck_E1 (ck_S1 p16x_5517_s ck_S0) ck_E0)) ck_X0 ck_l0 p16x_5535_e
set_option maxRecDepth 100000 in
def p16x_5536 : ck_Sum := ((8, 1, 6), 245, [.inr (.inr (.inl 1)), .inl (0, 2, none), .inl (300, 2147483647, none), .inl ((-2147483648), (-1), none), .inl ((-2147483648), (-1), none), .inr (.inr (.inl 245))], ([], [], [(3, 0, 0, ck_one 3)]), ([], []), [(.inr (some (.inl (ck_one 2))), 245, ([], [], []))])
set_option maxRecDepth 100000 in
theorem p16x_5536_e : ck_ok p1_O none [] [(167, [p16x_5535])] 166 [] 92 p16x_5536 = true := by decide +kernel
theorem p16x_5536_s {X : Int → Int} {LX : Nat} : ck_Ok p1_O X LX 166 p16x_5536 := ck_ok_s (ck_E1 (ck_S1 p16x_5535_s ck_S0) ck_E0) ck_X0 ck_l0 p16x_5536_e
set_option maxRecDepth 100000 in
def p16x_5538 : ck_Sum := ((7, 1, 6), 245, [.inr (.inr (.inl 1)), .inl (0, 2, none), .inl (300, 2147483647, none), .inl ((-2147483648), (-1), none), .inl (ck_one 0)], ([], [], [(3, 0, 0, ck_one 3)]), ([], []), [(.inl 0, 245, ([], [], []))])
set_option maxRecDepth 100000 in
theorem p16x_5538_e : ck_ok p1_O none [] [(132, [p16x_276]), (129, [p16x_5517])] 167 [] 82 p16x_5538 = true := by decide +kernel
theorem p16x_5538_s {X : Int → Int} {LX : Nat} : ck_Ok p1_O X LX 167 p16x_5538 := ck_ok_s (ck_E1 (ck_S1 p16x_276_s ck_S0) (ck_E1 (ck_S1 p16x_5517_s ck_S0) ck_E0)) ck_X0 ck_l0 p16x_5538_e
set_option maxRecDepth 100000 in
def p16x_5539 : ck_Sum := ((8, 1, 6), 245, [.inr (.inr (.inl 1)), .inl (0, 2, none), .inl (300, 2147483647, none), .inl ((-2147483648), (-1), none), .inl (ck_one 0), .inr (.inr (.inl 245))], ([], [], [(3, 0, 0, ck_one 3)]), ([], []), [(.inr (some (.inl (ck_one 2))), 245, ([], [], []))])
set_option maxRecDepth 100000 in
theorem p16x_5539_e : ck_ok p1_O none [] [(167, [p16x_5538])] 166 [] 92 p16x_5539 = true := by decide +kernel
theorem p16x_5539_s {X : Int → Int} {LX : Nat} : ck_Ok p1_O X LX 166 p16x_5539 := ck_ok_s (ck_E1 (ck_S1 p16x_5538_s ck_S0) ck_E0) ck_X0 ck_l0 p16x_5539_e
set_option maxRecDepth 100000 in
def p16x_5541 : ck_Sum := ((7, 1, 6), 245, [.inr (.inr (.inl 1)), .inl (0, 2, none), .inl (300, 2147483647, none), .inl ((-2147483648), (-1), none), .inl (ck_one 1)], ([], [], [(3, 0, 0, ck_one 3)]), ([], []), [(.inl 0, 245, ([], [], []))])
set_option maxRecDepth 100000 in
theorem p16x_5541_e : ck_ok p1_O none [] [(132, [p16x_276]), (129, [p16x_5517])] 167 [] 82 p16x_5541 = true := by decide +kernel
theorem p16x_5541_s {X : Int → Int} {LX : Nat} : ck_Ok p1_O X LX 167 p16x_5541 := ck_ok_s (ck_E1 (ck_S1 p16x_276_s ck_S0) (ck_E1 (ck_S1 p16x_5517_s ck_S0) ck_E0)) ck_X0 ck_l0 p16x_5541_e
set_option maxRecDepth 100000 in
def p16x_5542 : ck_Sum := ((8, 1, 6), 245, [.inr (.inr (.inl 1)), .inl (0, 2, none), .inl (300, 2147483647, none), .inl ((-2147483648), (-1), none), .inl (ck_one 1), .inr (.inr (.inl 245))], ([], [], [(3, 0, 0, ck_one 3)]), ([], []), [(.inr (some (.inl (ck_one 2))), 245, ([], [], []))])
set_option maxRecDepth 100000 in
theorem p16x_5542_e : ck_ok p1_O none [] [(167, [p16x_5541])] 166 [] 92 p16x_5542 = true := by decide +kernel
theorem p16x_5542_s {X : Int → Int} {LX : Nat} : ck_Ok p1_O X LX 166 p16x_5542 := ck_ok_s (ck_E1 (ck_S1 p16x_5541_s ck_S0) ck_E0) ck_X0 ck_l0 p16x_5542_e
set_option maxRecDepth 100000 in
def p16x_5544 : ck_Sum := ((7, 1, 6), 245, [.inr (.inr (.inl 1)), .inl (0, 2, none), .inl (300, 2147483647, none), .inl ((-2147483648), (-1), none), .inl (ck_one 2)], ([], [], [(3, 0, 0, ck_one 3)]), ([], []), [(.inl 0, 245, ([], [], []))])
set_option maxRecDepth 100000 in
theorem p16x_5544_e : ck_ok p1_O none [] [(132, [p16x_276]), (129, [p16x_5517])] 167 [] 82 p16x_5544 = true := by decide +kernel
theorem p16x_5544_s {X : Int → Int} {LX : Nat} : ck_Ok p1_O X LX 167 p16x_5544 := ck_ok_s (ck_E1 (ck_S1 p16x_276_s ck_S0) (ck_E1 (ck_S1 p16x_5517_s ck_S0) ck_E0)) ck_X0 ck_l0 p16x_5544_e
set_option maxRecDepth 100000 in
def p16x_5545 : ck_Sum := ((8, 1, 6), 245, [.inr (.inr (.inl 1)), .inl (0, 2, none), .inl (300, 2147483647, none), .inl ((-2147483648), (-1), none), .inl (ck_one 2), .inr (.inr (.inl 245))], ([], [], [(3, 0, 0, ck_one 3)]), ([], []), [(.inr (some (.inl (ck_one 2))), 245, ([], [], []))])
set_option maxRecDepth 100000 in
theorem p16x_5545_e : ck_ok p1_O none [] [(167, [p16x_5544])] 166 [] 92 p16x_5545 = true := by decide +kernel
theorem p16x_5545_s {X : Int → Int} {LX : Nat} : ck_Ok p1_O X LX 166 p16x_5545 := ck_ok_s (ck_E1 (ck_S1 p16x_5544_s ck_S0) ck_E0) ck_X0 ck_l0 p16x_5545_e
set_option maxRecDepth 100000 in
def p16x_5547 : ck_Sum := ((7, 1, 6), 245, [.inr (.inr (.inl 1)), .inl (0, 2, none), .inl (300, 2147483647, none), .inl ((-2147483648), (-1), none), .inl (3, 2147483647, none)], ([], [], [(3, 0, 0, ck_one 3)]), ([], []), [(.inl 0, 245, ([], [], []))])
set_option maxRecDepth 100000 in
theorem p16x_5547_e : ck_ok p1_O none [] [(132, [p16x_276]), (129, [p16x_5517])] 167 [] 82 p16x_5547 = true := by decide +kernel
theorem p16x_5547_s {X : Int → Int} {LX : Nat} : ck_Ok p1_O X LX 167 p16x_5547 := ck_ok_s (ck_E1 (ck_S1 p16x_276_s ck_S0) (ck_E1 (ck_S1 p16x_5517_s ck_S0) ck_E0)) ck_X0 ck_l0 p16x_5547_e
set_option maxRecDepth 100000 in
def p16x_5548 : ck_Sum := ((8, 1, 6), 245, [.inr (.inr (.inl 1)), .inl (0, 2, none), .inl (300, 2147483647, none), .inl ((-2147483648), (-1), none), .inl (3, 2147483647, none), .inr (.inr (.inl 245))], ([], [], [(3, 0, 0, ck_one 3)]), ([], []), [(.inr (some (.inl (ck_one 2))), 245, ([], [], []))])
set_option maxRecDepth 100000 in
theorem p16x_5548_e : ck_ok p1_O none [] [(167, [p16x_5547])] 166 [] 92 p16x_5548 = true := by decide +kernel
theorem p16x_5548_s {X : Int → Int} {LX : Nat} : ck_Ok p1_O X LX 166 p16x_5548 := ck_ok_s (ck_E1 (ck_S1 p16x_5547_s ck_S0) ck_E0) ck_X0 ck_l0 p16x_5548_e
set_option maxRecDepth 100000 in
def p16x_5550 : ck_Sum := ((7, 1, 6), 245, [.inr (.inr (.inl 1)), .inl (0, 2, none), .inl (300, 2147483647, none), .inl (0, 299, none), .inl ((-2147483648), (-1), none)], ([], [], [(3, 0, 0, ck_one 3)]), ([], []), [(.inl 0, 245, ([], [], []))])
set_option maxRecDepth 100000 in
theorem p16x_5550_e : ck_ok p1_O none [] [(132, [p16x_276]), (129, [p16x_5517])] 167 [] 82 p16x_5550 = true := by decide +kernel
theorem p16x_5550_s {X : Int → Int} {LX : Nat} : ck_Ok p1_O X LX 167 p16x_5550 := ck_ok_s (ck_E1 (ck_S1 p16x_276_s ck_S0) (ck_E1 (ck_S1 p16x_5517_s ck_S0) ck_E0)) ck_X0 ck_l0 p16x_5550_e
set_option maxRecDepth 100000 in
def p16x_5551 : ck_Sum := ((8, 1, 6), 245, [.inr (.inr (.inl 1)), .inl (0, 2, none), .inl (300, 2147483647, none), .inl (0, 299, none), .inl ((-2147483648), (-1), none), .inr (.inr (.inl 245))], ([], [], [(3, 0, 0, ck_one 3)]), ([], []), [(.inr (some (.inl (ck_one 2))), 245, ([], [], []))])
set_option maxRecDepth 100000 in
theorem p16x_5551_e : ck_ok p1_O none [] [(167, [p16x_5550])] 166 [] 92 p16x_5551 = true := by decide +kernel
theorem p16x_5551_s {X : Int → Int} {LX : Nat} : ck_Ok p1_O X LX 166 p16x_5551 := ck_ok_s (ck_E1 (ck_S1 p16x_5550_s ck_S0) ck_E0) ck_X0 ck_l0 p16x_5551_e
set_option maxRecDepth 100000 in
def p16x_5553 : ck_Sum := ((7, 1, 6), 245, [.inr (.inr (.inl 1)), .inl (0, 2, none), .inl (300, 2147483647, none), .inl (0, 299, none), .inl (ck_one 0)], ([], [], [(3, 0, 0, ck_one 3)]), ([], []), [(.inl 0, 245, ([], [], []))])
set_option maxRecDepth 100000 in
theorem p16x_5553_e : ck_ok p1_O none [] [(132, [p16x_276]), (129, [p16x_5517])] 167 [] 82 p16x_5553 = true := by decide +kernel
theorem p16x_5553_s {X : Int → Int} {LX : Nat} : ck_Ok p1_O X LX 167 p16x_5553 := ck_ok_s (ck_E1 (ck_S1 p16x_276_s ck_S0) (ck_E1 (ck_S1 p16x_5517_s ck_S0) ck_E0)) ck_X0 ck_l0 p16x_5553_e
set_option maxRecDepth 100000 in
def p16x_5554 : ck_Sum := ((8, 1, 6), 245, [.inr (.inr (.inl 1)), .inl (0, 2, none), .inl (300, 2147483647, none), .inl (0, 299, none), .inl (ck_one 0), .inr (.inr (.inl 245))], ([], [], [(3, 0, 0, ck_one 3)]), ([], []), [(.inr (some (.inl (ck_one 2))), 245, ([], [], []))])
set_option maxRecDepth 100000 in
theorem p16x_5554_e : ck_ok p1_O none [] [(167, [p16x_5553])] 166 [] 92 p16x_5554 = true := by decide +kernel
theorem p16x_5554_s {X : Int → Int} {LX : Nat} : ck_Ok p1_O X LX 166 p16x_5554 := ck_ok_s (ck_E1 (ck_S1 p16x_5553_s ck_S0) ck_E0) ck_X0 ck_l0 p16x_5554_e
set_option maxRecDepth 100000 in
def p16x_5556 : ck_Sum := ((7, 1, 6), 245, [.inr (.inr (.inl 1)), .inl (0, 2, none), .inl (300, 2147483647, none), .inl (0, 299, none), .inl (ck_one 1)], ([], [], [(3, 0, 0, ck_one 3)]), ([], []), [(.inl 0, 245, ([], [], []))])
set_option maxRecDepth 100000 in
theorem p16x_5556_e : ck_ok p1_O none [] [(132, [p16x_276]), (129, [p16x_5517])] 167 [] 82 p16x_5556 = true := by decide +kernel
theorem p16x_5556_s {X : Int → Int} {LX : Nat} : ck_Ok p1_O X LX 167 p16x_5556 := ck_ok_s (ck_E1 (ck_S1 p16x_276_s ck_S0) (ck_E1 (ck_S1 p16x_5517_s ck_S0) ck_E0)) ck_X0 ck_l0 p16x_5556_e
set_option maxRecDepth 100000 in
def p16x_5557 : ck_Sum := ((8, 1, 6), 245, [.inr (.inr (.inl 1)), .inl (0, 2, none), .inl (300, 2147483647, none), .inl (0, 299, none), .inl (ck_one 1), .inr (.inr (.inl 245))], ([], [], [(3, 0, 0, ck_one 3)]), ([], []), [(.inr (some (.inl (ck_one 2))), 245, ([], [], []))])
set_option maxRecDepth 100000 in
theorem p16x_5557_e : ck_ok p1_O none [] [(167, [p16x_5556])] 166 [] 92 p16x_5557 = true := by decide +kernel
theorem p16x_5557_s {X : Int → Int} {LX : Nat} : ck_Ok p1_O X LX 166 p16x_5557 := ck_ok_s (ck_E1 (ck_S1 p16x_5556_s ck_S0) ck_E0) ck_X0 ck_l0 p16x_5557_e
set_option maxRecDepth 100000 in
def p16x_5559 : ck_Sum := ((7, 1, 6), 245, [.inr (.inr (.inl 1)), .inl (0, 2, none), .inl (300, 2147483647, none), .inl (0, 299, none), .inl (ck_one 2)], ([], [], [(3, 0, 0, ck_one 3)]), ([], []), [(.inl 0, 245, ([], [], []))])
set_option maxRecDepth 100000 in
theorem p16x_5559_e : ck_ok p1_O none [] [(132, [p16x_276]), (129, [p16x_5517])] 167 [] 82 p16x_5559 = true := by decide +kernel
theorem p16x_5559_s {X : Int → Int} {LX : Nat} : ck_Ok p1_O X LX 167 p16x_5559 := ck_ok_s (ck_E1 (ck_S1 p16x_276_s ck_S0) (ck_E1 (ck_S1 p16x_5517_s ck_S0) ck_E0)) ck_X0 ck_l0 p16x_5559_e
set_option maxRecDepth 100000 in
def p16x_5560 : ck_Sum := ((8, 1, 6), 245, [.inr (.inr (.inl 1)), .inl (0, 2, none), .inl (300, 2147483647, none), .inl (0, 299, none), .inl (ck_one 2), .inr (.inr (.inl 245))], ([], [], [(3, 0, 0, ck_one 3)]), ([], []), [(.inr (some (.inl (ck_one 2))), 245, ([], [], []))])
set_option maxRecDepth 100000 in
theorem p16x_5560_e : ck_ok p1_O none [] [(167, [p16x_5559])] 166 [] 92 p16x_5560 = true := by decide +kernel
theorem p16x_5560_s {X : Int → Int} {LX : Nat} : ck_Ok p1_O X LX 166 p16x_5560 := ck_ok_s (ck_E1 (ck_S1 p16x_5559_s ck_S0) ck_E0) ck_X0 ck_l0 p16x_5560_e
set_option maxRecDepth 100000 in
def p16x_5562 : ck_Sum := ((7, 1, 6), 245, [.inr (.inr (.inl 1)), .inl (0, 2, none), .inl (300, 2147483647, none), .inl (0, 299, none), .inl (3, 2147483647, none)], ([], [], [(3, 0, 0, ck_one 3)]), ([], []), [(.inl 0, 245, ([], [], []))])
set_option maxRecDepth 100000 in
theorem p16x_5562_e : ck_ok p1_O none [] [(132, [p16x_276]), (129, [p16x_5517])] 167 [] 82 p16x_5562 = true := by decide +kernel
theorem p16x_5562_s {X : Int → Int} {LX : Nat} : ck_Ok p1_O X LX 167 p16x_5562 := ck_ok_s (ck_E1 (ck_S1 p16x_276_s ck_S0) (ck_E1 (ck_S1 p16x_5517_s ck_S0) ck_E0)) ck_X0 ck_l0 p16x_5562_e
set_option maxRecDepth 100000 in
def p16x_5563 : ck_Sum := ((8, 1, 6), 245, [.inr (.inr (.inl 1)), .inl (0, 2, none), .inl (300, 2147483647, none), .inl (0, 299, none), .inl (3, 2147483647, none), .inr (.inr (.inl 245))], ([], [], [(3, 0, 0, ck_one 3)]), ([], []), [(.inr (some (.inl (ck_one 2))), 245, ([], [], []))])
set_option maxRecDepth 100000 in
theorem p16x_5563_e : ck_ok p1_O none [] [(167, [p16x_5562])] 166 [] 92 p16x_5563 = true := by decide +kernel
theorem p16x_5563_s {X : Int → Int} {LX : Nat} : ck_Ok p1_O X LX 166 p16x_5563 := ck_ok_s (ck_E1 (ck_S1 p16x_5562_s ck_S0) ck_E0) ck_X0 ck_l0 p16x_5563_e
set_option maxRecDepth 100000 in
def p16x_5565 : ck_Sum := ((7, 1, 6), 245, [.inr (.inr (.inl 1)), .inl (0, 2, none), .inl (300, 2147483647, none), .inl (300, 2147483647, none), .inl ((-2147483648), (-1), none)], ([], [], [(3, 0, 0, ck_one 3)]), ([], []), [(.inl 0, 245, ([], [], []))])
set_option maxRecDepth 100000 in
theorem p16x_5565_e : ck_ok p1_O none [] [(132, [p16x_276]), (129, [p16x_5517])] 167 [] 82 p16x_5565 = true := by decide +kernel
theorem p16x_5565_s {X : Int → Int} {LX : Nat} : ck_Ok p1_O X LX 167 p16x_5565 := ck_ok_s (ck_E1 (ck_S1 p16x_276_s ck_S0) (ck_E1 (ck_S1 p16x_5517_s ck_S0) ck_E0)) ck_X0 ck_l0 p16x_5565_e
set_option maxRecDepth 100000 in
def p16x_5566 : ck_Sum := ((8, 1, 6), 245, [.inr (.inr (.inl 1)), .inl (0, 2, none), .inl (300, 2147483647, none), .inl (300, 2147483647, none), .inl ((-2147483648), (-1), none), .inr (.inr (.inl 245))], ([], [], [(3, 0, 0, ck_one 3)]), ([], []), [(.inr (some (.inl (ck_one 2))), 245, ([], [], []))])
set_option maxRecDepth 100000 in
theorem p16x_5566_e : ck_ok p1_O none [] [(167, [p16x_5565])] 166 [] 92 p16x_5566 = true := by decide +kernel
theorem p16x_5566_s {X : Int → Int} {LX : Nat} : ck_Ok p1_O X LX 166 p16x_5566 := ck_ok_s (ck_E1 (ck_S1 p16x_5565_s ck_S0) ck_E0) ck_X0 ck_l0 p16x_5566_e
set_option maxRecDepth 100000 in
def p16x_5568 : ck_Sum := ((7, 1, 6), 245, [.inr (.inr (.inl 1)), .inl (0, 2, none), .inl (300, 2147483647, none), .inl (300, 2147483647, none), .inl (ck_one 0)], ([], [], [(3, 0, 0, ck_one 3)]), ([], []), [(.inl 0, 245, ([], [], []))])
set_option maxRecDepth 100000 in
theorem p16x_5568_e : ck_ok p1_O none [] [(132, [p16x_276]), (129, [p16x_5517])] 167 [] 82 p16x_5568 = true := by decide +kernel
theorem p16x_5568_s {X : Int → Int} {LX : Nat} : ck_Ok p1_O X LX 167 p16x_5568 := ck_ok_s (ck_E1 (ck_S1 p16x_276_s ck_S0) (ck_E1 (ck_S1 p16x_5517_s ck_S0) ck_E0)) ck_X0 ck_l0 p16x_5568_e
set_option maxRecDepth 100000 in
def p16x_5569 : ck_Sum := ((8, 1, 6), 245, [.inr (.inr (.inl 1)), .inl (0, 2, none), .inl (300, 2147483647, none), .inl (300, 2147483647, none), .inl (ck_one 0), .inr (.inr (.inl 245))], ([], [], [(3, 0, 0, ck_one 3)]), ([], []), [(.inr (some (.inl (ck_one 2))), 245, ([], [], []))])
set_option maxRecDepth 100000 in
theorem p16x_5569_e : ck_ok p1_O none [] [(167, [p16x_5568])] 166 [] 92 p16x_5569 = true := by decide +kernel
theorem p16x_5569_s {X : Int → Int} {LX : Nat} : ck_Ok p1_O X LX 166 p16x_5569 := ck_ok_s (ck_E1 (ck_S1 p16x_5568_s ck_S0) ck_E0) ck_X0 ck_l0 p16x_5569_e
set_option maxRecDepth 100000 in
def p16x_5571 : ck_Sum := ((7, 1, 6), 245, [.inr (.inr (.inl 1)), .inl (0, 2, none), .inl (300, 2147483647, none), .inl (300, 2147483647, none), .inl (ck_one 1)], ([], [], [(3, 0, 0, ck_one 3)]), ([], []), [(.inl 0, 245, ([], [], []))])
set_option maxRecDepth 100000 in
theorem p16x_5571_e : ck_ok p1_O none [] [(132, [p16x_276]), (129, [p16x_5517])] 167 [] 82 p16x_5571 = true := by decide +kernel
theorem p16x_5571_s {X : Int → Int} {LX : Nat} : ck_Ok p1_O X LX 167 p16x_5571 := ck_ok_s (ck_E1 (ck_S1 p16x_276_s ck_S0) (ck_E1 (ck_S1 p16x_5517_s ck_S0) ck_E0)) ck_X0 ck_l0 p16x_5571_e
set_option maxRecDepth 100000 in
def p16x_5572 : ck_Sum := ((8, 1, 6), 245, [.inr (.inr (.inl 1)), .inl (0, 2, none), .inl (300, 2147483647, none), .inl (300, 2147483647, none), .inl (ck_one 1), .inr (.inr (.inl 245))], ([], [], [(3, 0, 0, ck_one 3)]), ([], []), [(.inr (some (.inl (ck_one 2))), 245, ([], [], []))])
set_option maxRecDepth 100000 in
theorem p16x_5572_e : ck_ok p1_O none [] [(167, [p16x_5571])] 166 [] 92 p16x_5572 = true := by decide +kernel
theorem p16x_5572_s {X : Int → Int} {LX : Nat} : ck_Ok p1_O X LX 166 p16x_5572 := ck_ok_s (ck_E1 (ck_S1 p16x_5571_s ck_S0) ck_E0) ck_X0 ck_l0 p16x_5572_e
set_option maxRecDepth 100000 in
def p16x_5574 : ck_Sum := ((7, 1, 6), 245, [.inr (.inr (.inl 1)), .inl (0, 2, none), .inl (300, 2147483647, none), .inl (300, 2147483647, none), .inl (ck_one 2)], ([], [], [(3, 0, 0, ck_one 3)]), ([], []), [(.inl 0, 245, ([], [], []))])
set_option maxRecDepth 100000 in
theorem p16x_5574_e : ck_ok p1_O none [] [(132, [p16x_276]), (129, [p16x_5517])] 167 [] 82 p16x_5574 = true := by decide +kernel
theorem p16x_5574_s {X : Int → Int} {LX : Nat} : ck_Ok p1_O X LX 167 p16x_5574 := ck_ok_s (ck_E1 (ck_S1 p16x_276_s ck_S0) (ck_E1 (ck_S1 p16x_5517_s ck_S0) ck_E0)) ck_X0 ck_l0 p16x_5574_e
set_option maxRecDepth 100000 in
def p16x_5575 : ck_Sum := ((8, 1, 6), 245, [.inr (.inr (.inl 1)), .inl (0, 2, none), .inl (300, 2147483647, none), .inl (300, 2147483647, none), .inl (ck_one 2), .inr (.inr (.inl 245))], ([], [], [(3, 0, 0, ck_one 3)]), ([], []), [(.inr (some (.inl (ck_one 2))), 245, ([], [], []))])
set_option maxRecDepth 100000 in
theorem p16x_5575_e : ck_ok p1_O none [] [(167, [p16x_5574])] 166 [] 92 p16x_5575 = true := by decide +kernel
theorem p16x_5575_s {X : Int → Int} {LX : Nat} : ck_Ok p1_O X LX 166 p16x_5575 := ck_ok_s (ck_E1 (ck_S1 p16x_5574_s ck_S0) ck_E0) ck_X0 ck_l0 p16x_5575_e
set_option maxRecDepth 100000 in
def p16x_5577 : ck_Sum := ((7, 1, 6), 245, [.inr (.inr (.inl 1)), .inl (0, 2, none), .inl (300, 2147483647, none), .inl (300, 2147483647, none), .inl (3, 2147483647, none)], ([], [], [(3, 0, 0, ck_one 3)]), ([], []), [(.inl 0, 245, ([], [], []))])
set_option maxRecDepth 100000 in
theorem p16x_5577_e : ck_ok p1_O none [] [(132, [p16x_276]), (129, [p16x_5517])] 167 [] 82 p16x_5577 = true := by decide +kernel
theorem p16x_5577_s {X : Int → Int} {LX : Nat} : ck_Ok p1_O X LX 167 p16x_5577 := ck_ok_s (ck_E1 (ck_S1 p16x_276_s ck_S0) (ck_E1 (ck_S1 p16x_5517_s ck_S0) ck_E0)) ck_X0 ck_l0 p16x_5577_e
set_option maxRecDepth 100000 in
def p16x_5578 : ck_Sum := ((8, 1, 6), 245, [.inr (.inr (.inl 1)), .inl (0, 2, none), .inl (300, 2147483647, none), .inl (300, 2147483647, none), .inl (3, 2147483647, none), .inr (.inr (.inl 245))], ([], [], [(3, 0, 0, ck_one 3)]), ([], []), [(.inr (some (.inl (ck_one 2))), 245, ([], [], []))])
set_option maxRecDepth 100000 in
theorem p16x_5578_e : ck_ok p1_O none [] [(167, [p16x_5577])] 166 [] 92 p16x_5578 = true := by decide +kernel
theorem p16x_5578_s {X : Int → Int} {LX : Nat} : ck_Ok p1_O X LX 166 p16x_5578 := ck_ok_s (ck_E1 (ck_S1 p16x_5577_s ck_S0) ck_E0) ck_X0 ck_l0 p16x_5578_e
set_option maxRecDepth 100000 in
def p16x_5580 : ck_Sum := ((6, 1, 6), 245, [.inr (.inr (.inl 1)), .inl (3, 2147483647, none), .inl (ck_one 3)], ([], [], []), ([], []), [(.inl 3, 245, ([], [], []))])
set_option maxRecDepth 100000 in
theorem p16x_5580_e : ck_ok p1_O none [] [] 133 [] 82 p16x_5580 = true := by decide +kernel
theorem p16x_5580_s {X : Int → Int} {LX : Nat} : ck_Ok p1_O X LX 133 p16x_5580 := ck_ok_s (ck_E0) ck_X0 ck_l0 p16x_5580_e
set_option maxRecDepth 100000 in
def p16x_5581 : ck_Sum := ((7, 1, 6), 245, [.inr (.inr (.inl 1)), .inl (3, 2147483647, none)], ([], [], [(3, 0, 0, ck_one 3)]), ([], []), [(.inl 3, 245, ([], [], []))])
set_option maxRecDepth 100000 in
theorem p16x_5581_e : ck_ok p1_O none [] [(133, [p16x_5580])] 132 [] 82 p16x_5581 = true := by decide +kernel
theorem p16x_5581_s {X : Int → Int} {LX : Nat} : ck_Ok p1_O X LX 132 p16x_5581 := ck_ok_s (ck_E1 (ck_S1 p16x_5580_s ck_S0) ck_E0) ck_X0 ck_l0 p16x_5581_e
set_option maxRecDepth 100000 in
def p16x_5582 : ck_Sum := ((8, 1, 6), 245, [.inr (.inr (.inl 1)), .inl (3, 2147483647, none), .inl ((-2147483648), (-1), none), .inl ((-2147483648), (-1), none), .inl ((-2147483648), (-1), none)], ([], [], [(3, 0, 0, ck_one 3)]), ([], []), [(.inl 3, 245, ([], [], []))])
set_option maxRecDepth 100000 in
theorem p16x_5582_e : ck_ok p1_O none [] [(132, [p16x_5581])] 167 [] 76 p16x_5582 = true := by decide +kernel
theorem p16x_5582_s {X : Int → Int} {LX : Nat} : ck_Ok p1_O X LX 167 p16x_5582 := ck_ok_s (ck_E1 (ck_S1 p16x_5581_s ck_S0) ck_E0) ck_X0 ck_l0 p16x_5582_e
set_option maxRecDepth 100000 in
def p16x_5583 : ck_Sum := ((9, 1, 6), 245, [.inr (.inr (.inl 1)), .inl (3, 2147483647, none), .inl ((-2147483648), (-1), none), .inl ((-2147483648), (-1), none), .inl ((-2147483648), (-1), none), .inr (.inr (.inl 245))], ([], [], [(3, 0, 0, ck_one 3)]), ([], []), [(.inr (some (.inl (ck_one 1))), 245, ([], [], []))])
set_option maxRecDepth 100000 in
theorem p16x_5583_e : ck_ok p1_O none [] [(167, [p16x_5582])] 166 [] 92 p16x_5583 = true := by decide +kernel
theorem p16x_5583_s {X : Int → Int} {LX : Nat} : ck_Ok p1_O X LX 166 p16x_5583 := ck_ok_s (ck_E1 (ck_S1 p16x_5582_s ck_S0) ck_E0) ck_X0 ck_l0 p16x_5583_e
set_option maxRecDepth 100000 in
def p16x_5586 : ck_Sum := ((8, 1, 6), 245, [.inr (.inr (.inl 1)), .inl (3, 2147483647, none), .inl ((-2147483648), (-1), none), .inl ((-2147483648), (-1), none), .inl (ck_one 0)], ([], [], [(3, 0, 0, ck_one 3)]), ([], []), [(.inl 3, 245, ([], [], []))])
set_option maxRecDepth 100000 in
theorem p16x_5586_e : ck_ok p1_O none [] [(132, [p16x_5581])] 167 [] 76 p16x_5586 = true := by decide +kernel
theorem p16x_5586_s {X : Int → Int} {LX : Nat} : ck_Ok p1_O X LX 167 p16x_5586 := ck_ok_s (ck_E1 (ck_S1 p16x_5581_s ck_S0) ck_E0) ck_X0 ck_l0 p16x_5586_e
set_option maxRecDepth 100000 in
def p16x_5587 : ck_Sum := ((9, 1, 6), 245, [.inr (.inr (.inl 1)), .inl (3, 2147483647, none), .inl ((-2147483648), (-1), none), .inl ((-2147483648), (-1), none), .inl (ck_one 0), .inr (.inr (.inl 245))], ([], [], [(3, 0, 0, ck_one 3)]), ([], []), [(.inr (some (.inl (ck_one 1))), 245, ([], [], []))])
set_option maxRecDepth 100000 in
theorem p16x_5587_e : ck_ok p1_O none [] [(167, [p16x_5586])] 166 [] 92 p16x_5587 = true := by decide +kernel
theorem p16x_5587_s {X : Int → Int} {LX : Nat} : ck_Ok p1_O X LX 166 p16x_5587 := ck_ok_s (ck_E1 (ck_S1 p16x_5586_s ck_S0) ck_E0) ck_X0 ck_l0 p16x_5587_e
set_option maxRecDepth 100000 in
def p16x_5589 : ck_Sum := ((8, 1, 6), 245, [.inr (.inr (.inl 1)), .inl (3, 2147483647, none), .inl ((-2147483648), (-1), none), .inl ((-2147483648), (-1), none), .inl (ck_one 1)], ([], [], [(3, 0, 0, ck_one 3)]), ([], []), [(.inl 3, 245, ([], [], []))])
set_option maxRecDepth 100000 in
theorem p16x_5589_e : ck_ok p1_O none [] [(132, [p16x_5581])] 167 [] 76 p16x_5589 = true := by decide +kernel
theorem p16x_5589_s {X : Int → Int} {LX : Nat} : ck_Ok p1_O X LX 167 p16x_5589 := ck_ok_s (ck_E1 (ck_S1 p16x_5581_s ck_S0) ck_E0) ck_X0 ck_l0 p16x_5589_e
set_option maxRecDepth 100000 in
def p16x_5590 : ck_Sum := ((9, 1, 6), 245, [.inr (.inr (.inl 1)), .inl (3, 2147483647, none), .inl ((-2147483648), (-1), none), .inl ((-2147483648), (-1), none), .inl (ck_one 1), .inr (.inr (.inl 245))], ([], [], [(3, 0, 0, ck_one 3)]), ([], []), [(.inr (some (.inl (ck_one 1))), 245, ([], [], []))])
set_option maxRecDepth 100000 in
theorem p16x_5590_e : ck_ok p1_O none [] [(167, [p16x_5589])] 166 [] 92 p16x_5590 = true := by decide +kernel
theorem p16x_5590_s {X : Int → Int} {LX : Nat} : ck_Ok p1_O X LX 166 p16x_5590 := ck_ok_s (ck_E1 (ck_S1 p16x_5589_s ck_S0) ck_E0) ck_X0 ck_l0 p16x_5590_e
set_option maxRecDepth 100000 in
def p16x_5592 : ck_Sum := ((8, 1, 6), 245, [.inr (.inr (.inl 1)), .inl (3, 2147483647, none), .inl ((-2147483648), (-1), none), .inl ((-2147483648), (-1), none), .inl (ck_one 2)], ([], [], [(3, 0, 0, ck_one 3)]), ([], []), [(.inl 3, 245, ([], [], []))])
set_option maxRecDepth 100000 in
theorem p16x_5592_e : ck_ok p1_O none [] [(132, [p16x_5581])] 167 [] 76 p16x_5592 = true := by decide +kernel
theorem p16x_5592_s {X : Int → Int} {LX : Nat} : ck_Ok p1_O X LX 167 p16x_5592 := ck_ok_s (ck_E1 (ck_S1 p16x_5581_s ck_S0) ck_E0) ck_X0 ck_l0 p16x_5592_e
set_option maxRecDepth 100000 in
def p16x_5593 : ck_Sum := ((9, 1, 6), 245, [.inr (.inr (.inl 1)), .inl (3, 2147483647, none), .inl ((-2147483648), (-1), none), .inl ((-2147483648), (-1), none), .inl (ck_one 2), .inr (.inr (.inl 245))], ([], [], [(3, 0, 0, ck_one 3)]), ([], []), [(.inr (some (.inl (ck_one 1))), 245, ([], [], []))])
set_option maxRecDepth 100000 in
theorem p16x_5593_e : ck_ok p1_O none [] [(167, [p16x_5592])] 166 [] 92 p16x_5593 = true := by decide +kernel
theorem p16x_5593_s {X : Int → Int} {LX : Nat} : ck_Ok p1_O X LX 166 p16x_5593 := ck_ok_s (ck_E1 (ck_S1 p16x_5592_s ck_S0) ck_E0) ck_X0 ck_l0 p16x_5593_e
set_option maxRecDepth 100000 in
def p16x_5595 : ck_Sum := ((8, 1, 6), 245, [.inr (.inr (.inl 1)), .inl (3, 2147483647, none), .inl ((-2147483648), (-1), none), .inl ((-2147483648), (-1), none), .inl (3, 2147483647, none)], ([], [], [(3, 0, 0, ck_one 3)]), ([], []), [(.inl 3, 245, ([], [], []))])
set_option maxRecDepth 100000 in
theorem p16x_5595_e : ck_ok p1_O none [] [(132, [p16x_5581])] 167 [] 76 p16x_5595 = true := by decide +kernel
theorem p16x_5595_s {X : Int → Int} {LX : Nat} : ck_Ok p1_O X LX 167 p16x_5595 := ck_ok_s (ck_E1 (ck_S1 p16x_5581_s ck_S0) ck_E0) ck_X0 ck_l0 p16x_5595_e
set_option maxRecDepth 100000 in
def p16x_5596 : ck_Sum := ((9, 1, 6), 245, [.inr (.inr (.inl 1)), .inl (3, 2147483647, none), .inl ((-2147483648), (-1), none), .inl ((-2147483648), (-1), none), .inl (3, 2147483647, none), .inr (.inr (.inl 245))], ([], [], [(3, 0, 0, ck_one 3)]), ([], []), [(.inr (some (.inl (ck_one 1))), 245, ([], [], []))])
set_option maxRecDepth 100000 in
theorem p16x_5596_e : ck_ok p1_O none [] [(167, [p16x_5595])] 166 [] 92 p16x_5596 = true := by decide +kernel
theorem p16x_5596_s {X : Int → Int} {LX : Nat} : ck_Ok p1_O X LX 166 p16x_5596 := ck_ok_s (ck_E1 (ck_S1 p16x_5595_s ck_S0) ck_E0) ck_X0 ck_l0 p16x_5596_e
set_option maxRecDepth 100000 in
def p16x_5598 : ck_Sum := ((8, 1, 6), 245, [.inr (.inr (.inl 1)), .inl (3, 2147483647, none), .inl ((-2147483648), (-1), none), .inl (0, 299, none), .inl ((-2147483648), (-1), none)], ([], [], [(3, 0, 0, ck_one 3)]), ([], []), [(.inl 3, 245, ([], [], []))])
set_option maxRecDepth 100000 in
theorem p16x_5598_e : ck_ok p1_O none [] [(132, [p16x_5581])] 167 [] 76 p16x_5598 = true := by decide +kernel
theorem p16x_5598_s {X : Int → Int} {LX : Nat} : ck_Ok p1_O X LX 167 p16x_5598 := ck_ok_s (ck_E1 (ck_S1 p16x_5581_s ck_S0) ck_E0) ck_X0 ck_l0 p16x_5598_e
set_option maxRecDepth 100000 in
def p16x_5599 : ck_Sum := ((9, 1, 6), 245, [.inr (.inr (.inl 1)), .inl (3, 2147483647, none), .inl ((-2147483648), (-1), none), .inl (0, 299, none), .inl ((-2147483648), (-1), none), .inr (.inr (.inl 245))], ([], [], [(3, 0, 0, ck_one 3)]), ([], []), [(.inr (some (.inl (ck_one 1))), 245, ([], [], []))])
set_option maxRecDepth 100000 in
theorem p16x_5599_e : ck_ok p1_O none [] [(167, [p16x_5598])] 166 [] 92 p16x_5599 = true := by decide +kernel
theorem p16x_5599_s {X : Int → Int} {LX : Nat} : ck_Ok p1_O X LX 166 p16x_5599 := ck_ok_s (ck_E1 (ck_S1 p16x_5598_s ck_S0) ck_E0) ck_X0 ck_l0 p16x_5599_e
set_option maxRecDepth 100000 in
def p16x_5601 : ck_Sum := ((8, 1, 6), 245, [.inr (.inr (.inl 1)), .inl (3, 2147483647, none), .inl ((-2147483648), (-1), none), .inl (0, 299, none), .inl (ck_one 0)], ([], [], [(3, 0, 0, ck_one 3)]), ([], []), [(.inl 3, 245, ([], [], []))])
set_option maxRecDepth 100000 in
theorem p16x_5601_e : ck_ok p1_O none [] [(132, [p16x_5581])] 167 [] 76 p16x_5601 = true := by decide +kernel
theorem p16x_5601_s {X : Int → Int} {LX : Nat} : ck_Ok p1_O X LX 167 p16x_5601 := ck_ok_s (ck_E1 (ck_S1 p16x_5581_s ck_S0) ck_E0) ck_X0 ck_l0 p16x_5601_e
set_option maxRecDepth 100000 in
def p16x_5602 : ck_Sum := ((9, 1, 6), 245, [.inr (.inr (.inl 1)), .inl (3, 2147483647, none), .inl ((-2147483648), (-1), none), .inl (0, 299, none), .inl (ck_one 0), .inr (.inr (.inl 245))], ([], [], [(3, 0, 0, ck_one 3)]), ([], []), [(.inr (some (.inl (ck_one 1))), 245, ([], [], []))])
set_option maxRecDepth 100000 in
theorem p16x_5602_e : ck_ok p1_O none [] [(167, [p16x_5601])] 166 [] 92 p16x_5602 = true := by decide +kernel
theorem p16x_5602_s {X : Int → Int} {LX : Nat} : ck_Ok p1_O X LX 166 p16x_5602 := ck_ok_s (ck_E1 (ck_S1 p16x_5601_s ck_S0) ck_E0) ck_X0 ck_l0 p16x_5602_e
set_option maxRecDepth 100000 in
def p16x_5604 : ck_Sum := ((8, 1, 6), 245, [.inr (.inr (.inl 1)), .inl (3, 2147483647, none), .inl ((-2147483648), (-1), none), .inl (0, 299, none), .inl (ck_one 1)], ([], [], [(3, 0, 0, ck_one 3)]), ([], []), [(.inl 3, 245, ([], [], []))])
set_option maxRecDepth 100000 in
theorem p16x_5604_e : ck_ok p1_O none [] [(132, [p16x_5581])] 167 [] 76 p16x_5604 = true := by decide +kernel
theorem p16x_5604_s {X : Int → Int} {LX : Nat} : ck_Ok p1_O X LX 167 p16x_5604 := ck_ok_s (ck_E1 (ck_S1 p16x_5581_s ck_S0) ck_E0) ck_X0 ck_l0 p16x_5604_e
set_option maxRecDepth 100000 in
def p16x_5605 : ck_Sum := ((9, 1, 6), 245, [.inr (.inr (.inl 1)), .inl (3, 2147483647, none), .inl ((-2147483648), (-1), none), .inl (0, 299, none), .inl (ck_one 1), .inr (.inr (.inl 245))], ([], [], [(3, 0, 0, ck_one 3)]), ([], []), [(.inr (some (.inl (ck_one 1))), 245, ([], [], []))])
set_option maxRecDepth 100000 in
theorem p16x_5605_e : ck_ok p1_O none [] [(167, [p16x_5604])] 166 [] 92 p16x_5605 = true := by decide +kernel
theorem p16x_5605_s {X : Int → Int} {LX : Nat} : ck_Ok p1_O X LX 166 p16x_5605 := ck_ok_s (ck_E1 (ck_S1 p16x_5604_s ck_S0) ck_E0) ck_X0 ck_l0 p16x_5605_e
set_option maxRecDepth 100000 in
def p16x_5607 : ck_Sum := ((8, 1, 6), 245, [.inr (.inr (.inl 1)), .inl (3, 2147483647, none), .inl ((-2147483648), (-1), none), .inl (0, 299, none), .inl (ck_one 2)], ([], [], [(3, 0, 0, ck_one 3)]), ([], []), [(.inl 3, 245, ([], [], []))])
set_option maxRecDepth 100000 in
theorem p16x_5607_e : ck_ok p1_O none [] [(132, [p16x_5581])] 167 [] 76 p16x_5607 = true := by decide +kernel
theorem p16x_5607_s {X : Int → Int} {LX : Nat} : ck_Ok p1_O X LX 167 p16x_5607 := ck_ok_s (ck_E1 (ck_S1 p16x_5581_s ck_S0) ck_E0) ck_X0 ck_l0 p16x_5607_e
set_option maxRecDepth 100000 in
def p16x_5608 : ck_Sum := ((9, 1, 6), 245, [.inr (.inr (.inl 1)), .inl (3, 2147483647, none), .inl ((-2147483648), (-1), none), .inl (0, 299, none), .inl (ck_one 2), .inr (.inr (.inl 245))], ([], [], [(3, 0, 0, ck_one 3)]), ([], []), [(.inr (some (.inl (ck_one 1))), 245, ([], [], []))])
set_option maxRecDepth 100000 in
theorem p16x_5608_e : ck_ok p1_O none [] [(167, [p16x_5607])] 166 [] 92 p16x_5608 = true := by decide +kernel
theorem p16x_5608_s {X : Int → Int} {LX : Nat} : ck_Ok p1_O X LX 166 p16x_5608 := ck_ok_s (ck_E1 (ck_S1 p16x_5607_s ck_S0) ck_E0) ck_X0 ck_l0 p16x_5608_e
set_option maxRecDepth 100000 in
def p16x_5610 : ck_Sum := ((8, 1, 6), 245, [.inr (.inr (.inl 1)), .inl (3, 2147483647, none), .inl ((-2147483648), (-1), none), .inl (0, 299, none), .inl (3, 2147483647, none)], ([], [], [(3, 0, 0, ck_one 3)]), ([], []), [(.inl 3, 245, ([], [], []))])
set_option maxRecDepth 100000 in
theorem p16x_5610_e : ck_ok p1_O none [] [(132, [p16x_5581])] 167 [] 76 p16x_5610 = true := by decide +kernel
theorem p16x_5610_s {X : Int → Int} {LX : Nat} : ck_Ok p1_O X LX 167 p16x_5610 := ck_ok_s (ck_E1 (ck_S1 p16x_5581_s ck_S0) ck_E0) ck_X0 ck_l0 p16x_5610_e
set_option maxRecDepth 100000 in
def p16x_5611 : ck_Sum := ((9, 1, 6), 245, [.inr (.inr (.inl 1)), .inl (3, 2147483647, none), .inl ((-2147483648), (-1), none), .inl (0, 299, none), .inl (3, 2147483647, none), .inr (.inr (.inl 245))], ([], [], [(3, 0, 0, ck_one 3)]), ([], []), [(.inr (some (.inl (ck_one 1))), 245, ([], [], []))])
set_option maxRecDepth 100000 in
theorem p16x_5611_e : ck_ok p1_O none [] [(167, [p16x_5610])] 166 [] 92 p16x_5611 = true := by decide +kernel
theorem p16x_5611_s {X : Int → Int} {LX : Nat} : ck_Ok p1_O X LX 166 p16x_5611 := ck_ok_s (ck_E1 (ck_S1 p16x_5610_s ck_S0) ck_E0) ck_X0 ck_l0 p16x_5611_e
set_option maxRecDepth 100000 in
def p16x_5613 : ck_Sum := ((8, 1, 6), 245, [.inr (.inr (.inl 1)), .inl (3, 2147483647, none), .inl ((-2147483648), (-1), none), .inl (300, 2147483647, none), .inl ((-2147483648), (-1), none)], ([], [], [(3, 0, 0, ck_one 3)]), ([], []), [(.inl 3, 245, ([], [], []))])
set_option maxRecDepth 100000 in
theorem p16x_5613_e : ck_ok p1_O none [] [(132, [p16x_5581])] 167 [] 76 p16x_5613 = true := by decide +kernel
theorem p16x_5613_s {X : Int → Int} {LX : Nat} : ck_Ok p1_O X LX 167 p16x_5613 := ck_ok_s (ck_E1 (ck_S1 p16x_5581_s ck_S0) ck_E0) ck_X0 ck_l0 p16x_5613_e
set_option maxRecDepth 100000 in
def p16x_5614 : ck_Sum := ((9, 1, 6), 245, [.inr (.inr (.inl 1)), .inl (3, 2147483647, none), .inl ((-2147483648), (-1), none), .inl (300, 2147483647, none), .inl ((-2147483648), (-1), none), .inr (.inr (.inl 245))], ([], [], [(3, 0, 0, ck_one 3)]), ([], []), [(.inr (some (.inl (ck_one 1))), 245, ([], [], []))])
set_option maxRecDepth 100000 in
theorem p16x_5614_e : ck_ok p1_O none [] [(167, [p16x_5613])] 166 [] 92 p16x_5614 = true := by decide +kernel
theorem p16x_5614_s {X : Int → Int} {LX : Nat} : ck_Ok p1_O X LX 166 p16x_5614 := ck_ok_s (ck_E1 (ck_S1 p16x_5613_s ck_S0) ck_E0) ck_X0 ck_l0 p16x_5614_e
set_option maxRecDepth 100000 in
def p16x_5616 : ck_Sum := ((8, 1, 6), 245, [.inr (.inr (.inl 1)), .inl (3, 2147483647, none), .inl ((-2147483648), (-1), none), .inl (300, 2147483647, none), .inl (ck_one 0)], ([], [], [(3, 0, 0, ck_one 3)]), ([], []), [(.inl 3, 245, ([], [], []))])
set_option maxRecDepth 100000 in
theorem p16x_5616_e : ck_ok p1_O none [] [(132, [p16x_5581])] 167 [] 76 p16x_5616 = true := by decide +kernel
theorem p16x_5616_s {X : Int → Int} {LX : Nat} : ck_Ok p1_O X LX 167 p16x_5616 := ck_ok_s (ck_E1 (ck_S1 p16x_5581_s ck_S0) ck_E0) ck_X0 ck_l0 p16x_5616_e
set_option maxRecDepth 100000 in
def p16x_5617 : ck_Sum := ((9, 1, 6), 245, [.inr (.inr (.inl 1)), .inl (3, 2147483647, none), .inl ((-2147483648), (-1), none), .inl (300, 2147483647, none), .inl (ck_one 0), .inr (.inr (.inl 245))], ([], [], [(3, 0, 0, ck_one 3)]), ([], []), [(.inr (some (.inl (ck_one 1))), 245, ([], [], []))])
set_option maxRecDepth 100000 in
theorem p16x_5617_e : ck_ok p1_O none [] [(167, [p16x_5616])] 166 [] 92 p16x_5617 = true := by decide +kernel
theorem p16x_5617_s {X : Int → Int} {LX : Nat} : ck_Ok p1_O X LX 166 p16x_5617 := ck_ok_s (ck_E1 (ck_S1 p16x_5616_s ck_S0) ck_E0) ck_X0 ck_l0 p16x_5617_e
set_option maxRecDepth 100000 in
def p16x_5619 : ck_Sum := ((8, 1, 6), 245, [.inr (.inr (.inl 1)), .inl (3, 2147483647, none), .inl ((-2147483648), (-1), none), .inl (300, 2147483647, none), .inl (ck_one 1)], ([], [], [(3, 0, 0, ck_one 3)]), ([], []), [(.inl 3, 245, ([], [], []))])
set_option maxRecDepth 100000 in
theorem p16x_5619_e : ck_ok p1_O none [] [(132, [p16x_5581])] 167 [] 76 p16x_5619 = true := by decide +kernel
theorem p16x_5619_s {X : Int → Int} {LX : Nat} : ck_Ok p1_O X LX 167 p16x_5619 := ck_ok_s (ck_E1 (ck_S1 p16x_5581_s ck_S0) ck_E0) ck_X0 ck_l0 p16x_5619_e
set_option maxRecDepth 100000 in
def p16x_5620 : ck_Sum := ((9, 1, 6), 245, [.inr (.inr (.inl 1)), .inl (3, 2147483647, none), .inl ((-2147483648), (-1), none), .inl (300, 2147483647, none), .inl (ck_one 1), .inr (.inr (.inl 245))], ([], [], [(3, 0, 0, ck_one 3)]), ([], []), [(.inr (some (.inl (ck_one 1))), 245, ([], [], []))])
set_option maxRecDepth 100000 in
theorem p16x_5620_e : ck_ok p1_O none [] [(167, [p16x_5619])] 166 [] 92 p16x_5620 = true := by decide +kernel
theorem p16x_5620_s {X : Int → Int} {LX : Nat} : ck_Ok p1_O X LX 166 p16x_5620 := ck_ok_s (ck_E1 (ck_S1 p16x_5619_s ck_S0) ck_E0) ck_X0 ck_l0 p16x_5620_e
set_option maxRecDepth 100000 in
def p16x_5622 : ck_Sum := ((8, 1, 6), 245, [.inr (.inr (.inl 1)), .inl (3, 2147483647, none), .inl ((-2147483648), (-1), none), .inl (300, 2147483647, none), .inl (ck_one 2)], ([], [], [(3, 0, 0, ck_one 3)]), ([], []), [(.inl 3, 245, ([], [], []))])
set_option maxRecDepth 100000 in
theorem p16x_5622_e : ck_ok p1_O none [] [(132, [p16x_5581])] 167 [] 76 p16x_5622 = true := by decide +kernel
theorem p16x_5622_s {X : Int → Int} {LX : Nat} : ck_Ok p1_O X LX 167 p16x_5622 := ck_ok_s (ck_E1 (ck_S1 p16x_5581_s ck_S0) ck_E0) ck_X0 ck_l0 p16x_5622_e
set_option maxRecDepth 100000 in
def p16x_5623 : ck_Sum := ((9, 1, 6), 245, [.inr (.inr (.inl 1)), .inl (3, 2147483647, none), .inl ((-2147483648), (-1), none), .inl (300, 2147483647, none), .inl (ck_one 2), .inr (.inr (.inl 245))], ([], [], [(3, 0, 0, ck_one 3)]), ([], []), [(.inr (some (.inl (ck_one 1))), 245, ([], [], []))])
set_option maxRecDepth 100000 in
theorem p16x_5623_e : ck_ok p1_O none [] [(167, [p16x_5622])] 166 [] 92 p16x_5623 = true := by decide +kernel
theorem p16x_5623_s {X : Int → Int} {LX : Nat} : ck_Ok p1_O X LX 166 p16x_5623 := ck_ok_s (ck_E1 (ck_S1 p16x_5622_s ck_S0) ck_E0) ck_X0 ck_l0 p16x_5623_e
set_option maxRecDepth 100000 in
def p16x_5625 : ck_Sum := ((8, 1, 6), 245, [.inr (.inr (.inl 1)), .inl (3, 2147483647, none), .inl ((-2147483648), (-1), none), .inl (300, 2147483647, none), .inl (3, 2147483647, none)], ([], [], [(3, 0, 0, ck_one 3)]), ([], []), [(.inl 3, 245, ([], [], []))])
set_option maxRecDepth 100000 in
theorem p16x_5625_e : ck_ok p1_O none [] [(132, [p16x_5581])] 167 [] 76 p16x_5625 = true := by decide +kernel
theorem p16x_5625_s {X : Int → Int} {LX : Nat} : ck_Ok p1_O X LX 167 p16x_5625 := ck_ok_s (ck_E1 (ck_S1 p16x_5581_s ck_S0) ck_E0) ck_X0 ck_l0 p16x_5625_e
set_option maxRecDepth 100000 in
def p16x_5626 : ck_Sum := ((9, 1, 6), 245, [.inr (.inr (.inl 1)), .inl (3, 2147483647, none), .inl ((-2147483648), (-1), none), .inl (300, 2147483647, none), .inl (3, 2147483647, none), .inr (.inr (.inl 245))], ([], [], [(3, 0, 0, ck_one 3)]), ([], []), [(.inr (some (.inl (ck_one 1))), 245, ([], [], []))])
set_option maxRecDepth 100000 in
theorem p16x_5626_e : ck_ok p1_O none [] [(167, [p16x_5625])] 166 [] 92 p16x_5626 = true := by decide +kernel
theorem p16x_5626_s {X : Int → Int} {LX : Nat} : ck_Ok p1_O X LX 166 p16x_5626 := ck_ok_s (ck_E1 (ck_S1 p16x_5625_s ck_S0) ck_E0) ck_X0 ck_l0 p16x_5626_e
set_option maxRecDepth 100000 in
def p16x_5628 : ck_Sum := ((8, 1, 6), 245, [.inr (.inr (.inl 1)), .inl (3, 2147483647, none), .inl (0, 299, none), .inl ((-2147483648), (-1), none), .inl ((-2147483648), (-1), none)], ([], [], [(3, 0, 0, ck_one 3)]), ([], []), [(.inl 3, 245, ([], [], []))])
set_option maxRecDepth 100000 in
theorem p16x_5628_e : ck_ok p1_O none [] [(132, [p16x_5581])] 167 [] 76 p16x_5628 = true := by decide +kernel
theorem p16x_5628_s {X : Int → Int} {LX : Nat} : ck_Ok p1_O X LX 167 p16x_5628 := ck_ok_s (ck_E1 (ck_S1 p16x_5581_s ck_S0) ck_E0) ck_X0 ck_l0 p16x_5628_e
set_option maxRecDepth 100000 in
def p16x_5629 : ck_Sum := ((9, 1, 6), 245, [.inr (.inr (.inl 1)), .inl (3, 2147483647, none), .inl (0, 299, none), .inl ((-2147483648), (-1), none), .inl ((-2147483648), (-1), none), .inr (.inr (.inl 245))], ([], [], [(3, 0, 0, ck_one 3)]), ([], []), [(.inr (some (.inl (ck_one 1))), 245, ([], [], []))])
set_option maxRecDepth 100000 in
theorem p16x_5629_e : ck_ok p1_O none [] [(167, [p16x_5628])] 166 [] 92 p16x_5629 = true := by decide +kernel
theorem p16x_5629_s {X : Int → Int} {LX : Nat} : ck_Ok p1_O X LX 166 p16x_5629 := ck_ok_s (ck_E1 (ck_S1 p16x_5628_s ck_S0) ck_E0) ck_X0 ck_l0 p16x_5629_e
set_option maxRecDepth 100000 in
def p16x_5631 : ck_Sum := ((8, 1, 6), 245, [.inr (.inr (.inl 1)), .inl (3, 2147483647, none), .inl (0, 299, none), .inl ((-2147483648), (-1), none), .inl (ck_one 0)], ([], [], [(3, 0, 0, ck_one 3)]), ([], []), [(.inl 3, 245, ([], [], []))])
set_option maxRecDepth 100000 in
theorem p16x_5631_e : ck_ok p1_O none [] [(132, [p16x_5581])] 167 [] 76 p16x_5631 = true := by decide +kernel
theorem p16x_5631_s {X : Int → Int} {LX : Nat} : ck_Ok p1_O X LX 167 p16x_5631 := ck_ok_s (ck_E1 (ck_S1 p16x_5581_s ck_S0) ck_E0) ck_X0 ck_l0 p16x_5631_e
set_option maxRecDepth 100000 in
def p16x_5632 : ck_Sum := ((9, 1, 6), 245, [.inr (.inr (.inl 1)), .inl (3, 2147483647, none), .inl (0, 299, none), .inl ((-2147483648), (-1), none), .inl (ck_one 0), .inr (.inr (.inl 245))], ([], [], [(3, 0, 0, ck_one 3)]), ([], []), [(.inr (some (.inl (ck_one 1))), 245, ([], [], []))])
set_option maxRecDepth 100000 in
theorem p16x_5632_e : ck_ok p1_O none [] [(167, [p16x_5631])] 166 [] 92 p16x_5632 = true := by decide +kernel
theorem p16x_5632_s {X : Int → Int} {LX : Nat} : ck_Ok p1_O X LX 166 p16x_5632 := ck_ok_s (ck_E1 (ck_S1 p16x_5631_s ck_S0) ck_E0) ck_X0 ck_l0 p16x_5632_e
set_option maxRecDepth 100000 in
def p16x_5634 : ck_Sum := ((8, 1, 6), 245, [.inr (.inr (.inl 1)), .inl (3, 2147483647, none), .inl (0, 299, none), .inl ((-2147483648), (-1), none), .inl (ck_one 1)], ([], [], [(3, 0, 0, ck_one 3)]), ([], []), [(.inl 3, 245, ([], [], []))])
set_option maxRecDepth 100000 in
theorem p16x_5634_e : ck_ok p1_O none [] [(132, [p16x_5581])] 167 [] 76 p16x_5634 = true := by decide +kernel
theorem p16x_5634_s {X : Int → Int} {LX : Nat} : ck_Ok p1_O X LX 167 p16x_5634 := ck_ok_s (ck_E1 (ck_S1 p16x_5581_s ck_S0) ck_E0) ck_X0 ck_l0 p16x_5634_e
set_option maxRecDepth 100000 in
def p16x_5635 : ck_Sum := ((9, 1, 6), 245, [.inr (.inr (.inl 1)), .inl (3, 2147483647, none), .inl (0, 299, none), .inl ((-2147483648), (-1), none), .inl (ck_one 1), .inr (.inr (.inl 245))], ([], [], [(3, 0, 0, ck_one 3)]), ([], []), [(.inr (some (.inl (ck_one 1))), 245, ([], [], []))])
set_option maxRecDepth 100000 in
theorem p16x_5635_e : ck_ok p1_O none [] [(167, [p16x_5634])] 166 [] 92 p16x_5635 = true := by decide +kernel
theorem p16x_5635_s {X : Int → Int} {LX : Nat} : ck_Ok p1_O X LX 166 p16x_5635 := ck_ok_s (ck_E1 (ck_S1 p16x_5634_s ck_S0) ck_E0) ck_X0 ck_l0 p16x_5635_e
set_option maxRecDepth 100000 in
def p16x_5637 : ck_Sum := ((8, 1, 6), 245, [.inr (.inr (.inl 1)), .inl (3, 2147483647, none), .inl (0, 299, none), .inl ((-2147483648), (-1), none), .inl (ck_one 2)], ([], [], [(3, 0, 0, ck_one 3)]), ([], []), [(.inl 3, 245, ([], [], []))])
set_option maxRecDepth 100000 in
theorem p16x_5637_e : ck_ok p1_O none [] [(132, [p16x_5581])] 167 [] 76 p16x_5637 = true := by decide +kernel
theorem p16x_5637_s {X : Int → Int} {LX : Nat} : ck_Ok p1_O X LX 167 p16x_5637 := ck_ok_s (ck_E1 (ck_S1 p16x_5581_s ck_S0) ck_E0) ck_X0 ck_l0 p16x_5637_e
set_option maxRecDepth 100000 in
def p16x_5638 : ck_Sum := ((9, 1, 6), 245, [.inr (.inr (.inl 1)), .inl (3, 2147483647, none), .inl (0, 299, none), .inl ((-2147483648), (-1), none), .inl (ck_one 2), .inr (.inr (.inl 245))], ([], [], [(3, 0, 0, ck_one 3)]), ([], []), [(.inr (some (.inl (ck_one 1))), 245, ([], [], []))])
set_option maxRecDepth 100000 in
theorem p16x_5638_e : ck_ok p1_O none [] [(167, [p16x_5637])] 166 [] 92 p16x_5638 = true := by decide +kernel
theorem p16x_5638_s {X : Int → Int} {LX : Nat} : ck_Ok p1_O X LX 166 p16x_5638 := ck_ok_s (ck_E1 (ck_S1 p16x_5637_s ck_S0) ck_E0) ck_X0 ck_l0 p16x_5638_e
set_option maxRecDepth 100000 in
def p16x_5640 : ck_Sum := ((8, 1, 6), 245, [.inr (.inr (.inl 1)), .inl (3, 2147483647, none), .inl (0, 299, none), .inl ((-2147483648), (-1), none), .inl (3, 2147483647, none)], ([], [], [(3, 0, 0, ck_one 3)]), ([], []), [(.inl 3, 245, ([], [], []))])
set_option maxRecDepth 100000 in
theorem p16x_5640_e : ck_ok p1_O none [] [(132, [p16x_5581])] 167 [] 76 p16x_5640 = true := by decide +kernel
theorem p16x_5640_s {X : Int → Int} {LX : Nat} : ck_Ok p1_O X LX 167 p16x_5640 := ck_ok_s (ck_E1 (ck_S1 p16x_5581_s ck_S0) ck_E0) ck_X0 ck_l0 p16x_5640_e
set_option maxRecDepth 100000 in
def p16x_5641 : ck_Sum := ((9, 1, 6), 245, [.inr (.inr (.inl 1)), .inl (3, 2147483647, none), .inl (0, 299, none), .inl ((-2147483648), (-1), none), .inl (3, 2147483647, none), .inr (.inr (.inl 245))], ([], [], [(3, 0, 0, ck_one 3)]), ([], []), [(.inr (some (.inl (ck_one 1))), 245, ([], [], []))])
set_option maxRecDepth 100000 in
theorem p16x_5641_e : ck_ok p1_O none [] [(167, [p16x_5640])] 166 [] 92 p16x_5641 = true := by decide +kernel
theorem p16x_5641_s {X : Int → Int} {LX : Nat} : ck_Ok p1_O X LX 166 p16x_5641 := ck_ok_s (ck_E1 (ck_S1 p16x_5640_s ck_S0) ck_E0) ck_X0 ck_l0 p16x_5641_e
set_option maxRecDepth 100000 in
def p16x_5643 : ck_Sum := ((8, 1, 6), 245, [.inr (.inr (.inl 1)), .inl (3, 2147483647, none), .inl (0, 299, none), .inl (0, 299, none), .inl ((-2147483648), (-1), none)], ([], [], [(3, 0, 0, ck_one 3)]), ([], []), [(.inl 3, 245, ([], [], []))])
set_option maxRecDepth 100000 in
theorem p16x_5643_e : ck_ok p1_O none [] [(132, [p16x_5581])] 167 [] 76 p16x_5643 = true := by decide +kernel
theorem p16x_5643_s {X : Int → Int} {LX : Nat} : ck_Ok p1_O X LX 167 p16x_5643 := ck_ok_s (ck_E1 (ck_S1 p16x_5581_s ck_S0) ck_E0) ck_X0 ck_l0 p16x_5643_e
set_option maxRecDepth 100000 in
def p16x_5644 : ck_Sum := ((9, 1, 6), 245, [.inr (.inr (.inl 1)), .inl (3, 2147483647, none), .inl (0, 299, none), .inl (0, 299, none), .inl ((-2147483648), (-1), none), .inr (.inr (.inl 245))], ([], [], [(3, 0, 0, ck_one 3)]), ([], []), [(.inr (some (.inl (ck_one 1))), 245, ([], [], []))])
set_option maxRecDepth 100000 in
theorem p16x_5644_e : ck_ok p1_O none [] [(167, [p16x_5643])] 166 [] 92 p16x_5644 = true := by decide +kernel
theorem p16x_5644_s {X : Int → Int} {LX : Nat} : ck_Ok p1_O X LX 166 p16x_5644 := ck_ok_s (ck_E1 (ck_S1 p16x_5643_s ck_S0) ck_E0) ck_X0 ck_l0 p16x_5644_e
set_option maxRecDepth 100000 in
def p16x_5646 : ck_Sum := ((8, 1, 6), 245, [.inr (.inr (.inl 1)), .inl (3, 2147483647, none), .inl (0, 299, none), .inl (0, 299, none), .inl (ck_one 0)], ([], [], [(3, 0, 0, ck_one 3)]), ([], []), [(.inl 3, 245, ([], [], []))])
set_option maxRecDepth 100000 in
theorem p16x_5646_e : ck_ok p1_O none [] [(132, [p16x_5581])] 167 [] 76 p16x_5646 = true := by decide +kernel
theorem p16x_5646_s {X : Int → Int} {LX : Nat} : ck_Ok p1_O X LX 167 p16x_5646 := ck_ok_s (ck_E1 (ck_S1 p16x_5581_s ck_S0) ck_E0) ck_X0 ck_l0 p16x_5646_e
set_option maxRecDepth 100000 in
def p16x_5647 : ck_Sum := ((9, 1, 6), 245, [.inr (.inr (.inl 1)), .inl (3, 2147483647, none), .inl (0, 299, none), .inl (0, 299, none), .inl (ck_one 0), .inr (.inr (.inl 245))], ([], [], [(3, 0, 0, ck_one 3)]), ([], []), [(.inr (some (.inl (ck_one 1))), 245, ([], [], []))])
set_option maxRecDepth 100000 in
theorem p16x_5647_e : ck_ok p1_O none [] [(167, [p16x_5646])] 166 [] 92 p16x_5647 = true := by decide +kernel
theorem p16x_5647_s {X : Int → Int} {LX : Nat} : ck_Ok p1_O X LX 166 p16x_5647 := ck_ok_s (ck_E1 (ck_S1 p16x_5646_s ck_S0) ck_E0) ck_X0 ck_l0 p16x_5647_e
set_option maxRecDepth 100000 in
def p16x_5649 : ck_Sum := ((8, 1, 6), 245, [.inr (.inr (.inl 1)), .inl (3, 2147483647, none), .inl (0, 299, none), .inl (0, 299, none), .inl (ck_one 1)], ([], [], [(3, 0, 0, ck_one 3)]), ([], []), [(.inl 3, 245, ([], [], []))])
set_option maxRecDepth 100000 in
theorem p16x_5649_e : ck_ok p1_O none [] [(132, [p16x_5581])] 167 [] 76 p16x_5649 = true := by decide +kernel
theorem p16x_5649_s {X : Int → Int} {LX : Nat} : ck_Ok p1_O X LX 167 p16x_5649 := ck_ok_s (ck_E1 (ck_S1 p16x_5581_s ck_S0) ck_E0) ck_X0 ck_l0 p16x_5649_e
set_option maxRecDepth 100000 in
def p16x_5650 : ck_Sum := ((9, 1, 6), 245, [.inr (.inr (.inl 1)), .inl (3, 2147483647, none), .inl (0, 299, none), .inl (0, 299, none), .inl (ck_one 1), .inr (.inr (.inl 245))], ([], [], [(3, 0, 0, ck_one 3)]), ([], []), [(.inr (some (.inl (ck_one 1))), 245, ([], [], []))])
set_option maxRecDepth 100000 in
theorem p16x_5650_e : ck_ok p1_O none [] [(167, [p16x_5649])] 166 [] 92 p16x_5650 = true := by decide +kernel
theorem p16x_5650_s {X : Int → Int} {LX : Nat} : ck_Ok p1_O X LX 166 p16x_5650 := ck_ok_s (ck_E1 (ck_S1 p16x_5649_s ck_S0) ck_E0) ck_X0 ck_l0 p16x_5650_e
set_option maxRecDepth 100000 in
def p16x_5652 : ck_Sum := ((8, 1, 6), 245, [.inr (.inr (.inl 1)), .inl (3, 2147483647, none), .inl (0, 299, none), .inl (0, 299, none), .inl (ck_one 2)], ([], [], [(3, 0, 0, ck_one 3)]), ([], []), [(.inl 3, 245, ([], [], []))])
set_option maxRecDepth 100000 in
theorem p16x_5652_e : ck_ok p1_O none [] [(132, [p16x_5581])] 167 [] 76 p16x_5652 = true := by decide +kernel
theorem p16x_5652_s {X : Int → Int} {LX : Nat} : ck_Ok p1_O X LX 167 p16x_5652 := ck_ok_s (ck_E1 (ck_S1 p16x_5581_s ck_S0) ck_E0) ck_X0 ck_l0 p16x_5652_e
set_option maxRecDepth 100000 in
def p16x_5653 : ck_Sum := ((9, 1, 6), 245, [.inr (.inr (.inl 1)), .inl (3, 2147483647, none), .inl (0, 299, none), .inl (0, 299, none), .inl (ck_one 2), .inr (.inr (.inl 245))], ([], [], [(3, 0, 0, ck_one 3)]), ([], []), [(.inr (some (.inl (ck_one 1))), 245, ([], [], []))])
set_option maxRecDepth 100000 in
theorem p16x_5653_e : ck_ok p1_O none [] [(167, [p16x_5652])] 166 [] 92 p16x_5653 = true := by decide +kernel
theorem p16x_5653_s {X : Int → Int} {LX : Nat} : ck_Ok p1_O X LX 166 p16x_5653 := ck_ok_s (ck_E1 (ck_S1 p16x_5652_s ck_S0) ck_E0) ck_X0 ck_l0 p16x_5653_e
set_option maxRecDepth 100000 in
def p16x_5655 : ck_Sum := ((8, 1, 6), 245, [.inr (.inr (.inl 1)), .inl (3, 2147483647, none), .inl (0, 299, none), .inl (0, 299, none), .inl (3, 2147483647, none)], ([], [], [(3, 0, 0, ck_one 3)]), ([], []), [(.inl 3, 245, ([], [], []))])
set_option maxRecDepth 100000 in
theorem p16x_5655_e : ck_ok p1_O none [] [(132, [p16x_5581])] 167 [] 76 p16x_5655 = true := by decide +kernel
theorem p16x_5655_s {X : Int → Int} {LX : Nat} : ck_Ok p1_O X LX 167 p16x_5655 := ck_ok_s (ck_E1 (ck_S1 p16x_5581_s ck_S0) ck_E0) ck_X0 ck_l0 p16x_5655_e
set_option maxRecDepth 100000 in
def p16x_5656 : ck_Sum := ((9, 1, 6), 245, [.inr (.inr (.inl 1)), .inl (3, 2147483647, none), .inl (0, 299, none), .inl (0, 299, none), .inl (3, 2147483647, none), .inr (.inr (.inl 245))], ([], [], [(3, 0, 0, ck_one 3)]), ([], []), [(.inr (some (.inl (ck_one 1))), 245, ([], [], []))])
set_option maxRecDepth 100000 in
theorem p16x_5656_e : ck_ok p1_O none [] [(167, [p16x_5655])] 166 [] 92 p16x_5656 = true := by decide +kernel
theorem p16x_5656_s {X : Int → Int} {LX : Nat} : ck_Ok p1_O X LX 166 p16x_5656 := ck_ok_s (ck_E1 (ck_S1 p16x_5655_s ck_S0) ck_E0) ck_X0 ck_l0 p16x_5656_e
set_option maxRecDepth 100000 in
def p16x_5658 : ck_Sum := ((8, 1, 6), 245, [.inr (.inr (.inl 1)), .inl (3, 2147483647, none), .inl (0, 299, none), .inl (300, 2147483647, none), .inl ((-2147483648), (-1), none)], ([], [], [(3, 0, 0, ck_one 3)]), ([], []), [(.inl 3, 245, ([], [], []))])
set_option maxRecDepth 100000 in
theorem p16x_5658_e : ck_ok p1_O none [] [(132, [p16x_5581])] 167 [] 76 p16x_5658 = true := by decide +kernel
theorem p16x_5658_s {X : Int → Int} {LX : Nat} : ck_Ok p1_O X LX 167 p16x_5658 := ck_ok_s (ck_E1 (ck_S1 p16x_5581_s ck_S0) ck_E0) ck_X0 ck_l0 p16x_5658_e
set_option maxRecDepth 100000 in
def p16x_5659 : ck_Sum := ((9, 1, 6), 245, [.inr (.inr (.inl 1)), .inl (3, 2147483647, none), .inl (0, 299, none), .inl (300, 2147483647, none), .inl ((-2147483648), (-1), none), .inr (.inr (.inl 245))], ([], [], [(3, 0, 0, ck_one 3)]), ([], []), [(.inr (some (.inl (ck_one 1))), 245, ([], [], []))])
set_option maxRecDepth 100000 in
theorem p16x_5659_e : ck_ok p1_O none [] [(167, [p16x_5658])] 166 [] 92 p16x_5659 = true := by decide +kernel
theorem p16x_5659_s {X : Int → Int} {LX : Nat} : ck_Ok p1_O X LX 166 p16x_5659 := ck_ok_s (ck_E1 (ck_S1 p16x_5658_s ck_S0) ck_E0) ck_X0 ck_l0 p16x_5659_e
set_option maxRecDepth 100000 in
def p16x_5661 : ck_Sum := ((8, 1, 6), 245, [.inr (.inr (.inl 1)), .inl (3, 2147483647, none), .inl (0, 299, none), .inl (300, 2147483647, none), .inl (ck_one 0)], ([], [], [(3, 0, 0, ck_one 3)]), ([], []), [(.inl 3, 245, ([], [], []))])
set_option maxRecDepth 100000 in
theorem p16x_5661_e : ck_ok p1_O none [] [(132, [p16x_5581])] 167 [] 76 p16x_5661 = true := by decide +kernel
theorem p16x_5661_s {X : Int → Int} {LX : Nat} : ck_Ok p1_O X LX 167 p16x_5661 := ck_ok_s (ck_E1 (ck_S1 p16x_5581_s ck_S0) ck_E0) ck_X0 ck_l0 p16x_5661_e
set_option maxRecDepth 100000 in
def p16x_5662 : ck_Sum := ((9, 1, 6), 245, [.inr (.inr (.inl 1)), .inl (3, 2147483647, none), .inl (0, 299, none), .inl (300, 2147483647, none), .inl (ck_one 0), .inr (.inr (.inl 245))], ([], [], [(3, 0, 0, ck_one 3)]), ([], []), [(.inr (some (.inl (ck_one 1))), 245, ([], [], []))])
set_option maxRecDepth 100000 in
theorem p16x_5662_e : ck_ok p1_O none [] [(167, [p16x_5661])] 166 [] 92 p16x_5662 = true := by decide +kernel
theorem p16x_5662_s {X : Int → Int} {LX : Nat} : ck_Ok p1_O X LX 166 p16x_5662 := ck_ok_s (ck_E1 (ck_S1 p16x_5661_s ck_S0) ck_E0) ck_X0 ck_l0 p16x_5662_e
set_option maxRecDepth 100000 in
def p16x_5664 : ck_Sum := ((8, 1, 6), 245, [.inr (.inr (.inl 1)), .inl (3, 2147483647, none), .inl (0, 299, none), .inl (300, 2147483647, none), .inl (ck_one 1)], ([], [], [(3, 0, 0, ck_one 3)]), ([], []), [(.inl 3, 245, ([], [], []))])
set_option maxRecDepth 100000 in
theorem p16x_5664_e : ck_ok p1_O none [] [(132, [p16x_5581])] 167 [] 76 p16x_5664 = true := by decide +kernel
theorem p16x_5664_s {X : Int → Int} {LX : Nat} : ck_Ok p1_O X LX 167 p16x_5664 := ck_ok_s (ck_E1 (ck_S1 p16x_5581_s ck_S0) ck_E0) ck_X0 ck_l0 p16x_5664_e
set_option maxRecDepth 100000 in
def p16x_5665 : ck_Sum := ((9, 1, 6), 245, [.inr (.inr (.inl 1)), .inl (3, 2147483647, none), .inl (0, 299, none), .inl (300, 2147483647, none), .inl (ck_one 1), .inr (.inr (.inl 245))], ([], [], [(3, 0, 0, ck_one 3)]), ([], []), [(.inr (some (.inl (ck_one 1))), 245, ([], [], []))])
set_option maxRecDepth 100000 in
theorem p16x_5665_e : ck_ok p1_O none [] [(167, [p16x_5664])] 166 [] 92 p16x_5665 = true := by decide +kernel
theorem p16x_5665_s {X : Int → Int} {LX : Nat} : ck_Ok p1_O X LX 166 p16x_5665 := ck_ok_s (ck_E1 (ck_S1 p16x_5664_s ck_S0) ck_E0) ck_X0 ck_l0 p16x_5665_e
set_option maxRecDepth 100000 in
def p16x_5667 : ck_Sum := ((8, 1, 6), 245, [.inr (.inr (.inl 1)), .inl (3, 2147483647, none), .inl (0, 299, none), .inl (300, 2147483647, none), .inl (ck_one 2)], ([], [], [(3, 0, 0, ck_one 3)]), ([], []), [(.inl 3, 245, ([], [], []))])
set_option maxRecDepth 100000 in
theorem p16x_5667_e : ck_ok p1_O none [] [(132, [p16x_5581])] 167 [] 76 p16x_5667 = true := by decide +kernel
theorem p16x_5667_s {X : Int → Int} {LX : Nat} : ck_Ok p1_O X LX 167 p16x_5667 := ck_ok_s (ck_E1 (ck_S1 p16x_5581_s ck_S0) ck_E0) ck_X0 ck_l0 p16x_5667_e
set_option maxRecDepth 100000 in
def p16x_5668 : ck_Sum := ((9, 1, 6), 245, [.inr (.inr (.inl 1)), .inl (3, 2147483647, none), .inl (0, 299, none), .inl (300, 2147483647, none), .inl (ck_one 2), .inr (.inr (.inl 245))], ([], [], [(3, 0, 0, ck_one 3)]), ([], []), [(.inr (some (.inl (ck_one 1))), 245, ([], [], []))])
set_option maxRecDepth 100000 in
theorem p16x_5668_e : ck_ok p1_O none [] [(167, [p16x_5667])] 166 [] 92 p16x_5668 = true := by decide +kernel
theorem p16x_5668_s {X : Int → Int} {LX : Nat} : ck_Ok p1_O X LX 166 p16x_5668 := ck_ok_s (ck_E1 (ck_S1 p16x_5667_s ck_S0) ck_E0) ck_X0 ck_l0 p16x_5668_e
set_option maxRecDepth 100000 in
def p16x_5670 : ck_Sum := ((8, 1, 6), 245, [.inr (.inr (.inl 1)), .inl (3, 2147483647, none), .inl (0, 299, none), .inl (300, 2147483647, none), .inl (3, 2147483647, none)], ([], [], [(3, 0, 0, ck_one 3)]), ([], []), [(.inl 3, 245, ([], [], []))])
set_option maxRecDepth 100000 in
theorem p16x_5670_e : ck_ok p1_O none [] [(132, [p16x_5581])] 167 [] 76 p16x_5670 = true := by decide +kernel
theorem p16x_5670_s {X : Int → Int} {LX : Nat} : ck_Ok p1_O X LX 167 p16x_5670 := ck_ok_s (ck_E1 (ck_S1 p16x_5581_s ck_S0) ck_E0) ck_X0 ck_l0 p16x_5670_e
set_option maxRecDepth 100000 in
def p16x_5671 : ck_Sum := ((9, 1, 6), 245, [.inr (.inr (.inl 1)), .inl (3, 2147483647, none), .inl (0, 299, none), .inl (300, 2147483647, none), .inl (3, 2147483647, none), .inr (.inr (.inl 245))], ([], [], [(3, 0, 0, ck_one 3)]), ([], []), [(.inr (some (.inl (ck_one 1))), 245, ([], [], []))])
set_option maxRecDepth 100000 in
theorem p16x_5671_e : ck_ok p1_O none [] [(167, [p16x_5670])] 166 [] 92 p16x_5671 = true := by decide +kernel
theorem p16x_5671_s {X : Int → Int} {LX : Nat} : ck_Ok p1_O X LX 166 p16x_5671 := ck_ok_s (ck_E1 (ck_S1 p16x_5670_s ck_S0) ck_E0) ck_X0 ck_l0 p16x_5671_e
set_option maxRecDepth 100000 in
def p16x_5673 : ck_Sum := ((8, 1, 6), 245, [.inr (.inr (.inl 1)), .inl (3, 2147483647, none), .inl (300, 2147483647, none), .inl ((-2147483648), (-1), none), .inl ((-2147483648), (-1), none)], ([], [], [(3, 0, 0, ck_one 3)]), ([], []), [(.inl 3, 245, ([], [], []))])
set_option maxRecDepth 100000 in
theorem p16x_5673_e : ck_ok p1_O none [] [(132, [p16x_5581])] 167 [] 76 p16x_5673 = true := by decide +kernel
theorem p16x_5673_s {X : Int → Int} {LX : Nat} : ck_Ok p1_O X LX 167 p16x_5673 := ck_ok_s (ck_E1 (ck_S1 p16x_5581_s ck_S0) ck_E0) ck_X0 ck_l0 p16x_5673_e
set_option maxRecDepth 100000 in
def p16x_5674 : ck_Sum := ((9, 1, 6), 245, [.inr (.inr (.inl 1)), .inl (3, 2147483647, none), .inl (300, 2147483647, none), .inl ((-2147483648), (-1), none), .inl ((-2147483648), (-1), none), .inr (.inr (.inl 245))], ([], [], [(3, 0, 0, ck_one 3)]), ([], []), [(.inr (some (.inl (ck_one 1))), 245, ([], [], []))])
set_option maxRecDepth 100000 in
theorem p16x_5674_e : ck_ok p1_O none [] [(167, [p16x_5673])] 166 [] 92 p16x_5674 = true := by decide +kernel
theorem p16x_5674_s {X : Int → Int} {LX : Nat} : ck_Ok p1_O X LX 166 p16x_5674 := ck_ok_s (ck_E1 (ck_S1 p16x_5673_s ck_S0) ck_E0) ck_X0 ck_l0 p16x_5674_e
set_option maxRecDepth 100000 in
def p16x_5676 : ck_Sum := ((8, 1, 6), 245, [.inr (.inr (.inl 1)), .inl (3, 2147483647, none), .inl (300, 2147483647, none), .inl ((-2147483648), (-1), none), .inl (ck_one 0)], ([], [], [(3, 0, 0, ck_one 3)]), ([], []), [(.inl 3, 245, ([], [], []))])
set_option maxRecDepth 100000 in
theorem p16x_5676_e : ck_ok p1_O none [] [(132, [p16x_5581])] 167 [] 76 p16x_5676 = true := by decide +kernel
theorem p16x_5676_s {X : Int → Int} {LX : Nat} : ck_Ok p1_O X LX 167 p16x_5676 := ck_ok_s (ck_E1 (ck_S1 p16x_5581_s ck_S0) ck_E0) ck_X0 ck_l0 p16x_5676_e
set_option maxRecDepth 100000 in
def p16x_5677 : ck_Sum := ((9, 1, 6), 245, [.inr (.inr (.inl 1)), .inl (3, 2147483647, none), .inl (300, 2147483647, none), .inl ((-2147483648), (-1), none), .inl (ck_one 0), .inr (.inr (.inl 245))], ([], [], [(3, 0, 0, ck_one 3)]), ([], []), [(.inr (some (.inl (ck_one 1))), 245, ([], [], []))])
set_option maxRecDepth 100000 in
theorem p16x_5677_e : ck_ok p1_O none [] [(167, [p16x_5676])] 166 [] 92 p16x_5677 = true := by decide +kernel
theorem p16x_5677_s {X : Int → Int} {LX : Nat} : ck_Ok p1_O X LX 166 p16x_5677 := ck_ok_s (ck_E1 (ck_S1 p16x_5676_s ck_S0) ck_E0) ck_X0 ck_l0 p16x_5677_e
set_option maxRecDepth 100000 in
def p16x_5679 : ck_Sum := ((8, 1, 6), 245, [.inr (.inr (.inl 1)), .inl (3, 2147483647, none), .inl (300, 2147483647, none), .inl ((-2147483648), (-1), none), .inl (ck_one 1)], ([], [], [(3, 0, 0, ck_one 3)]), ([], []), [(.inl 3, 245, ([], [], []))])
set_option maxRecDepth 100000 in
theorem p16x_5679_e : ck_ok p1_O none [] [(132, [p16x_5581])] 167 [] 76 p16x_5679 = true := by decide +kernel
theorem p16x_5679_s {X : Int → Int} {LX : Nat} : ck_Ok p1_O X LX 167 p16x_5679 := ck_ok_s (ck_E1 (ck_S1 p16x_5581_s ck_S0) ck_E0) ck_X0 ck_l0 p16x_5679_e
set_option maxRecDepth 100000 in
def p16x_5680 : ck_Sum := ((9, 1, 6), 245, [.inr (.inr (.inl 1)), .inl (3, 2147483647, none), .inl (300, 2147483647, none), .inl ((-2147483648), (-1), none), .inl (ck_one 1), .inr (.inr (.inl 245))], ([], [], [(3, 0, 0, ck_one 3)]), ([], []), [(.inr (some (.inl (ck_one 1))), 245, ([], [], []))])
set_option maxRecDepth 100000 in
theorem p16x_5680_e : ck_ok p1_O none [] [(167, [p16x_5679])] 166 [] 92 p16x_5680 = true := by decide +kernel
theorem p16x_5680_s {X : Int → Int} {LX : Nat} : ck_Ok p1_O X LX 166 p16x_5680 := ck_ok_s (ck_E1 (ck_S1 p16x_5679_s ck_S0) ck_E0) ck_X0 ck_l0 p16x_5680_e
set_option maxRecDepth 100000 in
def p16x_5682 : ck_Sum := ((8, 1, 6), 245, [.inr (.inr (.inl 1)), .inl (3, 2147483647, none), .inl (300, 2147483647, none), .inl ((-2147483648), (-1), none), .inl (ck_one 2)], ([], [], [(3, 0, 0, ck_one 3)]), ([], []), [(.inl 3, 245, ([], [], []))])
set_option maxRecDepth 100000 in
theorem p16x_5682_e : ck_ok p1_O none [] [(132, [p16x_5581])] 167 [] 76 p16x_5682 = true := by decide +kernel
theorem p16x_5682_s {X : Int → Int} {LX : Nat} : ck_Ok p1_O X LX 167 p16x_5682 := ck_ok_s (ck_E1 (ck_S1 p16x_5581_s ck_S0) ck_E0) ck_X0 ck_l0 p16x_5682_e
set_option maxRecDepth 100000 in
def p16x_5683 : ck_Sum := ((9, 1, 6), 245, [.inr (.inr (.inl 1)), .inl (3, 2147483647, none), .inl (300, 2147483647, none), .inl ((-2147483648), (-1), none), .inl (ck_one 2), .inr (.inr (.inl 245))], ([], [], [(3, 0, 0, ck_one 3)]), ([], []), [(.inr (some (.inl (ck_one 1))), 245, ([], [], []))])
set_option maxRecDepth 100000 in
theorem p16x_5683_e : ck_ok p1_O none [] [(167, [p16x_5682])] 166 [] 92 p16x_5683 = true := by decide +kernel
theorem p16x_5683_s {X : Int → Int} {LX : Nat} : ck_Ok p1_O X LX 166 p16x_5683 := ck_ok_s (ck_E1 (ck_S1 p16x_5682_s ck_S0) ck_E0) ck_X0 ck_l0 p16x_5683_e
set_option maxRecDepth 100000 in
def p16x_5685 : ck_Sum := ((8, 1, 6), 245, [.inr (.inr (.inl 1)), .inl (3, 2147483647, none), .inl (300, 2147483647, none), .inl ((-2147483648), (-1), none), .inl (3, 2147483647, none)], ([], [], [(3, 0, 0, ck_one 3)]), ([], []), [(.inl 3, 245, ([], [], []))])
set_option maxRecDepth 100000 in
theorem p16x_5685_e : ck_ok p1_O none [] [(132, [p16x_5581])] 167 [] 76 p16x_5685 = true := by decide +kernel
theorem p16x_5685_s {X : Int → Int} {LX : Nat} : ck_Ok p1_O X LX 167 p16x_5685 := ck_ok_s (ck_E1 (ck_S1 p16x_5581_s ck_S0) ck_E0) ck_X0 ck_l0 p16x_5685_e
set_option maxRecDepth 100000 in
def p16x_5686 : ck_Sum := ((9, 1, 6), 245, [.inr (.inr (.inl 1)), .inl (3, 2147483647, none), .inl (300, 2147483647, none), .inl ((-2147483648), (-1), none), .inl (3, 2147483647, none), .inr (.inr (.inl 245))], ([], [], [(3, 0, 0, ck_one 3)]), ([], []), [(.inr (some (.inl (ck_one 1))), 245, ([], [], []))])
set_option maxRecDepth 100000 in
theorem p16x_5686_e : ck_ok p1_O none [] [(167, [p16x_5685])] 166 [] 92 p16x_5686 = true := by decide +kernel
theorem p16x_5686_s {X : Int → Int} {LX : Nat} : ck_Ok p1_O X LX 166 p16x_5686 := ck_ok_s (ck_E1 (ck_S1 p16x_5685_s ck_S0) ck_E0) ck_X0 ck_l0 p16x_5686_e
set_option maxRecDepth 100000 in
def p16x_5688 : ck_Sum := ((8, 1, 6), 245, [.inr (.inr (.inl 1)), .inl (3, 2147483647, none), .inl (300, 2147483647, none), .inl (0, 299, none), .inl ((-2147483648), (-1), none)], ([], [], [(3, 0, 0, ck_one 3)]), ([], []), [(.inl 3, 245, ([], [], []))])
set_option maxRecDepth 100000 in
theorem p16x_5688_e : ck_ok p1_O none [] [(132, [p16x_5581])] 167 [] 76 p16x_5688 = true := by decide +kernel
theorem p16x_5688_s {X : Int → Int} {LX : Nat} : ck_Ok p1_O X LX 167 p16x_5688 := ck_ok_s (ck_E1 (ck_S1 p16x_5581_s ck_S0) ck_E0) ck_X0 ck_l0 p16x_5688_e
set_option maxRecDepth 100000 in
def p16x_5689 : ck_Sum := ((9, 1, 6), 245, [.inr (.inr (.inl 1)), .inl (3, 2147483647, none), .inl (300, 2147483647, none), .inl (0, 299, none), .inl ((-2147483648), (-1), none), .inr (.inr (.inl 245))], ([], [], [(3, 0, 0, ck_one 3)]), ([], []), [(.inr (some (.inl (ck_one 1))), 245, ([], [], []))])
set_option maxRecDepth 100000 in
theorem p16x_5689_e : ck_ok p1_O none [] [(167, [p16x_5688])] 166 [] 92 p16x_5689 = true := by decide +kernel
theorem p16x_5689_s {X : Int → Int} {LX : Nat} : ck_Ok p1_O X LX 166 p16x_5689 := ck_ok_s (ck_E1 (ck_S1 p16x_5688_s ck_S0) ck_E0) ck_X0 ck_l0 p16x_5689_e
set_option maxRecDepth 100000 in
def p16x_5691 : ck_Sum := ((8, 1, 6), 245, [.inr (.inr (.inl 1)), .inl (3, 2147483647, none), .inl (300, 2147483647, none), .inl (0, 299, none), .inl (ck_one 0)], ([], [], [(3, 0, 0, ck_one 3)]), ([], []), [(.inl 3, 245, ([], [], []))])
set_option maxRecDepth 100000 in
theorem p16x_5691_e : ck_ok p1_O none [] [(132, [p16x_5581])] 167 [] 76 p16x_5691 = true := by decide +kernel
theorem p16x_5691_s {X : Int → Int} {LX : Nat} : ck_Ok p1_O X LX 167 p16x_5691 := ck_ok_s (ck_E1 (ck_S1 p16x_5581_s ck_S0) ck_E0) ck_X0 ck_l0 p16x_5691_e
set_option maxRecDepth 100000 in
def p16x_5692 : ck_Sum := ((9, 1, 6), 245, [.inr (.inr (.inl 1)), .inl (3, 2147483647, none), .inl (300, 2147483647, none), .inl (0, 299, none), .inl (ck_one 0), .inr (.inr (.inl 245))], ([], [], [(3, 0, 0, ck_one 3)]), ([], []), [(.inr (some (.inl (ck_one 1))), 245, ([], [], []))])
set_option maxRecDepth 100000 in
theorem p16x_5692_e : ck_ok p1_O none [] [(167, [p16x_5691])] 166 [] 92 p16x_5692 = true := by decide +kernel
theorem p16x_5692_s {X : Int → Int} {LX : Nat} : ck_Ok p1_O X LX 166 p16x_5692 := ck_ok_s (ck_E1 (ck_S1 p16x_5691_s ck_S0) ck_E0) ck_X0 ck_l0 p16x_5692_e
set_option maxRecDepth 100000 in
def p16x_5694 : ck_Sum := ((8, 1, 6), 245, [.inr (.inr (.inl 1)), .inl (3, 2147483647, none), .inl (300, 2147483647, none), .inl (0, 299, none), .inl (ck_one 1)], ([], [], [(3, 0, 0, ck_one 3)]), ([], []), [(.inl 3, 245, ([], [], []))])
set_option maxRecDepth 100000 in
theorem p16x_5694_e : ck_ok p1_O none [] [(132, [p16x_5581])] 167 [] 76 p16x_5694 = true := by decide +kernel
theorem p16x_5694_s {X : Int → Int} {LX : Nat} : ck_Ok p1_O X LX 167 p16x_5694 := ck_ok_s (ck_E1 (ck_S1 p16x_5581_s ck_S0) ck_E0) ck_X0 ck_l0 p16x_5694_e
set_option maxRecDepth 100000 in
def p16x_5695 : ck_Sum := ((9, 1, 6), 245, [.inr (.inr (.inl 1)), .inl (3, 2147483647, none), .inl (300, 2147483647, none), .inl (0, 299, none), .inl (ck_one 1), .inr (.inr (.inl 245))], ([], [], [(3, 0, 0, ck_one 3)]), ([], []), [(.inr (some (.inl (ck_one 1))), 245, ([], [], []))])
set_option maxRecDepth 100000 in
theorem p16x_5695_e : ck_ok p1_O none [] [(167, [p16x_5694])] 166 [] 92 p16x_5695 = true := by decide +kernel
theorem p16x_5695_s {X : Int → Int} {LX : Nat} : ck_Ok p1_O X LX 166 p16x_5695 := ck_ok_s (ck_E1 (ck_S1 p16x_5694_s ck_S0) ck_E0) ck_X0 ck_l0 p16x_5695_e
set_option maxRecDepth 100000 in
def p16x_5697 : ck_Sum := ((8, 1, 6), 245, [.inr (.inr (.inl 1)), .inl (3, 2147483647, none), .inl (300, 2147483647, none), .inl (0, 299, none), .inl (ck_one 2)], ([], [], [(3, 0, 0, ck_one 3)]), ([], []), [(.inl 3, 245, ([], [], []))])
set_option maxRecDepth 100000 in
theorem p16x_5697_e : ck_ok p1_O none [] [(132, [p16x_5581])] 167 [] 76 p16x_5697 = true := by decide +kernel
theorem p16x_5697_s {X : Int → Int} {LX : Nat} : ck_Ok p1_O X LX 167 p16x_5697 := ck_ok_s (ck_E1 (ck_S1 p16x_5581_s ck_S0) ck_E0) ck_X0 ck_l0 p16x_5697_e
set_option maxRecDepth 100000 in
def p16x_5698 : ck_Sum := ((9, 1, 6), 245, [.inr (.inr (.inl 1)), .inl (3, 2147483647, none), .inl (300, 2147483647, none), .inl (0, 299, none), .inl (ck_one 2), .inr (.inr (.inl 245))], ([], [], [(3, 0, 0, ck_one 3)]), ([], []), [(.inr (some (.inl (ck_one 1))), 245, ([], [], []))])
set_option maxRecDepth 100000 in
theorem p16x_5698_e : ck_ok p1_O none [] [(167, [p16x_5697])] 166 [] 92 p16x_5698 = true := by decide +kernel
theorem p16x_5698_s {X : Int → Int} {LX : Nat} : ck_Ok p1_O X LX 166 p16x_5698 := ck_ok_s (ck_E1 (ck_S1 p16x_5697_s ck_S0) ck_E0) ck_X0 ck_l0 p16x_5698_e
set_option maxRecDepth 100000 in
def p16x_5700 : ck_Sum := ((8, 1, 6), 245, [.inr (.inr (.inl 1)), .inl (3, 2147483647, none), .inl (300, 2147483647, none), .inl (0, 299, none), .inl (3, 2147483647, none)], ([], [], [(3, 0, 0, ck_one 3)]), ([], []), [(.inl 3, 245, ([], [], []))])
set_option maxRecDepth 100000 in
theorem p16x_5700_e : ck_ok p1_O none [] [(132, [p16x_5581])] 167 [] 76 p16x_5700 = true := by decide +kernel
theorem p16x_5700_s {X : Int → Int} {LX : Nat} : ck_Ok p1_O X LX 167 p16x_5700 := ck_ok_s (ck_E1 (ck_S1 p16x_5581_s ck_S0) ck_E0) ck_X0 ck_l0 p16x_5700_e
set_option maxRecDepth 100000 in
def p16x_5701 : ck_Sum := ((9, 1, 6), 245, [.inr (.inr (.inl 1)), .inl (3, 2147483647, none), .inl (300, 2147483647, none), .inl (0, 299, none), .inl (3, 2147483647, none), .inr (.inr (.inl 245))], ([], [], [(3, 0, 0, ck_one 3)]), ([], []), [(.inr (some (.inl (ck_one 1))), 245, ([], [], []))])
set_option maxRecDepth 100000 in
theorem p16x_5701_e : ck_ok p1_O none [] [(167, [p16x_5700])] 166 [] 92 p16x_5701 = true := by decide +kernel
theorem p16x_5701_s {X : Int → Int} {LX : Nat} : ck_Ok p1_O X LX 166 p16x_5701 := ck_ok_s (ck_E1 (ck_S1 p16x_5700_s ck_S0) ck_E0) ck_X0 ck_l0 p16x_5701_e
set_option maxRecDepth 100000 in
def p16x_5703 : ck_Sum := ((8, 1, 6), 245, [.inr (.inr (.inl 1)), .inl (3, 2147483647, none), .inl (300, 2147483647, none), .inl (300, 2147483647, none), .inl ((-2147483648), (-1), none)], ([], [], [(3, 0, 0, ck_one 3)]), ([], []), [(.inl 3, 245, ([], [], []))])
set_option maxRecDepth 100000 in
theorem p16x_5703_e : ck_ok p1_O none [] [(132, [p16x_5581])] 167 [] 76 p16x_5703 = true := by decide +kernel
theorem p16x_5703_s {X : Int → Int} {LX : Nat} : ck_Ok p1_O X LX 167 p16x_5703 := ck_ok_s (ck_E1 (ck_S1 p16x_5581_s ck_S0) ck_E0) ck_X0 ck_l0 p16x_5703_e
set_option maxRecDepth 100000 in
def p16x_5704 : ck_Sum := ((9, 1, 6), 245, [.inr (.inr (.inl 1)), .inl (3, 2147483647, none), .inl (300, 2147483647, none), .inl (300, 2147483647, none), .inl ((-2147483648), (-1), none), .inr (.inr (.inl 245))], ([], [], [(3, 0, 0, ck_one 3)]), ([], []), [(.inr (some (.inl (ck_one 1))), 245, ([], [], []))])
set_option maxRecDepth 100000 in
theorem p16x_5704_e : ck_ok p1_O none [] [(167, [p16x_5703])] 166 [] 92 p16x_5704 = true := by decide +kernel
theorem p16x_5704_s {X : Int → Int} {LX : Nat} : ck_Ok p1_O X LX 166 p16x_5704 := ck_ok_s (ck_E1 (ck_S1 p16x_5703_s ck_S0) ck_E0) ck_X0 ck_l0 p16x_5704_e
set_option maxRecDepth 100000 in
def p16x_5706 : ck_Sum := ((8, 1, 6), 245, [.inr (.inr (.inl 1)), .inl (3, 2147483647, none), .inl (300, 2147483647, none), .inl (300, 2147483647, none), .inl (ck_one 0)], ([], [], [(3, 0, 0, ck_one 3)]), ([], []), [(.inl 3, 245, ([], [], []))])
set_option maxRecDepth 100000 in
theorem p16x_5706_e : ck_ok p1_O none [] [(132, [p16x_5581])] 167 [] 76 p16x_5706 = true := by decide +kernel
theorem p16x_5706_s {X : Int → Int} {LX : Nat} : ck_Ok p1_O X LX 167 p16x_5706 := ck_ok_s (ck_E1 (ck_S1 p16x_5581_s ck_S0) ck_E0) ck_X0 ck_l0 p16x_5706_e
set_option maxRecDepth 100000 in
def p16x_5707 : ck_Sum := ((9, 1, 6), 245, [.inr (.inr (.inl 1)), .inl (3, 2147483647, none), .inl (300, 2147483647, none), .inl (300, 2147483647, none), .inl (ck_one 0), .inr (.inr (.inl 245))], ([], [], [(3, 0, 0, ck_one 3)]), ([], []), [(.inr (some (.inl (ck_one 1))), 245, ([], [], []))])
set_option maxRecDepth 100000 in
theorem p16x_5707_e : ck_ok p1_O none [] [(167, [p16x_5706])] 166 [] 92 p16x_5707 = true := by decide +kernel
theorem p16x_5707_s {X : Int → Int} {LX : Nat} : ck_Ok p1_O X LX 166 p16x_5707 := ck_ok_s (ck_E1 (ck_S1 p16x_5706_s ck_S0) ck_E0) ck_X0 ck_l0 p16x_5707_e
set_option maxRecDepth 100000 in
def p16x_5709 : ck_Sum := ((8, 1, 6), 245, [.inr (.inr (.inl 1)), .inl (3, 2147483647, none), .inl (300, 2147483647, none), .inl (300, 2147483647, none), .inl (ck_one 1)], ([], [], [(3, 0, 0, ck_one 3)]), ([], []), [(.inl 3, 245, ([], [], []))])
set_option maxRecDepth 100000 in
theorem p16x_5709_e : ck_ok p1_O none [] [(132, [p16x_5581])] 167 [] 76 p16x_5709 = true := by decide +kernel
theorem p16x_5709_s {X : Int → Int} {LX : Nat} : ck_Ok p1_O X LX 167 p16x_5709 := ck_ok_s (ck_E1 (ck_S1 p16x_5581_s ck_S0) ck_E0) ck_X0 ck_l0 p16x_5709_e
set_option maxRecDepth 100000 in
def p16x_5710 : ck_Sum := ((9, 1, 6), 245, [.inr (.inr (.inl 1)), .inl (3, 2147483647, none), .inl (300, 2147483647, none), .inl (300, 2147483647, none), .inl (ck_one 1), .inr (.inr (.inl 245))], ([], [], [(3, 0, 0, ck_one 3)]), ([], []), [(.inr (some (.inl (ck_one 1))), 245, ([], [], []))])
set_option maxRecDepth 100000 in
theorem p16x_5710_e : ck_ok p1_O none [] [(167, [p16x_5709])] 166 [] 92 p16x_5710 = true := by decide +kernel
theorem p16x_5710_s {X : Int → Int} {LX : Nat} : ck_Ok p1_O X LX 166 p16x_5710 := ck_ok_s (ck_E1 (ck_S1 p16x_5709_s ck_S0) ck_E0) ck_X0 ck_l0 p16x_5710_e
set_option maxRecDepth 100000 in
def p16x_5712 : ck_Sum := ((8, 1, 6), 245, [.inr (.inr (.inl 1)), .inl (3, 2147483647, none), .inl (300, 2147483647, none), .inl (300, 2147483647, none), .inl (ck_one 2)], ([], [], [(3, 0, 0, ck_one 3)]), ([], []), [(.inl 3, 245, ([], [], []))])
set_option maxRecDepth 100000 in
theorem p16x_5712_e : ck_ok p1_O none [] [(132, [p16x_5581])] 167 [] 76 p16x_5712 = true := by decide +kernel
theorem p16x_5712_s {X : Int → Int} {LX : Nat} : ck_Ok p1_O X LX 167 p16x_5712 := ck_ok_s (ck_E1 (ck_S1 p16x_5581_s ck_S0) ck_E0) ck_X0 ck_l0 p16x_5712_e
set_option maxRecDepth 100000 in
def p16x_5713 : ck_Sum := ((9, 1, 6), 245, [.inr (.inr (.inl 1)), .inl (3, 2147483647, none), .inl (300, 2147483647, none), .inl (300, 2147483647, none), .inl (ck_one 2), .inr (.inr (.inl 245))], ([], [], [(3, 0, 0, ck_one 3)]), ([], []), [(.inr (some (.inl (ck_one 1))), 245, ([], [], []))])
set_option maxRecDepth 100000 in
theorem p16x_5713_e : ck_ok p1_O none [] [(167, [p16x_5712])] 166 [] 92 p16x_5713 = true := by decide +kernel
theorem p16x_5713_s {X : Int → Int} {LX : Nat} : ck_Ok p1_O X LX 166 p16x_5713 := ck_ok_s (ck_E1 (ck_S1 p16x_5712_s ck_S0) ck_E0) ck_X0 ck_l0 p16x_5713_e
set_option maxRecDepth 100000 in
def p16x_5715 : ck_Sum := ((8, 1, 6), 245, [.inr (.inr (.inl 1)), .inl (3, 2147483647, none), .inl (300, 2147483647, none), .inl (300, 2147483647, none), .inl (3, 2147483647, none)], ([], [], [(3, 0, 0, ck_one 3)]), ([], []), [(.inl 3, 245, ([], [], []))])
set_option maxRecDepth 100000 in
theorem p16x_5715_e : ck_ok p1_O none [] [(132, [p16x_5581])] 167 [] 76 p16x_5715 = true := by decide +kernel
theorem p16x_5715_s {X : Int → Int} {LX : Nat} : ck_Ok p1_O X LX 167 p16x_5715 := ck_ok_s (ck_E1 (ck_S1 p16x_5581_s ck_S0) ck_E0) ck_X0 ck_l0 p16x_5715_e
set_option maxRecDepth 100000 in
def p16x_5716 : ck_Sum := ((9, 1, 6), 245, [.inr (.inr (.inl 1)), .inl (3, 2147483647, none), .inl (300, 2147483647, none), .inl (300, 2147483647, none), .inl (3, 2147483647, none), .inr (.inr (.inl 245))], ([], [], [(3, 0, 0, ck_one 3)]), ([], []), [(.inr (some (.inl (ck_one 1))), 245, ([], [], []))])
set_option maxRecDepth 100000 in
theorem p16x_5716_e : ck_ok p1_O none [] [(167, [p16x_5715])] 166 [] 92 p16x_5716 = true := by decide +kernel
theorem p16x_5716_s {X : Int → Int} {LX : Nat} : ck_Ok p1_O X LX 166 p16x_5716 := ck_ok_s (ck_E1 (ck_S1 p16x_5715_s ck_S0) ck_E0) ck_X0 ck_l0 p16x_5716_e
set_option maxRecDepth 100000 in
def p16x_137 : ck_Sum := ((0, 0, 0), 245, [.inr (.inr (.inl 226))], ([], [], [(227, 0, 0, ck_one 3)]), ([], []), [(.inr (some (.inl (ck_one 3))), 245, ([], [], []))])
set_option maxRecDepth 100000 in
theorem p16x_137_e : ck_ok p1_O none [] [] 262 [] 80 p16x_137 = true := by decide +kernel
theorem p16x_137_s {X : Int → Int} {LX : Nat} : ck_Ok p1_O X LX 262 p16x_137 := ck_ok_s (ck_E0) ck_X0 ck_l0 p16x_137_e
set_option maxRecDepth 100000 in
def p16x_138 : ck_Sum := ((0, 0, 0), 245, [.inl ((-2147483648), (-1), none), .inl (ck_one 0), .inl (ck_one 2)], ([], [], []), ([], []), [(.inr (some (.inl (ck_one 0))), 245, ([], [], []))])
set_option maxRecDepth 100000 in
theorem p16x_138_e : ck_ok p1_O none [] [] 287 [] 80 p16x_138 = true := by decide +kernel
theorem p16x_138_s {X : Int → Int} {LX : Nat} : ck_Ok p1_O X LX 287 p16x_138 := ck_ok_s (ck_E0) ck_X0 ck_l0 p16x_138_e
set_option maxRecDepth 100000 in
def p16x_139 : ck_Sum := ((1, 0, 0), 245, [.inr (.inr (.inl 226)), .inl ((-2147483648), (-1), none)], ([], [], [(227, 0, 0, ck_one 3)]), ([], []), [(.inr (some (.inl (ck_one 1))), 245, ([], [], []))])
set_option maxRecDepth 100000 in
theorem p16x_139_e : ck_ok p1_O none [] [(262, [p16x_137]), (287, [p16x_138])] 289 [] 92 p16x_139 = true := by decide +kernel
theorem p16x_139_s {X : Int → Int} {LX : Nat} : ck_Ok p1_O X LX 289 p16x_139 := ck_ok_s (ck_E1 (ck_S1 p16x_137_s ck_S0) (ck_E1 (ck_S1 p16x_138_s ck_S0) ck_E0)) ck_X0 ck_l0 p16x_139_e
set_option maxRecDepth 100000 in
def p16x_140 : ck_Sum := ((0, 0, 0), 245, [.inr (.inr (.inl 226)), .inl (ck_one 1), .inl (ck_one 1)], ([], [], []), ([(226, 0, 0)], []), [(.inr (some (.inl (ck_one 1))), 245, ([], [], [(226, 0, 0, ck_one 1)]))])
set_option maxRecDepth 100000 in
theorem p16x_140_e : ck_ok p1_O none [] [] 283 [] 84 p16x_140 = true := by decide +kernel
theorem p16x_140_s {X : Int → Int} {LX : Nat} : ck_Ok p1_O X LX 283 p16x_140 := ck_ok_s (ck_E0) ck_X0 ck_l0 p16x_140_e
set_option maxRecDepth 100000 in
def p16x_141 : ck_Sum := ((2, 0, 0), 245, [.inr (.inr (.inl 226)), .inl ((-2147483648), (-1), none), .inl ((-2147483648), (-1), none), .inl ((-2147483648), (-1), none), .inl ((-2147483648), (-1), none)], ([], [], [(227, 0, 0, ck_one 3)]), ([(226, 0, 0)], []), [(.inr (some (.inl (ck_one 0))), 245, ([], [], [(226, 0, 0, ck_one 1)]))])
set_option maxRecDepth 100000 in
theorem p16x_141_e : ck_ok p1_O none [] [(289, [p16x_139]), (283, [p16x_140])] 325 [] 94 p16x_141 = true := by decide +kernel
theorem p16x_141_s {X : Int → Int} {LX : Nat} : ck_Ok p1_O X LX 325 p16x_141 := ck_ok_s (ck_E1 (ck_S1 p16x_139_s ck_S0) (ck_E1 (ck_S1 p16x_140_s ck_S0) ck_E0)) ck_X0 ck_l0 p16x_141_e
set_option maxRecDepth 100000 in
def p16x_145 : ck_Sum := ((2, 0, 0), 245, [.inr (.inr (.inl 226)), .inl ((-2147483648), (-1), none), .inl ((-2147483648), (-1), none), .inl ((-2147483648), (-1), none), .inl (ck_one 0)], ([], [], [(227, 0, 0, ck_one 3)]), ([(226, 0, 0)], []), [(.inr (some (.inl (ck_one 0))), 245, ([], [], [(226, 0, 0, ck_one 1)]))])
set_option maxRecDepth 100000 in
theorem p16x_145_e : ck_ok p1_O none [] [(289, [p16x_139]), (283, [p16x_140])] 325 [] 94 p16x_145 = true := by decide +kernel
theorem p16x_145_s {X : Int → Int} {LX : Nat} : ck_Ok p1_O X LX 325 p16x_145 := ck_ok_s (ck_E1 (ck_S1 p16x_139_s ck_S0) (ck_E1 (ck_S1 p16x_140_s ck_S0) ck_E0)) ck_X0 ck_l0 p16x_145_e
set_option maxRecDepth 100000 in
def p16x_148 : ck_Sum := ((2, 0, 0), 245, [.inr (.inr (.inl 226)), .inl ((-2147483648), (-1), none), .inl ((-2147483648), (-1), none), .inl ((-2147483648), (-1), none), .inl (ck_one 1)], ([], [], [(227, 0, 0, ck_one 3)]), ([(226, 0, 0)], []), [(.inr (some (.inl (ck_one 0))), 245, ([], [], [(226, 0, 0, ck_one 1)]))])
set_option maxRecDepth 100000 in
theorem p16x_148_e : ck_ok p1_O none [] [(289, [p16x_139]), (283, [p16x_140])] 325 [] 94 p16x_148 = true := by decide +kernel
theorem p16x_148_s {X : Int → Int} {LX : Nat} : ck_Ok p1_O X LX 325 p16x_148 := ck_ok_s (ck_E1 (ck_S1 p16x_139_s ck_S0) (ck_E1 (ck_S1 p16x_140_s ck_S0) ck_E0)) ck_X0 ck_l0 p16x_148_e
set_option maxRecDepth 100000 in
def p16x_151 : ck_Sum := ((2, 0, 0), 245, [.inr (.inr (.inl 226)), .inl ((-2147483648), (-1), none), .inl ((-2147483648), (-1), none), .inl ((-2147483648), (-1), none), .inl (ck_one 2)], ([], [], [(227, 0, 0, ck_one 3)]), ([(226, 0, 0)], []), [(.inr (some (.inl (ck_one 0))), 245, ([], [], [(226, 0, 0, ck_one 1)]))])
set_option maxRecDepth 100000 in
theorem p16x_151_e : ck_ok p1_O none [] [(289, [p16x_139]), (283, [p16x_140])] 325 [] 94 p16x_151 = true := by decide +kernel
theorem p16x_151_s {X : Int → Int} {LX : Nat} : ck_Ok p1_O X LX 325 p16x_151 := ck_ok_s (ck_E1 (ck_S1 p16x_139_s ck_S0) (ck_E1 (ck_S1 p16x_140_s ck_S0) ck_E0)) ck_X0 ck_l0 p16x_151_e
set_option maxRecDepth 100000 in
def p16x_154 : ck_Sum := ((2, 0, 0), 245, [.inr (.inr (.inl 226)), .inl ((-2147483648), (-1), none), .inl ((-2147483648), (-1), none), .inl ((-2147483648), (-1), none), .inl (3, 2147483647, none)], ([], [], [(227, 0, 0, ck_one 3)]), ([(226, 0, 0)], []), [(.inr (some (.inl (ck_one 0))), 245, ([], [], [(226, 0, 0, ck_one 1)]))])
set_option maxRecDepth 100000 in
theorem p16x_154_e : ck_ok p1_O none [] [(289, [p16x_139]), (283, [p16x_140])] 325 [] 94 p16x_154 = true := by decide +kernel
theorem p16x_154_s {X : Int → Int} {LX : Nat} : ck_Ok p1_O X LX 325 p16x_154 := ck_ok_s (ck_E1 (ck_S1 p16x_139_s ck_S0) (ck_E1 (ck_S1 p16x_140_s ck_S0) ck_E0)) ck_X0 ck_l0 p16x_154_e
set_option maxRecDepth 100000 in
def p16x_157 : ck_Sum := ((2, 0, 0), 245, [.inr (.inr (.inl 226)), .inl ((-2147483648), (-1), none), .inl ((-2147483648), (-1), none), .inl (0, 299, none), .inl ((-2147483648), (-1), none)], ([], [], [(227, 0, 0, ck_one 3)]), ([(226, 0, 0)], []), [(.inr (some (.inl (ck_one 0))), 245, ([], [], [(226, 0, 0, ck_one 1)]))])
set_option maxRecDepth 100000 in
theorem p16x_157_e : ck_ok p1_O none [] [(289, [p16x_139]), (283, [p16x_140])] 325 [] 94 p16x_157 = true := by decide +kernel
theorem p16x_157_s {X : Int → Int} {LX : Nat} : ck_Ok p1_O X LX 325 p16x_157 := ck_ok_s (ck_E1 (ck_S1 p16x_139_s ck_S0) (ck_E1 (ck_S1 p16x_140_s ck_S0) ck_E0)) ck_X0 ck_l0 p16x_157_e
set_option maxRecDepth 100000 in
def p16x_160 : ck_Sum := ((2, 0, 0), 245, [.inr (.inr (.inl 226)), .inl ((-2147483648), (-1), none), .inl ((-2147483648), (-1), none), .inl (0, 299, none), .inl (ck_one 0)], ([], [], [(227, 0, 0, ck_one 3)]), ([(226, 0, 0)], []), [(.inr (some (.inl (ck_one 0))), 245, ([], [], [(226, 0, 0, ck_one 1)]))])
set_option maxRecDepth 100000 in
theorem p16x_160_e : ck_ok p1_O none [] [(289, [p16x_139]), (283, [p16x_140])] 325 [] 94 p16x_160 = true := by decide +kernel
theorem p16x_160_s {X : Int → Int} {LX : Nat} : ck_Ok p1_O X LX 325 p16x_160 := ck_ok_s (ck_E1 (ck_S1 p16x_139_s ck_S0) (ck_E1 (ck_S1 p16x_140_s ck_S0) ck_E0)) ck_X0 ck_l0 p16x_160_e
set_option maxRecDepth 100000 in
def p16x_163 : ck_Sum := ((2, 0, 0), 245, [.inr (.inr (.inl 226)), .inl ((-2147483648), (-1), none), .inl ((-2147483648), (-1), none), .inl (0, 299, none), .inl (ck_one 1)], ([], [], [(227, 0, 0, ck_one 3)]), ([(226, 0, 0)], []), [(.inr (some (.inl (ck_one 0))), 245, ([], [], [(226, 0, 0, ck_one 1)]))])
set_option maxRecDepth 100000 in
theorem p16x_163_e : ck_ok p1_O none [] [(289, [p16x_139]), (283, [p16x_140])] 325 [] 94 p16x_163 = true := by decide +kernel
theorem p16x_163_s {X : Int → Int} {LX : Nat} : ck_Ok p1_O X LX 325 p16x_163 := ck_ok_s (ck_E1 (ck_S1 p16x_139_s ck_S0) (ck_E1 (ck_S1 p16x_140_s ck_S0) ck_E0)) ck_X0 ck_l0 p16x_163_e
set_option maxRecDepth 100000 in
def p16x_166 : ck_Sum := ((2, 0, 0), 245, [.inr (.inr (.inl 226)), .inl ((-2147483648), (-1), none), .inl ((-2147483648), (-1), none), .inl (0, 299, none), .inl (ck_one 2)], ([], [], [(227, 0, 0, ck_one 3)]), ([(226, 0, 0)], []), [(.inr (some (.inl (ck_one 0))), 245, ([], [], [(226, 0, 0, ck_one 1)]))])
set_option maxRecDepth 100000 in
theorem p16x_166_e : ck_ok p1_O none [] [(289, [p16x_139]), (283, [p16x_140])] 325 [] 94 p16x_166 = true := by decide +kernel
theorem p16x_166_s {X : Int → Int} {LX : Nat} : ck_Ok p1_O X LX 325 p16x_166 := ck_ok_s (ck_E1 (ck_S1 p16x_139_s ck_S0) (ck_E1 (ck_S1 p16x_140_s ck_S0) ck_E0)) ck_X0 ck_l0 p16x_166_e
set_option maxRecDepth 100000 in
def p16x_169 : ck_Sum := ((2, 0, 0), 245, [.inr (.inr (.inl 226)), .inl ((-2147483648), (-1), none), .inl ((-2147483648), (-1), none), .inl (0, 299, none), .inl (3, 2147483647, none)], ([], [], [(227, 0, 0, ck_one 3)]), ([(226, 0, 0)], []), [(.inr (some (.inl (ck_one 0))), 245, ([], [], [(226, 0, 0, ck_one 1)]))])
set_option maxRecDepth 100000 in
theorem p16x_169_e : ck_ok p1_O none [] [(289, [p16x_139]), (283, [p16x_140])] 325 [] 94 p16x_169 = true := by decide +kernel
theorem p16x_169_s {X : Int → Int} {LX : Nat} : ck_Ok p1_O X LX 325 p16x_169 := ck_ok_s (ck_E1 (ck_S1 p16x_139_s ck_S0) (ck_E1 (ck_S1 p16x_140_s ck_S0) ck_E0)) ck_X0 ck_l0 p16x_169_e
set_option maxRecDepth 100000 in
def p16x_172 : ck_Sum := ((2, 0, 0), 245, [.inr (.inr (.inl 226)), .inl ((-2147483648), (-1), none), .inl ((-2147483648), (-1), none), .inl (300, 2147483647, none), .inl ((-2147483648), (-1), none)], ([], [], [(227, 0, 0, ck_one 3)]), ([(226, 0, 0)], []), [(.inr (some (.inl (ck_one 0))), 245, ([], [], [(226, 0, 0, ck_one 1)]))])
set_option maxRecDepth 100000 in
theorem p16x_172_e : ck_ok p1_O none [] [(289, [p16x_139]), (283, [p16x_140])] 325 [] 94 p16x_172 = true := by decide +kernel
theorem p16x_172_s {X : Int → Int} {LX : Nat} : ck_Ok p1_O X LX 325 p16x_172 := ck_ok_s (ck_E1 (ck_S1 p16x_139_s ck_S0) (ck_E1 (ck_S1 p16x_140_s ck_S0) ck_E0)) ck_X0 ck_l0 p16x_172_e
set_option maxRecDepth 100000 in
def p16x_175 : ck_Sum := ((2, 0, 0), 245, [.inr (.inr (.inl 226)), .inl ((-2147483648), (-1), none), .inl ((-2147483648), (-1), none), .inl (300, 2147483647, none), .inl (ck_one 0)], ([], [], [(227, 0, 0, ck_one 3)]), ([(226, 0, 0)], []), [(.inr (some (.inl (ck_one 0))), 245, ([], [], [(226, 0, 0, ck_one 1)]))])
set_option maxRecDepth 100000 in
theorem p16x_175_e : ck_ok p1_O none [] [(289, [p16x_139]), (283, [p16x_140])] 325 [] 94 p16x_175 = true := by decide +kernel
theorem p16x_175_s {X : Int → Int} {LX : Nat} : ck_Ok p1_O X LX 325 p16x_175 := ck_ok_s (ck_E1 (ck_S1 p16x_139_s ck_S0) (ck_E1 (ck_S1 p16x_140_s ck_S0) ck_E0)) ck_X0 ck_l0 p16x_175_e
set_option maxRecDepth 100000 in
def p16x_178 : ck_Sum := ((2, 0, 0), 245, [.inr (.inr (.inl 226)), .inl ((-2147483648), (-1), none), .inl ((-2147483648), (-1), none), .inl (300, 2147483647, none), .inl (ck_one 1)], ([], [], [(227, 0, 0, ck_one 3)]), ([(226, 0, 0)], []), [(.inr (some (.inl (ck_one 0))), 245, ([], [], [(226, 0, 0, ck_one 1)]))])
set_option maxRecDepth 100000 in
theorem p16x_178_e : ck_ok p1_O none [] [(289, [p16x_139]), (283, [p16x_140])] 325 [] 94 p16x_178 = true := by decide +kernel
theorem p16x_178_s {X : Int → Int} {LX : Nat} : ck_Ok p1_O X LX 325 p16x_178 := ck_ok_s (ck_E1 (ck_S1 p16x_139_s ck_S0) (ck_E1 (ck_S1 p16x_140_s ck_S0) ck_E0)) ck_X0 ck_l0 p16x_178_e
set_option maxRecDepth 100000 in
def p16x_181 : ck_Sum := ((2, 0, 0), 245, [.inr (.inr (.inl 226)), .inl ((-2147483648), (-1), none), .inl ((-2147483648), (-1), none), .inl (300, 2147483647, none), .inl (ck_one 2)], ([], [], [(227, 0, 0, ck_one 3)]), ([(226, 0, 0)], []), [(.inr (some (.inl (ck_one 0))), 245, ([], [], [(226, 0, 0, ck_one 1)]))])
set_option maxRecDepth 100000 in
theorem p16x_181_e : ck_ok p1_O none [] [(289, [p16x_139]), (283, [p16x_140])] 325 [] 94 p16x_181 = true := by decide +kernel
theorem p16x_181_s {X : Int → Int} {LX : Nat} : ck_Ok p1_O X LX 325 p16x_181 := ck_ok_s (ck_E1 (ck_S1 p16x_139_s ck_S0) (ck_E1 (ck_S1 p16x_140_s ck_S0) ck_E0)) ck_X0 ck_l0 p16x_181_e
set_option maxRecDepth 100000 in
def p16x_184 : ck_Sum := ((2, 0, 0), 245, [.inr (.inr (.inl 226)), .inl ((-2147483648), (-1), none), .inl ((-2147483648), (-1), none), .inl (300, 2147483647, none), .inl (3, 2147483647, none)], ([], [], [(227, 0, 0, ck_one 3)]), ([(226, 0, 0)], []), [(.inr (some (.inl (ck_one 0))), 245, ([], [], [(226, 0, 0, ck_one 1)]))])
set_option maxRecDepth 100000 in
theorem p16x_184_e : ck_ok p1_O none [] [(289, [p16x_139]), (283, [p16x_140])] 325 [] 94 p16x_184 = true := by decide +kernel
theorem p16x_184_s {X : Int → Int} {LX : Nat} : ck_Ok p1_O X LX 325 p16x_184 := ck_ok_s (ck_E1 (ck_S1 p16x_139_s ck_S0) (ck_E1 (ck_S1 p16x_140_s ck_S0) ck_E0)) ck_X0 ck_l0 p16x_184_e
set_option maxRecDepth 100000 in
def p16x_187 : ck_Sum := ((2, 0, 0), 245, [.inr (.inr (.inl 226)), .inl ((-2147483648), (-1), none), .inl (0, 299, none), .inl ((-2147483648), (-1), none), .inl ((-2147483648), (-1), none)], ([], [], [(227, 0, 0, ck_one 3)]), ([(226, 0, 0)], []), [(.inr (some (.inl (ck_one 0))), 245, ([], [], [(226, 0, 0, ck_one 1)]))])
set_option maxRecDepth 100000 in
theorem p16x_187_e : ck_ok p1_O none [] [(289, [p16x_139]), (283, [p16x_140])] 325 [] 94 p16x_187 = true := by decide +kernel
theorem p16x_187_s {X : Int → Int} {LX : Nat} : ck_Ok p1_O X LX 325 p16x_187 := ck_ok_s (ck_E1 (ck_S1 p16x_139_s ck_S0) (ck_E1 (ck_S1 p16x_140_s ck_S0) ck_E0)) ck_X0 ck_l0 p16x_187_e
set_option maxRecDepth 100000 in
def p16x_190 : ck_Sum := ((2, 0, 0), 245, [.inr (.inr (.inl 226)), .inl ((-2147483648), (-1), none), .inl (0, 299, none), .inl ((-2147483648), (-1), none), .inl (ck_one 0)], ([], [], [(227, 0, 0, ck_one 3)]), ([(226, 0, 0)], []), [(.inr (some (.inl (ck_one 0))), 245, ([], [], [(226, 0, 0, ck_one 1)]))])
set_option maxRecDepth 100000 in
theorem p16x_190_e : ck_ok p1_O none [] [(289, [p16x_139]), (283, [p16x_140])] 325 [] 94 p16x_190 = true := by decide +kernel
theorem p16x_190_s {X : Int → Int} {LX : Nat} : ck_Ok p1_O X LX 325 p16x_190 := ck_ok_s (ck_E1 (ck_S1 p16x_139_s ck_S0) (ck_E1 (ck_S1 p16x_140_s ck_S0) ck_E0)) ck_X0 ck_l0 p16x_190_e
set_option maxRecDepth 100000 in
def p16x_193 : ck_Sum := ((2, 0, 0), 245, [.inr (.inr (.inl 226)), .inl ((-2147483648), (-1), none), .inl (0, 299, none), .inl ((-2147483648), (-1), none), .inl (ck_one 1)], ([], [], [(227, 0, 0, ck_one 3)]), ([(226, 0, 0)], []), [(.inr (some (.inl (ck_one 0))), 245, ([], [], [(226, 0, 0, ck_one 1)]))])
set_option maxRecDepth 100000 in
theorem p16x_193_e : ck_ok p1_O none [] [(289, [p16x_139]), (283, [p16x_140])] 325 [] 94 p16x_193 = true := by decide +kernel
theorem p16x_193_s {X : Int → Int} {LX : Nat} : ck_Ok p1_O X LX 325 p16x_193 := ck_ok_s (ck_E1 (ck_S1 p16x_139_s ck_S0) (ck_E1 (ck_S1 p16x_140_s ck_S0) ck_E0)) ck_X0 ck_l0 p16x_193_e
set_option maxRecDepth 100000 in
def p16x_196 : ck_Sum := ((2, 0, 0), 245, [.inr (.inr (.inl 226)), .inl ((-2147483648), (-1), none), .inl (0, 299, none), .inl ((-2147483648), (-1), none), .inl (ck_one 2)], ([], [], [(227, 0, 0, ck_one 3)]), ([(226, 0, 0)], []), [(.inr (some (.inl (ck_one 0))), 245, ([], [], [(226, 0, 0, ck_one 1)]))])
set_option maxRecDepth 100000 in
theorem p16x_196_e : ck_ok p1_O none [] [(289, [p16x_139]), (283, [p16x_140])] 325 [] 94 p16x_196 = true := by decide +kernel
theorem p16x_196_s {X : Int → Int} {LX : Nat} : ck_Ok p1_O X LX 325 p16x_196 := ck_ok_s (ck_E1 (ck_S1 p16x_139_s ck_S0) (ck_E1 (ck_S1 p16x_140_s ck_S0) ck_E0)) ck_X0 ck_l0 p16x_196_e
set_option maxRecDepth 100000 in
def p16x_199 : ck_Sum := ((2, 0, 0), 245, [.inr (.inr (.inl 226)), .inl ((-2147483648), (-1), none), .inl (0, 299, none), .inl ((-2147483648), (-1), none), .inl (3, 2147483647, none)], ([], [], [(227, 0, 0, ck_one 3)]), ([(226, 0, 0)], []), [(.inr (some (.inl (ck_one 0))), 245, ([], [], [(226, 0, 0, ck_one 1)]))])
set_option maxRecDepth 100000 in
theorem p16x_199_e : ck_ok p1_O none [] [(289, [p16x_139]), (283, [p16x_140])] 325 [] 94 p16x_199 = true := by decide +kernel
theorem p16x_199_s {X : Int → Int} {LX : Nat} : ck_Ok p1_O X LX 325 p16x_199 := ck_ok_s (ck_E1 (ck_S1 p16x_139_s ck_S0) (ck_E1 (ck_S1 p16x_140_s ck_S0) ck_E0)) ck_X0 ck_l0 p16x_199_e
set_option maxRecDepth 100000 in
def p16x_202 : ck_Sum := ((2, 0, 0), 245, [.inr (.inr (.inl 226)), .inl ((-2147483648), (-1), none), .inl (0, 299, none), .inl (0, 299, none), .inl ((-2147483648), (-1), none)], ([], [], [(227, 0, 0, ck_one 3)]), ([(226, 0, 0)], []), [(.inr (some (.inl (ck_one 0))), 245, ([], [], [(226, 0, 0, ck_one 1)]))])
set_option maxRecDepth 100000 in
theorem p16x_202_e : ck_ok p1_O none [] [(289, [p16x_139]), (283, [p16x_140])] 325 [] 94 p16x_202 = true := by decide +kernel
theorem p16x_202_s {X : Int → Int} {LX : Nat} : ck_Ok p1_O X LX 325 p16x_202 := ck_ok_s (ck_E1 (ck_S1 p16x_139_s ck_S0) (ck_E1 (ck_S1 p16x_140_s ck_S0) ck_E0)) ck_X0 ck_l0 p16x_202_e
set_option maxRecDepth 100000 in
def p16x_205 : ck_Sum := ((2, 0, 0), 245, [.inr (.inr (.inl 226)), .inl ((-2147483648), (-1), none), .inl (0, 299, none), .inl (0, 299, none), .inl (ck_one 0)], ([], [], [(227, 0, 0, ck_one 3)]), ([(226, 0, 0)], []), [(.inr (some (.inl (ck_one 0))), 245, ([], [], [(226, 0, 0, ck_one 1)]))])
set_option maxRecDepth 100000 in
theorem p16x_205_e : ck_ok p1_O none [] [(289, [p16x_139]), (283, [p16x_140])] 325 [] 94 p16x_205 = true := by decide +kernel
theorem p16x_205_s {X : Int → Int} {LX : Nat} : ck_Ok p1_O X LX 325 p16x_205 := ck_ok_s (ck_E1 (ck_S1 p16x_139_s ck_S0) (ck_E1 (ck_S1 p16x_140_s ck_S0) ck_E0)) ck_X0 ck_l0 p16x_205_e
set_option maxRecDepth 100000 in
def p16x_208 : ck_Sum := ((2, 0, 0), 245, [.inr (.inr (.inl 226)), .inl ((-2147483648), (-1), none), .inl (0, 299, none), .inl (0, 299, none), .inl (ck_one 1)], ([], [], [(227, 0, 0, ck_one 3)]), ([(226, 0, 0)], []), [(.inr (some (.inl (ck_one 0))), 245, ([], [], [(226, 0, 0, ck_one 1)]))])
set_option maxRecDepth 100000 in
theorem p16x_208_e : ck_ok p1_O none [] [(289, [p16x_139]), (283, [p16x_140])] 325 [] 94 p16x_208 = true := by decide +kernel
theorem p16x_208_s {X : Int → Int} {LX : Nat} : ck_Ok p1_O X LX 325 p16x_208 := ck_ok_s (ck_E1 (ck_S1 p16x_139_s ck_S0) (ck_E1 (ck_S1 p16x_140_s ck_S0) ck_E0)) ck_X0 ck_l0 p16x_208_e
set_option maxRecDepth 100000 in
def p16x_211 : ck_Sum := ((2, 0, 0), 245, [.inr (.inr (.inl 226)), .inl ((-2147483648), (-1), none), .inl (0, 299, none), .inl (0, 299, none), .inl (ck_one 2)], ([], [], [(227, 0, 0, ck_one 3)]), ([(226, 0, 0)], []), [(.inr (some (.inl (ck_one 0))), 245, ([], [], [(226, 0, 0, ck_one 1)]))])
set_option maxRecDepth 100000 in
theorem p16x_211_e : ck_ok p1_O none [] [(289, [p16x_139]), (283, [p16x_140])] 325 [] 94 p16x_211 = true := by decide +kernel
theorem p16x_211_s {X : Int → Int} {LX : Nat} : ck_Ok p1_O X LX 325 p16x_211 := ck_ok_s (ck_E1 (ck_S1 p16x_139_s ck_S0) (ck_E1 (ck_S1 p16x_140_s ck_S0) ck_E0)) ck_X0 ck_l0 p16x_211_e
set_option maxRecDepth 100000 in
def p16x_214 : ck_Sum := ((2, 0, 0), 245, [.inr (.inr (.inl 226)), .inl ((-2147483648), (-1), none), .inl (0, 299, none), .inl (0, 299, none), .inl (3, 2147483647, none)], ([], [], [(227, 0, 0, ck_one 3)]), ([(226, 0, 0)], []), [(.inr (some (.inl (ck_one 0))), 245, ([], [], [(226, 0, 0, ck_one 1)]))])
set_option maxRecDepth 100000 in
theorem p16x_214_e : ck_ok p1_O none [] [(289, [p16x_139]), (283, [p16x_140])] 325 [] 94 p16x_214 = true := by decide +kernel
theorem p16x_214_s {X : Int → Int} {LX : Nat} : ck_Ok p1_O X LX 325 p16x_214 := ck_ok_s (ck_E1 (ck_S1 p16x_139_s ck_S0) (ck_E1 (ck_S1 p16x_140_s ck_S0) ck_E0)) ck_X0 ck_l0 p16x_214_e
set_option maxRecDepth 100000 in
def p16x_217 : ck_Sum := ((2, 0, 0), 245, [.inr (.inr (.inl 226)), .inl ((-2147483648), (-1), none), .inl (0, 299, none), .inl (300, 2147483647, none), .inl ((-2147483648), (-1), none)], ([], [], [(227, 0, 0, ck_one 3)]), ([(226, 0, 0)], []), [(.inr (some (.inl (ck_one 0))), 245, ([], [], [(226, 0, 0, ck_one 1)]))])
set_option maxRecDepth 100000 in
theorem p16x_217_e : ck_ok p1_O none [] [(289, [p16x_139]), (283, [p16x_140])] 325 [] 94 p16x_217 = true := by decide +kernel
theorem p16x_217_s {X : Int → Int} {LX : Nat} : ck_Ok p1_O X LX 325 p16x_217 := ck_ok_s (ck_E1 (ck_S1 p16x_139_s ck_S0) (ck_E1 (ck_S1 p16x_140_s ck_S0) ck_E0)) ck_X0 ck_l0 p16x_217_e
set_option maxRecDepth 100000 in
def p16x_220 : ck_Sum := ((2, 0, 0), 245, [.inr (.inr (.inl 226)), .inl ((-2147483648), (-1), none), .inl (0, 299, none), .inl (300, 2147483647, none), .inl (ck_one 0)], ([], [], [(227, 0, 0, ck_one 3)]), ([(226, 0, 0)], []), [(.inr (some (.inl (ck_one 0))), 245, ([], [], [(226, 0, 0, ck_one 1)]))])
set_option maxRecDepth 100000 in
theorem p16x_220_e : ck_ok p1_O none [] [(289, [p16x_139]), (283, [p16x_140])] 325 [] 94 p16x_220 = true := by decide +kernel
theorem p16x_220_s {X : Int → Int} {LX : Nat} : ck_Ok p1_O X LX 325 p16x_220 := ck_ok_s (ck_E1 (ck_S1 p16x_139_s ck_S0) (ck_E1 (ck_S1 p16x_140_s ck_S0) ck_E0)) ck_X0 ck_l0 p16x_220_e
set_option maxRecDepth 100000 in
def p16x_223 : ck_Sum := ((2, 0, 0), 245, [.inr (.inr (.inl 226)), .inl ((-2147483648), (-1), none), .inl (0, 299, none), .inl (300, 2147483647, none), .inl (ck_one 1)], ([], [], [(227, 0, 0, ck_one 3)]), ([(226, 0, 0)], []), [(.inr (some (.inl (ck_one 0))), 245, ([], [], [(226, 0, 0, ck_one 1)]))])
set_option maxRecDepth 100000 in
theorem p16x_223_e : ck_ok p1_O none [] [(289, [p16x_139]), (283, [p16x_140])] 325 [] 94 p16x_223 = true := by decide +kernel
theorem p16x_223_s {X : Int → Int} {LX : Nat} : ck_Ok p1_O X LX 325 p16x_223 := ck_ok_s (ck_E1 (ck_S1 p16x_139_s ck_S0) (ck_E1 (ck_S1 p16x_140_s ck_S0) ck_E0)) ck_X0 ck_l0 p16x_223_e
set_option maxRecDepth 100000 in
def p16x_226 : ck_Sum := ((2, 0, 0), 245, [.inr (.inr (.inl 226)), .inl ((-2147483648), (-1), none), .inl (0, 299, none), .inl (300, 2147483647, none), .inl (ck_one 2)], ([], [], [(227, 0, 0, ck_one 3)]), ([(226, 0, 0)], []), [(.inr (some (.inl (ck_one 0))), 245, ([], [], [(226, 0, 0, ck_one 1)]))])
set_option maxRecDepth 100000 in
theorem p16x_226_e : ck_ok p1_O none [] [(289, [p16x_139]), (283, [p16x_140])] 325 [] 94 p16x_226 = true := by decide +kernel
theorem p16x_226_s {X : Int → Int} {LX : Nat} : ck_Ok p1_O X LX 325 p16x_226 := ck_ok_s (ck_E1 (ck_S1 p16x_139_s ck_S0) (ck_E1 (ck_S1 p16x_140_s ck_S0) ck_E0)) ck_X0 ck_l0 p16x_226_e
set_option maxRecDepth 100000 in
def p16x_229 : ck_Sum := ((2, 0, 0), 245, [.inr (.inr (.inl 226)), .inl ((-2147483648), (-1), none), .inl (0, 299, none), .inl (300, 2147483647, none), .inl (3, 2147483647, none)], ([], [], [(227, 0, 0, ck_one 3)]), ([(226, 0, 0)], []), [(.inr (some (.inl (ck_one 0))), 245, ([], [], [(226, 0, 0, ck_one 1)]))])
set_option maxRecDepth 100000 in
theorem p16x_229_e : ck_ok p1_O none [] [(289, [p16x_139]), (283, [p16x_140])] 325 [] 94 p16x_229 = true := by decide +kernel
theorem p16x_229_s {X : Int → Int} {LX : Nat} : ck_Ok p1_O X LX 325 p16x_229 := ck_ok_s (ck_E1 (ck_S1 p16x_139_s ck_S0) (ck_E1 (ck_S1 p16x_140_s ck_S0) ck_E0)) ck_X0 ck_l0 p16x_229_e
set_option maxRecDepth 100000 in
def p16x_232 : ck_Sum := ((2, 0, 0), 245, [.inr (.inr (.inl 226)), .inl ((-2147483648), (-1), none), .inl (300, 2147483647, none), .inl ((-2147483648), (-1), none), .inl ((-2147483648), (-1), none)], ([], [], [(227, 0, 0, ck_one 3)]), ([(226, 0, 0)], []), [(.inr (some (.inl (ck_one 0))), 245, ([], [], [(226, 0, 0, ck_one 1)]))])
set_option maxRecDepth 100000 in
theorem p16x_232_e : ck_ok p1_O none [] [(289, [p16x_139]), (283, [p16x_140])] 325 [] 94 p16x_232 = true := by decide +kernel
theorem p16x_232_s {X : Int → Int} {LX : Nat} : ck_Ok p1_O X LX 325 p16x_232 := ck_ok_s (ck_E1 (ck_S1 p16x_139_s ck_S0) (ck_E1 (ck_S1 p16x_140_s ck_S0) ck_E0)) ck_X0 ck_l0 p16x_232_e
set_option maxRecDepth 100000 in
def p16x_235 : ck_Sum := ((2, 0, 0), 245, [.inr (.inr (.inl 226)), .inl ((-2147483648), (-1), none), .inl (300, 2147483647, none), .inl ((-2147483648), (-1), none), .inl (ck_one 0)], ([], [], [(227, 0, 0, ck_one 3)]), ([(226, 0, 0)], []), [(.inr (some (.inl (ck_one 0))), 245, ([], [], [(226, 0, 0, ck_one 1)]))])
set_option maxRecDepth 100000 in
theorem p16x_235_e : ck_ok p1_O none [] [(289, [p16x_139]), (283, [p16x_140])] 325 [] 94 p16x_235 = true := by decide +kernel
theorem p16x_235_s {X : Int → Int} {LX : Nat} : ck_Ok p1_O X LX 325 p16x_235 := ck_ok_s (ck_E1 (ck_S1 p16x_139_s ck_S0) (ck_E1 (ck_S1 p16x_140_s ck_S0) ck_E0)) ck_X0 ck_l0 p16x_235_e
set_option maxRecDepth 100000 in
def p16x_238 : ck_Sum := ((2, 0, 0), 245, [.inr (.inr (.inl 226)), .inl ((-2147483648), (-1), none), .inl (300, 2147483647, none), .inl ((-2147483648), (-1), none), .inl (ck_one 1)], ([], [], [(227, 0, 0, ck_one 3)]), ([(226, 0, 0)], []), [(.inr (some (.inl (ck_one 0))), 245, ([], [], [(226, 0, 0, ck_one 1)]))])
set_option maxRecDepth 100000 in
theorem p16x_238_e : ck_ok p1_O none [] [(289, [p16x_139]), (283, [p16x_140])] 325 [] 94 p16x_238 = true := by decide +kernel
theorem p16x_238_s {X : Int → Int} {LX : Nat} : ck_Ok p1_O X LX 325 p16x_238 := ck_ok_s (ck_E1 (ck_S1 p16x_139_s ck_S0) (ck_E1 (ck_S1 p16x_140_s ck_S0) ck_E0)) ck_X0 ck_l0 p16x_238_e
set_option maxRecDepth 100000 in
def p16x_241 : ck_Sum := ((2, 0, 0), 245, [.inr (.inr (.inl 226)), .inl ((-2147483648), (-1), none), .inl (300, 2147483647, none), .inl ((-2147483648), (-1), none), .inl (ck_one 2)], ([], [], [(227, 0, 0, ck_one 3)]), ([(226, 0, 0)], []), [(.inr (some (.inl (ck_one 0))), 245, ([], [], [(226, 0, 0, ck_one 1)]))])
set_option maxRecDepth 100000 in
theorem p16x_241_e : ck_ok p1_O none [] [(289, [p16x_139]), (283, [p16x_140])] 325 [] 94 p16x_241 = true := by decide +kernel
theorem p16x_241_s {X : Int → Int} {LX : Nat} : ck_Ok p1_O X LX 325 p16x_241 := ck_ok_s (ck_E1 (ck_S1 p16x_139_s ck_S0) (ck_E1 (ck_S1 p16x_140_s ck_S0) ck_E0)) ck_X0 ck_l0 p16x_241_e
set_option maxRecDepth 100000 in
def p16x_244 : ck_Sum := ((2, 0, 0), 245, [.inr (.inr (.inl 226)), .inl ((-2147483648), (-1), none), .inl (300, 2147483647, none), .inl ((-2147483648), (-1), none), .inl (3, 2147483647, none)], ([], [], [(227, 0, 0, ck_one 3)]), ([(226, 0, 0)], []), [(.inr (some (.inl (ck_one 0))), 245, ([], [], [(226, 0, 0, ck_one 1)]))])
set_option maxRecDepth 100000 in
theorem p16x_244_e : ck_ok p1_O none [] [(289, [p16x_139]), (283, [p16x_140])] 325 [] 94 p16x_244 = true := by decide +kernel
theorem p16x_244_s {X : Int → Int} {LX : Nat} : ck_Ok p1_O X LX 325 p16x_244 := ck_ok_s (ck_E1 (ck_S1 p16x_139_s ck_S0) (ck_E1 (ck_S1 p16x_140_s ck_S0) ck_E0)) ck_X0 ck_l0 p16x_244_e
set_option maxRecDepth 100000 in
def p16x_247 : ck_Sum := ((2, 0, 0), 245, [.inr (.inr (.inl 226)), .inl ((-2147483648), (-1), none), .inl (300, 2147483647, none), .inl (0, 299, none), .inl ((-2147483648), (-1), none)], ([], [], [(227, 0, 0, ck_one 3)]), ([(226, 0, 0)], []), [(.inr (some (.inl (ck_one 0))), 245, ([], [], [(226, 0, 0, ck_one 1)]))])
set_option maxRecDepth 100000 in
theorem p16x_247_e : ck_ok p1_O none [] [(289, [p16x_139]), (283, [p16x_140])] 325 [] 94 p16x_247 = true := by decide +kernel
theorem p16x_247_s {X : Int → Int} {LX : Nat} : ck_Ok p1_O X LX 325 p16x_247 := ck_ok_s (ck_E1 (ck_S1 p16x_139_s ck_S0) (ck_E1 (ck_S1 p16x_140_s ck_S0) ck_E0)) ck_X0 ck_l0 p16x_247_e
set_option maxRecDepth 100000 in
def p16x_250 : ck_Sum := ((2, 0, 0), 245, [.inr (.inr (.inl 226)), .inl ((-2147483648), (-1), none), .inl (300, 2147483647, none), .inl (0, 299, none), .inl (ck_one 0)], ([], [], [(227, 0, 0, ck_one 3)]), ([(226, 0, 0)], []), [(.inr (some (.inl (ck_one 0))), 245, ([], [], [(226, 0, 0, ck_one 1)]))])
set_option maxRecDepth 100000 in
theorem p16x_250_e : ck_ok p1_O none [] [(289, [p16x_139]), (283, [p16x_140])] 325 [] 94 p16x_250 = true := by decide +kernel
theorem p16x_250_s {X : Int → Int} {LX : Nat} : ck_Ok p1_O X LX 325 p16x_250 := ck_ok_s (ck_E1 (ck_S1 p16x_139_s ck_S0) (ck_E1 (ck_S1 p16x_140_s ck_S0) ck_E0)) ck_X0 ck_l0 p16x_250_e
set_option maxRecDepth 100000 in
def p16x_253 : ck_Sum := ((2, 0, 0), 245, [.inr (.inr (.inl 226)), .inl ((-2147483648), (-1), none), .inl (300, 2147483647, none), .inl (0, 299, none), .inl (ck_one 1)], ([], [], [(227, 0, 0, ck_one 3)]), ([(226, 0, 0)], []), [(.inr (some (.inl (ck_one 0))), 245, ([], [], [(226, 0, 0, ck_one 1)]))])
set_option maxRecDepth 100000 in
theorem p16x_253_e : ck_ok p1_O none [] [(289, [p16x_139]), (283, [p16x_140])] 325 [] 94 p16x_253 = true := by decide +kernel
theorem p16x_253_s {X : Int → Int} {LX : Nat} : ck_Ok p1_O X LX 325 p16x_253 := ck_ok_s (ck_E1 (ck_S1 p16x_139_s ck_S0) (ck_E1 (ck_S1 p16x_140_s ck_S0) ck_E0)) ck_X0 ck_l0 p16x_253_e
set_option maxRecDepth 100000 in
def p16x_256 : ck_Sum := ((2, 0, 0), 245, [.inr (.inr (.inl 226)), .inl ((-2147483648), (-1), none), .inl (300, 2147483647, none), .inl (0, 299, none), .inl (ck_one 2)], ([], [], [(227, 0, 0, ck_one 3)]), ([(226, 0, 0)], []), [(.inr (some (.inl (ck_one 0))), 245, ([], [], [(226, 0, 0, ck_one 1)]))])
set_option maxRecDepth 100000 in
theorem p16x_256_e : ck_ok p1_O none [] [(289, [p16x_139]), (283, [p16x_140])] 325 [] 94 p16x_256 = true := by decide +kernel
theorem p16x_256_s {X : Int → Int} {LX : Nat} : ck_Ok p1_O X LX 325 p16x_256 := ck_ok_s (ck_E1 (ck_S1 p16x_139_s ck_S0) (ck_E1 (ck_S1 p16x_140_s ck_S0) ck_E0)) ck_X0 ck_l0 p16x_256_e
set_option maxRecDepth 100000 in
def p16x_259 : ck_Sum := ((2, 0, 0), 245, [.inr (.inr (.inl 226)), .inl ((-2147483648), (-1), none), .inl (300, 2147483647, none), .inl (0, 299, none), .inl (3, 2147483647, none)], ([], [], [(227, 0, 0, ck_one 3)]), ([(226, 0, 0)], []), [(.inr (some (.inl (ck_one 0))), 245, ([], [], [(226, 0, 0, ck_one 1)]))])
set_option maxRecDepth 100000 in
theorem p16x_259_e : ck_ok p1_O none [] [(289, [p16x_139]), (283, [p16x_140])] 325 [] 94 p16x_259 = true := by decide +kernel
theorem p16x_259_s {X : Int → Int} {LX : Nat} : ck_Ok p1_O X LX 325 p16x_259 := ck_ok_s (ck_E1 (ck_S1 p16x_139_s ck_S0) (ck_E1 (ck_S1 p16x_140_s ck_S0) ck_E0)) ck_X0 ck_l0 p16x_259_e
set_option maxRecDepth 100000 in
def p16x_262 : ck_Sum := ((2, 0, 0), 245, [.inr (.inr (.inl 226)), .inl ((-2147483648), (-1), none), .inl (300, 2147483647, none), .inl (300, 2147483647, none), .inl ((-2147483648), (-1), none)], ([], [], [(227, 0, 0, ck_one 3)]), ([(226, 0, 0)], []), [(.inr (some (.inl (ck_one 0))), 245, ([], [], [(226, 0, 0, ck_one 1)]))])
set_option maxRecDepth 100000 in
theorem p16x_262_e : ck_ok p1_O none [] [(289, [p16x_139]), (283, [p16x_140])] 325 [] 94 p16x_262 = true := by decide +kernel
theorem p16x_262_s {X : Int → Int} {LX : Nat} : ck_Ok p1_O X LX 325 p16x_262 := ck_ok_s (ck_E1 (ck_S1 p16x_139_s ck_S0) (ck_E1 (ck_S1 p16x_140_s ck_S0) ck_E0)) ck_X0 ck_l0 p16x_262_e
set_option maxRecDepth 100000 in
def p16x_265 : ck_Sum := ((2, 0, 0), 245, [.inr (.inr (.inl 226)), .inl ((-2147483648), (-1), none), .inl (300, 2147483647, none), .inl (300, 2147483647, none), .inl (ck_one 0)], ([], [], [(227, 0, 0, ck_one 3)]), ([(226, 0, 0)], []), [(.inr (some (.inl (ck_one 0))), 245, ([], [], [(226, 0, 0, ck_one 1)]))])
set_option maxRecDepth 100000 in
theorem p16x_265_e : ck_ok p1_O none [] [(289, [p16x_139]), (283, [p16x_140])] 325 [] 94 p16x_265 = true := by decide +kernel
theorem p16x_265_s {X : Int → Int} {LX : Nat} : ck_Ok p1_O X LX 325 p16x_265 := ck_ok_s (ck_E1 (ck_S1 p16x_139_s ck_S0) (ck_E1 (ck_S1 p16x_140_s ck_S0) ck_E0)) ck_X0 ck_l0 p16x_265_e
set_option maxRecDepth 100000 in
def p16x_268 : ck_Sum := ((2, 0, 0), 245, [.inr (.inr (.inl 226)), .inl ((-2147483648), (-1), none), .inl (300, 2147483647, none), .inl (300, 2147483647, none), .inl (ck_one 1)], ([], [], [(227, 0, 0, ck_one 3)]), ([(226, 0, 0)], []), [(.inr (some (.inl (ck_one 0))), 245, ([], [], [(226, 0, 0, ck_one 1)]))])
set_option maxRecDepth 100000 in
theorem p16x_268_e : ck_ok p1_O none [] [(289, [p16x_139]), (283, [p16x_140])] 325 [] 94 p16x_268 = true := by decide +kernel
theorem p16x_268_s {X : Int → Int} {LX : Nat} : ck_Ok p1_O X LX 325 p16x_268 := ck_ok_s (ck_E1 (ck_S1 p16x_139_s ck_S0) (ck_E1 (ck_S1 p16x_140_s ck_S0) ck_E0)) ck_X0 ck_l0 p16x_268_e
set_option maxRecDepth 100000 in
def p16x_271 : ck_Sum := ((2, 0, 0), 245, [.inr (.inr (.inl 226)), .inl ((-2147483648), (-1), none), .inl (300, 2147483647, none), .inl (300, 2147483647, none), .inl (ck_one 2)], ([], [], [(227, 0, 0, ck_one 3)]), ([(226, 0, 0)], []), [(.inr (some (.inl (ck_one 0))), 245, ([], [], [(226, 0, 0, ck_one 1)]))])
set_option maxRecDepth 100000 in
theorem p16x_271_e : ck_ok p1_O none [] [(289, [p16x_139]), (283, [p16x_140])] 325 [] 94 p16x_271 = true := by decide +kernel
theorem p16x_271_s {X : Int → Int} {LX : Nat} : ck_Ok p1_O X LX 325 p16x_271 := ck_ok_s (ck_E1 (ck_S1 p16x_139_s ck_S0) (ck_E1 (ck_S1 p16x_140_s ck_S0) ck_E0)) ck_X0 ck_l0 p16x_271_e
set_option maxRecDepth 100000 in
def p16x_274 : ck_Sum := ((2, 0, 0), 245, [.inr (.inr (.inl 226)), .inl ((-2147483648), (-1), none), .inl (300, 2147483647, none), .inl (300, 2147483647, none), .inl (3, 2147483647, none)], ([], [], [(227, 0, 0, ck_one 3)]), ([(226, 0, 0)], []), [(.inr (some (.inl (ck_one 0))), 245, ([], [], [(226, 0, 0, ck_one 1)]))])
set_option maxRecDepth 100000 in
theorem p16x_274_e : ck_ok p1_O none [] [(289, [p16x_139]), (283, [p16x_140])] 325 [] 94 p16x_274 = true := by decide +kernel
theorem p16x_274_s {X : Int → Int} {LX : Nat} : ck_Ok p1_O X LX 325 p16x_274 := ck_ok_s (ck_E1 (ck_S1 p16x_139_s ck_S0) (ck_E1 (ck_S1 p16x_140_s ck_S0) ck_E0)) ck_X0 ck_l0 p16x_274_e
set_option maxRecDepth 100000 in
def p16x_280 : ck_Sum := ((0, 0, 0), 245, [.inl (0, 2, none), .inl (ck_one 0), .inl (ck_one 2)], ([], [], []), ([], []), [(.inr (some (.inl (ck_one 1))), 245, ([], [], []))])
set_option maxRecDepth 100000 in
theorem p16x_280_e : ck_ok p1_O none [] [] 287 [] 88 p16x_280 = true := by decide +kernel
theorem p16x_280_s {X : Int → Int} {LX : Nat} : ck_Ok p1_O X LX 287 p16x_280 := ck_ok_s (ck_E0) ck_X0 ck_l0 p16x_280_e
set_option maxRecDepth 100000 in
def p16x_281 : ck_Sum := ((1, 0, 0), 245, [.inr (.inr (.inl 226)), .inl (0, 2, none)], ([], [], [(227, 0, 0, ck_one 3)]), ([], []), [(.inr (some (.inl (ck_one 0))), 245, ([], [], []))])
set_option maxRecDepth 100000 in
theorem p16x_281_e : ck_ok p1_O none [] [(262, [p16x_137]), (287, [p16x_280])] 289 [] 90 p16x_281 = true := by decide +kernel
theorem p16x_281_s {X : Int → Int} {LX : Nat} : ck_Ok p1_O X LX 289 p16x_281 := ck_ok_s (ck_E1 (ck_S1 p16x_137_s ck_S0) (ck_E1 (ck_S1 p16x_280_s ck_S0) ck_E0)) ck_X0 ck_l0 p16x_281_e
set_option maxRecDepth 100000 in
def p16x_282 : ck_Sum := ((0, 0, 0), 245, [.inr (.inr (.inl 226)), .inl (ck_one 0), .inl (ck_one 1)], ([], [], []), ([], []), [(.inr (some (.inl (ck_one 0))), 245, ([], [], []))])
set_option maxRecDepth 100000 in
theorem p16x_282_e : ck_ok p1_O none [] [] 283 [] 78 p16x_282 = true := by decide +kernel
theorem p16x_282_s {X : Int → Int} {LX : Nat} : ck_Ok p1_O X LX 283 p16x_282 := ck_ok_s (ck_E0) ck_X0 ck_l0 p16x_282_e
set_option maxRecDepth 100000 in
def p16x_285 : ck_Sum := ((0, 0, 0), 245, [.inr (.inr (.inl 226)), .inl (ck_one 1), .inl (ck_one 2)], ([], [], []), ([(226, 0, 0)], []), [(.inr (some (.inl (ck_one 1))), 245, ([], [], [(226, 0, 0, ck_one 2)]))])
set_option maxRecDepth 100000 in
theorem p16x_285_e : ck_ok p1_O none [] [] 283 [] 84 p16x_285 = true := by decide +kernel
theorem p16x_285_s {X : Int → Int} {LX : Nat} : ck_Ok p1_O X LX 283 p16x_285 := ck_ok_s (ck_E0) ck_X0 ck_l0 p16x_285_e
set_option maxRecDepth 100000 in
def p16x_283 : ck_Sum := ((0, 0, 0), 245, [.inl ((-2147483648), (-1), none), .inl (ck_one 0), .inl (ck_one 299)], ([], [], []), ([], []), [(.inr (some (.inl (ck_one 0))), 245, ([], [], []))])
set_option maxRecDepth 100000 in
theorem p16x_283_e : ck_ok p1_O none [] [] 287 [] 80 p16x_283 = true := by decide +kernel
theorem p16x_283_s {X : Int → Int} {LX : Nat} : ck_Ok p1_O X LX 287 p16x_283 := ck_ok_s (ck_E0) ck_X0 ck_l0 p16x_283_e
set_option maxRecDepth 100000 in
def p16x_284 : ck_Sum := ((1, 0, 0), 245, [.inl ((-2147483648), (-1), none)], ([], [], []), ([], []), [(.inr (some (.inl (ck_one 1))), 245, ([], [], []))])
set_option maxRecDepth 100000 in
theorem p16x_284_e : ck_ok p1_O none [] [(287, [p16x_283])] 286 [] 86 p16x_284 = true := by decide +kernel
theorem p16x_284_s {X : Int → Int} {LX : Nat} : ck_Ok p1_O X LX 286 p16x_284 := ck_ok_s (ck_E1 (ck_S1 p16x_283_s ck_S0) ck_E0) ck_X0 ck_l0 p16x_284_e
set_option maxRecDepth 100000 in
def p16x_286 : ck_Sum := ((2, 0, 0), 245, [.inr (.inr (.inl 226)), .inl (0, 2, none), .inl ((-2147483648), (-1), none), .inl ((-2147483648), (-1), none), .inl ((-2147483648), (-1), none)], ([], [], [(227, 0, 0, ck_one 3)]), ([(226, 0, 0)], []), [(.inr (some (.inl (ck_one 0))), 245, ([], [], [(226, 0, 0, ck_one 2)]))])
set_option maxRecDepth 100000 in
theorem p16x_286_e : ck_ok p1_O none [] [(289, [p16x_281]), (283, [p16x_282, p16x_285]), (286, [p16x_284])] 325 [] 112 p16x_286 = true := by decide +kernel
theorem p16x_286_s {X : Int → Int} {LX : Nat} : ck_Ok p1_O X LX 325 p16x_286 := ck_ok_s (ck_E1 (ck_S1 p16x_281_s ck_S0) (ck_E1 (ck_S1 p16x_282_s (ck_S1 p16x_285_s ck_S0)) (ck_E1 (ck_S1 p16x_284_s ck_S0) ck_E0))) ck_X0 ck_l0 p16x_286_e
set_option maxRecDepth 100000 in
def p16x_290 : ck_Sum := ((2, 0, 0), 245, [.inr (.inr (.inl 226)), .inl (0, 2, none), .inl ((-2147483648), (-1), none), .inl ((-2147483648), (-1), none), .inl (ck_one 0)], ([], [], [(227, 0, 0, ck_one 3)]), ([(226, 0, 0)], []), [(.inr (some (.inl (ck_one 0))), 245, ([], [], [(226, 0, 0, ck_one 2)]))])
set_option maxRecDepth 100000 in
theorem p16x_290_e : ck_ok p1_O none [] [(289, [p16x_281]), (283, [p16x_282, p16x_285]), (286, [p16x_284])] 325 [] 112 p16x_290 = true := by decide +kernel
theorem p16x_290_s {X : Int → Int} {LX : Nat} : ck_Ok p1_O X LX 325 p16x_290 := ck_ok_s (ck_E1 (ck_S1 p16x_281_s ck_S0) (ck_E1 (ck_S1 p16x_282_s (ck_S1 p16x_285_s ck_S0)) (ck_E1 (ck_S1 p16x_284_s ck_S0) ck_E0))) ck_X0 ck_l0 p16x_290_e
set_option maxRecDepth 100000 in
def p16x_293 : ck_Sum := ((2, 0, 0), 245, [.inr (.inr (.inl 226)), .inl (0, 2, none), .inl ((-2147483648), (-1), none), .inl ((-2147483648), (-1), none), .inl (ck_one 1)], ([], [], [(227, 0, 0, ck_one 3)]), ([(226, 0, 0)], []), [(.inr (some (.inl (ck_one 0))), 245, ([], [], [(226, 0, 0, ck_one 2)]))])
set_option maxRecDepth 100000 in
theorem p16x_293_e : ck_ok p1_O none [] [(289, [p16x_281]), (283, [p16x_282, p16x_285]), (286, [p16x_284])] 325 [] 112 p16x_293 = true := by decide +kernel
theorem p16x_293_s {X : Int → Int} {LX : Nat} : ck_Ok p1_O X LX 325 p16x_293 := ck_ok_s (ck_E1 (ck_S1 p16x_281_s ck_S0) (ck_E1 (ck_S1 p16x_282_s (ck_S1 p16x_285_s ck_S0)) (ck_E1 (ck_S1 p16x_284_s ck_S0) ck_E0))) ck_X0 ck_l0 p16x_293_e
set_option maxRecDepth 100000 in
def p16x_296 : ck_Sum := ((2, 0, 0), 245, [.inr (.inr (.inl 226)), .inl (0, 2, none), .inl ((-2147483648), (-1), none), .inl ((-2147483648), (-1), none), .inl (ck_one 2)], ([], [], [(227, 0, 0, ck_one 3)]), ([(226, 0, 0)], []), [(.inr (some (.inl (ck_one 0))), 245, ([], [], [(226, 0, 0, ck_one 2)]))])
set_option maxRecDepth 100000 in
theorem p16x_296_e : ck_ok p1_O none [] [(289, [p16x_281]), (283, [p16x_282, p16x_285]), (286, [p16x_284])] 325 [] 112 p16x_296 = true := by decide +kernel
theorem p16x_296_s {X : Int → Int} {LX : Nat} : ck_Ok p1_O X LX 325 p16x_296 := ck_ok_s (ck_E1 (ck_S1 p16x_281_s ck_S0) (ck_E1 (ck_S1 p16x_282_s (ck_S1 p16x_285_s ck_S0)) (ck_E1 (ck_S1 p16x_284_s ck_S0) ck_E0))) ck_X0 ck_l0 p16x_296_e
set_option maxRecDepth 100000 in
def p16x_299 : ck_Sum := ((2, 0, 0), 245, [.inr (.inr (.inl 226)), .inl (0, 2, none), .inl ((-2147483648), (-1), none), .inl ((-2147483648), (-1), none), .inl (3, 2147483647, none)], ([], [], [(227, 0, 0, ck_one 3)]), ([(226, 0, 0)], []), [(.inr (some (.inl (ck_one 0))), 245, ([], [], [(226, 0, 0, ck_one 2)]))])
set_option maxRecDepth 100000 in
theorem p16x_299_e : ck_ok p1_O none [] [(289, [p16x_281]), (283, [p16x_282, p16x_285]), (286, [p16x_284])] 325 [] 112 p16x_299 = true := by decide +kernel
theorem p16x_299_s {X : Int → Int} {LX : Nat} : ck_Ok p1_O X LX 325 p16x_299 := ck_ok_s (ck_E1 (ck_S1 p16x_281_s ck_S0) (ck_E1 (ck_S1 p16x_282_s (ck_S1 p16x_285_s ck_S0)) (ck_E1 (ck_S1 p16x_284_s ck_S0) ck_E0))) ck_X0 ck_l0 p16x_299_e
set_option maxRecDepth 100000 in
def p16x_302 : ck_Sum := ((2, 0, 0), 245, [.inr (.inr (.inl 226)), .inl (0, 2, none), .inl ((-2147483648), (-1), none), .inl (0, 299, none), .inl ((-2147483648), (-1), none)], ([], [], [(227, 0, 0, ck_one 3)]), ([(226, 0, 0)], []), [(.inr (some (.inl (ck_one 0))), 245, ([], [], [(226, 0, 0, ck_one 2)]))])
set_option maxRecDepth 100000 in
theorem p16x_302_e : ck_ok p1_O none [] [(289, [p16x_281]), (283, [p16x_282, p16x_285]), (286, [p16x_284])] 325 [] 112 p16x_302 = true := by decide +kernel
theorem p16x_302_s {X : Int → Int} {LX : Nat} : ck_Ok p1_O X LX 325 p16x_302 := ck_ok_s (ck_E1 (ck_S1 p16x_281_s ck_S0) (ck_E1 (ck_S1 p16x_282_s (ck_S1 p16x_285_s ck_S0)) (ck_E1 (ck_S1 p16x_284_s ck_S0) ck_E0))) ck_X0 ck_l0 p16x_302_e
set_option maxRecDepth 100000 in
def p16x_305 : ck_Sum := ((2, 0, 0), 245, [.inr (.inr (.inl 226)), .inl (0, 2, none), .inl ((-2147483648), (-1), none), .inl (0, 299, none), .inl (ck_one 0)], ([], [], [(227, 0, 0, ck_one 3)]), ([(226, 0, 0)], []), [(.inr (some (.inl (ck_one 0))), 245, ([], [], [(226, 0, 0, ck_one 2)]))])
set_option maxRecDepth 100000 in
theorem p16x_305_e : ck_ok p1_O none [] [(289, [p16x_281]), (283, [p16x_282, p16x_285]), (286, [p16x_284])] 325 [] 112 p16x_305 = true := by decide +kernel
theorem p16x_305_s {X : Int → Int} {LX : Nat} : ck_Ok p1_O X LX 325 p16x_305 := ck_ok_s (ck_E1 (ck_S1 p16x_281_s ck_S0) (ck_E1 (ck_S1 p16x_282_s (ck_S1 p16x_285_s ck_S0)) (ck_E1 (ck_S1 p16x_284_s ck_S0) ck_E0))) ck_X0 ck_l0 p16x_305_e
set_option maxRecDepth 100000 in
def p16x_308 : ck_Sum := ((2, 0, 0), 245, [.inr (.inr (.inl 226)), .inl (0, 2, none), .inl ((-2147483648), (-1), none), .inl (0, 299, none), .inl (ck_one 1)], ([], [], [(227, 0, 0, ck_one 3)]), ([(226, 0, 0)], []), [(.inr (some (.inl (ck_one 0))), 245, ([], [], [(226, 0, 0, ck_one 2)]))])
set_option maxRecDepth 100000 in
theorem p16x_308_e : ck_ok p1_O none [] [(289, [p16x_281]), (283, [p16x_282, p16x_285]), (286, [p16x_284])] 325 [] 112 p16x_308 = true := by decide +kernel
theorem p16x_308_s {X : Int → Int} {LX : Nat} : ck_Ok p1_O X LX 325 p16x_308 := ck_ok_s (ck_E1 (ck_S1 p16x_281_s ck_S0) (ck_E1 (ck_S1 p16x_282_s (ck_S1 p16x_285_s ck_S0)) (ck_E1 (ck_S1 p16x_284_s ck_S0) ck_E0))) ck_X0 ck_l0 p16x_308_e
set_option maxRecDepth 100000 in
def p16x_311 : ck_Sum := ((2, 0, 0), 245, [.inr (.inr (.inl 226)), .inl (0, 2, none), .inl ((-2147483648), (-1), none), .inl (0, 299, none), .inl (ck_one 2)], ([], [], [(227, 0, 0, ck_one 3)]), ([(226, 0, 0)], []), [(.inr (some (.inl (ck_one 0))), 245, ([], [], [(226, 0, 0, ck_one 2)]))])
set_option maxRecDepth 100000 in
theorem p16x_311_e : ck_ok p1_O none [] [(289, [p16x_281]), (283, [p16x_282, p16x_285]), (286, [p16x_284])] 325 [] 112 p16x_311 = true := by decide +kernel
theorem p16x_311_s {X : Int → Int} {LX : Nat} : ck_Ok p1_O X LX 325 p16x_311 := ck_ok_s (ck_E1 (ck_S1 p16x_281_s ck_S0) (ck_E1 (ck_S1 p16x_282_s (ck_S1 p16x_285_s ck_S0)) (ck_E1 (ck_S1 p16x_284_s ck_S0) ck_E0))) ck_X0 ck_l0 p16x_311_e
set_option maxRecDepth 100000 in
def p16x_314 : ck_Sum := ((2, 0, 0), 245, [.inr (.inr (.inl 226)), .inl (0, 2, none), .inl ((-2147483648), (-1), none), .inl (0, 299, none), .inl (3, 2147483647, none)], ([], [], [(227, 0, 0, ck_one 3)]), ([(226, 0, 0)], []), [(.inr (some (.inl (ck_one 0))), 245, ([], [], [(226, 0, 0, ck_one 2)]))])
set_option maxRecDepth 100000 in
theorem p16x_314_e : ck_ok p1_O none [] [(289, [p16x_281]), (283, [p16x_282, p16x_285]), (286, [p16x_284])] 325 [] 112 p16x_314 = true := by decide +kernel
theorem p16x_314_s {X : Int → Int} {LX : Nat} : ck_Ok p1_O X LX 325 p16x_314 := ck_ok_s (ck_E1 (ck_S1 p16x_281_s ck_S0) (ck_E1 (ck_S1 p16x_282_s (ck_S1 p16x_285_s ck_S0)) (ck_E1 (ck_S1 p16x_284_s ck_S0) ck_E0))) ck_X0 ck_l0 p16x_314_e
set_option maxRecDepth 100000 in
def p16x_317 : ck_Sum := ((2, 0, 0), 245, [.inr (.inr (.inl 226)), .inl (0, 2, none), .inl ((-2147483648), (-1), none), .inl (300, 2147483647, none), .inl ((-2147483648), (-1), none)], ([], [], [(227, 0, 0, ck_one 3)]), ([(226, 0, 0)], []), [(.inr (some (.inl (ck_one 0))), 245, ([], [], [(226, 0, 0, ck_one 2)]))])
set_option maxRecDepth 100000 in
theorem p16x_317_e : ck_ok p1_O none [] [(289, [p16x_281]), (283, [p16x_282, p16x_285]), (286, [p16x_284])] 325 [] 112 p16x_317 = true := by decide +kernel
theorem p16x_317_s {X : Int → Int} {LX : Nat} : ck_Ok p1_O X LX 325 p16x_317 := ck_ok_s (ck_E1 (ck_S1 p16x_281_s ck_S0) (ck_E1 (ck_S1 p16x_282_s (ck_S1 p16x_285_s ck_S0)) (ck_E1 (ck_S1 p16x_284_s ck_S0) ck_E0))) ck_X0 ck_l0 p16x_317_e
set_option maxRecDepth 100000 in
def p16x_320 : ck_Sum := ((2, 0, 0), 245, [.inr (.inr (.inl 226)), .inl (0, 2, none), .inl ((-2147483648), (-1), none), .inl (300, 2147483647, none), .inl (ck_one 0)], ([], [], [(227, 0, 0, ck_one 3)]), ([(226, 0, 0)], []), [(.inr (some (.inl (ck_one 0))), 245, ([], [], [(226, 0, 0, ck_one 2)]))])
set_option maxRecDepth 100000 in
theorem p16x_320_e : ck_ok p1_O none [] [(289, [p16x_281]), (283, [p16x_282, p16x_285]), (286, [p16x_284])] 325 [] 112 p16x_320 = true := by decide +kernel
theorem p16x_320_s {X : Int → Int} {LX : Nat} : ck_Ok p1_O X LX 325 p16x_320 := ck_ok_s (ck_E1 (ck_S1 p16x_281_s ck_S0) (ck_E1 (ck_S1 p16x_282_s (ck_S1 p16x_285_s ck_S0)) (ck_E1 (ck_S1 p16x_284_s ck_S0) ck_E0))) ck_X0 ck_l0 p16x_320_e
set_option maxRecDepth 100000 in
def p16x_323 : ck_Sum := ((2, 0, 0), 245, [.inr (.inr (.inl 226)), .inl (0, 2, none), .inl ((-2147483648), (-1), none), .inl (300, 2147483647, none), .inl (ck_one 1)], ([], [], [(227, 0, 0, ck_one 3)]), ([(226, 0, 0)], []), [(.inr (some (.inl (ck_one 0))), 245, ([], [], [(226, 0, 0, ck_one 2)]))])
set_option maxRecDepth 100000 in
theorem p16x_323_e : ck_ok p1_O none [] [(289, [p16x_281]), (283, [p16x_282, p16x_285]), (286, [p16x_284])] 325 [] 112 p16x_323 = true := by decide +kernel
theorem p16x_323_s {X : Int → Int} {LX : Nat} : ck_Ok p1_O X LX 325 p16x_323 := ck_ok_s (ck_E1 (ck_S1 p16x_281_s ck_S0) (ck_E1 (ck_S1 p16x_282_s (ck_S1 p16x_285_s ck_S0)) (ck_E1 (ck_S1 p16x_284_s ck_S0) ck_E0))) ck_X0 ck_l0 p16x_323_e
set_option maxRecDepth 100000 in
def p16x_326 : ck_Sum := ((2, 0, 0), 245, [.inr (.inr (.inl 226)), .inl (0, 2, none), .inl ((-2147483648), (-1), none), .inl (300, 2147483647, none), .inl (ck_one 2)], ([], [], [(227, 0, 0, ck_one 3)]), ([(226, 0, 0)], []), [(.inr (some (.inl (ck_one 0))), 245, ([], [], [(226, 0, 0, ck_one 2)]))])
set_option maxRecDepth 100000 in
theorem p16x_326_e : ck_ok p1_O none [] [(289, [p16x_281]), (283, [p16x_282, p16x_285]), (286, [p16x_284])] 325 [] 112 p16x_326 = true := by decide +kernel
theorem p16x_326_s {X : Int → Int} {LX : Nat} : ck_Ok p1_O X LX 325 p16x_326 := ck_ok_s (ck_E1 (ck_S1 p16x_281_s ck_S0) (ck_E1 (ck_S1 p16x_282_s (ck_S1 p16x_285_s ck_S0)) (ck_E1 (ck_S1 p16x_284_s ck_S0) ck_E0))) ck_X0 ck_l0 p16x_326_e
set_option maxRecDepth 100000 in
def p16x_329 : ck_Sum := ((2, 0, 0), 245, [.inr (.inr (.inl 226)), .inl (0, 2, none), .inl ((-2147483648), (-1), none), .inl (300, 2147483647, none), .inl (3, 2147483647, none)], ([], [], [(227, 0, 0, ck_one 3)]), ([(226, 0, 0)], []), [(.inr (some (.inl (ck_one 0))), 245, ([], [], [(226, 0, 0, ck_one 2)]))])
set_option maxRecDepth 100000 in
theorem p16x_329_e : ck_ok p1_O none [] [(289, [p16x_281]), (283, [p16x_282, p16x_285]), (286, [p16x_284])] 325 [] 112 p16x_329 = true := by decide +kernel
theorem p16x_329_s {X : Int → Int} {LX : Nat} : ck_Ok p1_O X LX 325 p16x_329 := ck_ok_s (ck_E1 (ck_S1 p16x_281_s ck_S0) (ck_E1 (ck_S1 p16x_282_s (ck_S1 p16x_285_s ck_S0)) (ck_E1 (ck_S1 p16x_284_s ck_S0) ck_E0))) ck_X0 ck_l0 p16x_329_e
set_option maxRecDepth 100000 in
def p16x_333 : ck_Sum := ((0, 0, 0), 245, [.inl (0, 299, none), .inl (ck_one 0), .inl (ck_one 299)], ([], [], []), ([], []), [(.inr (some (.inl (ck_one 1))), 245, ([], [], []))])
set_option maxRecDepth 100000 in
theorem p16x_333_e : ck_ok p1_O none [] [] 287 [] 88 p16x_333 = true := by decide +kernel
theorem p16x_333_s {X : Int → Int} {LX : Nat} : ck_Ok p1_O X LX 287 p16x_333 := ck_ok_s (ck_E0) ck_X0 ck_l0 p16x_333_e
set_option maxRecDepth 100000 in
def p16x_334 : ck_Sum := ((1, 0, 0), 245, [.inl (0, 299, none)], ([], [], []), ([], []), [(.inr (some (.inl (ck_one 0))), 245, ([], [], []))])
set_option maxRecDepth 100000 in
theorem p16x_334_e : ck_ok p1_O none [] [(287, [p16x_333])] 286 [] 84 p16x_334 = true := by decide +kernel
theorem p16x_334_s {X : Int → Int} {LX : Nat} : ck_Ok p1_O X LX 286 p16x_334 := ck_ok_s (ck_E1 (ck_S1 p16x_333_s ck_S0) ck_E0) ck_X0 ck_l0 p16x_334_e
set_option maxRecDepth 100000 in
def p16x_335 : ck_Sum := ((2, 0, 0), 245, [.inr (.inr (.inl 226)), .inl (0, 2, none), .inl (0, 299, none), .inl ((-2147483648), (-1), none), .inl ((-2147483648), (-1), none)], ([], [], [(227, 0, 0, ck_one 3)]), ([(226, 0, 0)], []), [(.inr (some (.inl (ck_one 0))), 245, ([], [], [(226, 0, 0, ck_one 2)]))])
set_option maxRecDepth 100000 in
theorem p16x_335_e : ck_ok p1_O none [] [(289, [p16x_281]), (283, [p16x_282, p16x_285]), (286, [p16x_334, p16x_284])] 325 [] 118 p16x_335 = true := by decide +kernel
theorem p16x_335_s {X : Int → Int} {LX : Nat} : ck_Ok p1_O X LX 325 p16x_335 := ck_ok_s (ck_E1 (ck_S1 p16x_281_s ck_S0) (ck_E1 (ck_S1 p16x_282_s (ck_S1 p16x_285_s ck_S0)) (ck_E1 (ck_S1 p16x_334_s (ck_S1 p16x_284_s ck_S0)) ck_E0))) ck_X0 ck_l0 p16x_335_e
set_option maxRecDepth 100000 in
def p16x_338 : ck_Sum := ((2, 0, 0), 245, [.inr (.inr (.inl 226)), .inl (0, 2, none), .inl (0, 299, none), .inl ((-2147483648), (-1), none), .inl (ck_one 0)], ([], [], [(227, 0, 0, ck_one 3)]), ([(226, 0, 0)], []), [(.inr (some (.inl (ck_one 0))), 245, ([], [], [(226, 0, 0, ck_one 2)]))])
set_option maxRecDepth 100000 in
theorem p16x_338_e : ck_ok p1_O none [] [(289, [p16x_281]), (283, [p16x_282, p16x_285]), (286, [p16x_334, p16x_284])] 325 [] 118 p16x_338 = true := by decide +kernel
theorem p16x_338_s {X : Int → Int} {LX : Nat} : ck_Ok p1_O X LX 325 p16x_338 := ck_ok_s (ck_E1 (ck_S1 p16x_281_s ck_S0) (ck_E1 (ck_S1 p16x_282_s (ck_S1 p16x_285_s ck_S0)) (ck_E1 (ck_S1 p16x_334_s (ck_S1 p16x_284_s ck_S0)) ck_E0))) ck_X0 ck_l0 p16x_338_e
set_option maxRecDepth 100000 in
def p16x_341 : ck_Sum := ((2, 0, 0), 245, [.inr (.inr (.inl 226)), .inl (0, 2, none), .inl (0, 299, none), .inl ((-2147483648), (-1), none), .inl (ck_one 1)], ([], [], [(227, 0, 0, ck_one 3)]), ([(226, 0, 0)], []), [(.inr (some (.inl (ck_one 0))), 245, ([], [], [(226, 0, 0, ck_one 2)]))])
set_option maxRecDepth 100000 in
theorem p16x_341_e : ck_ok p1_O none [] [(289, [p16x_281]), (283, [p16x_282, p16x_285]), (286, [p16x_334, p16x_284])] 325 [] 118 p16x_341 = true := by decide +kernel
theorem p16x_341_s {X : Int → Int} {LX : Nat} : ck_Ok p1_O X LX 325 p16x_341 := ck_ok_s (ck_E1 (ck_S1 p16x_281_s ck_S0) (ck_E1 (ck_S1 p16x_282_s (ck_S1 p16x_285_s ck_S0)) (ck_E1 (ck_S1 p16x_334_s (ck_S1 p16x_284_s ck_S0)) ck_E0))) ck_X0 ck_l0 p16x_341_e
set_option maxRecDepth 100000 in
def p16x_344 : ck_Sum := ((2, 0, 0), 245, [.inr (.inr (.inl 226)), .inl (0, 2, none), .inl (0, 299, none), .inl ((-2147483648), (-1), none), .inl (ck_one 2)], ([], [], [(227, 0, 0, ck_one 3)]), ([(226, 0, 0)], []), [(.inr (some (.inl (ck_one 0))), 245, ([], [], [(226, 0, 0, ck_one 2)]))])
set_option maxRecDepth 100000 in
theorem p16x_344_e : ck_ok p1_O none [] [(289, [p16x_281]), (283, [p16x_282, p16x_285]), (286, [p16x_334, p16x_284])] 325 [] 118 p16x_344 = true := by decide +kernel
theorem p16x_344_s {X : Int → Int} {LX : Nat} : ck_Ok p1_O X LX 325 p16x_344 := ck_ok_s (ck_E1 (ck_S1 p16x_281_s ck_S0) (ck_E1 (ck_S1 p16x_282_s (ck_S1 p16x_285_s ck_S0)) (ck_E1 (ck_S1 p16x_334_s (ck_S1 p16x_284_s ck_S0)) ck_E0))) ck_X0 ck_l0 p16x_344_e
set_option maxRecDepth 100000 in
def p16x_347 : ck_Sum := ((2, 0, 0), 245, [.inr (.inr (.inl 226)), .inl (0, 2, none), .inl (0, 299, none), .inl ((-2147483648), (-1), none), .inl (3, 2147483647, none)], ([], [], [(227, 0, 0, ck_one 3)]), ([(226, 0, 0)], []), [(.inr (some (.inl (ck_one 0))), 245, ([], [], [(226, 0, 0, ck_one 2)]))])
set_option maxRecDepth 100000 in
theorem p16x_347_e : ck_ok p1_O none [] [(289, [p16x_281]), (283, [p16x_282, p16x_285]), (286, [p16x_334, p16x_284])] 325 [] 118 p16x_347 = true := by decide +kernel
theorem p16x_347_s {X : Int → Int} {LX : Nat} : ck_Ok p1_O X LX 325 p16x_347 := ck_ok_s (ck_E1 (ck_S1 p16x_281_s ck_S0) (ck_E1 (ck_S1 p16x_282_s (ck_S1 p16x_285_s ck_S0)) (ck_E1 (ck_S1 p16x_334_s (ck_S1 p16x_284_s ck_S0)) ck_E0))) ck_X0 ck_l0 p16x_347_e
set_option maxRecDepth 100000 in
def p16x_351 : ck_Sum := ((0, 0, 0), 245, [.inr (.inr (.inl 226)), .inl (ck_one 0), .inl (ck_one 2)], ([], [], []), ([], []), [(.inr (some (.inl (ck_one 0))), 245, ([], [], []))])
set_option maxRecDepth 100000 in
theorem p16x_351_e : ck_ok p1_O none [] [] 283 [] 78 p16x_351 = true := by decide +kernel
theorem p16x_351_s {X : Int → Int} {LX : Nat} : ck_Ok p1_O X LX 283 p16x_351 := ck_ok_s (ck_E0) ck_X0 ck_l0 p16x_351_e
set_option maxRecDepth 100000 in
def p16x_352 : ck_Sum := ((0, 0, 0), 245, [.inr (.inr (.inl 226)), .inl (ck_one 1), .inl (ck_one 3)], ([], [], []), ([(226, 0, 0)], []), [(.inr (some (.inl (ck_one 1))), 245, ([], [], [(226, 0, 0, ck_one 3)]))])
set_option maxRecDepth 100000 in
theorem p16x_352_e : ck_ok p1_O none [] [] 283 [] 84 p16x_352 = true := by decide +kernel
theorem p16x_352_s {X : Int → Int} {LX : Nat} : ck_Ok p1_O X LX 283 p16x_352 := ck_ok_s (ck_E0) ck_X0 ck_l0 p16x_352_e
set_option maxRecDepth 100000 in
def p16x_350 : ck_Sum := ((0, 0, 0), 245, [.inr (.inr (.inl 226))], ([], [], [(227, 2, 9, ck_one 0)]), ([], []), [(.inr (some (.inl (ck_one 0))), 245, ([], [], []))])
set_option maxRecDepth 100000 in
theorem p16x_350_e : ck_ok p1_O none [] [] 267 [] 80 p16x_350 = true := by decide +kernel
theorem p16x_350_s {X : Int → Int} {LX : Nat} : ck_Ok p1_O X LX 267 p16x_350 := ck_ok_s (ck_E0) ck_X0 ck_l0 p16x_350_e
set_option maxRecDepth 100000 in
def p16x_353 : ck_Sum := ((2, 0, 0), 245, [.inr (.inr (.inl 226)), .inl (0, 2, none), .inl (0, 299, none), .inl (0, 299, none), .inl ((-2147483648), (-1), none)], ([], [], [(227, 0, 0, ck_one 3), (227, 2, 9, ck_one 0)]), ([(226, 0, 0)], []), [(.inr (some (.inl (ck_one 0))), 245, ([], [], [(226, 0, 0, ck_one 3)]))])
set_option maxRecDepth 100000 in
theorem p16x_353_e : ck_ok p1_O none [] [(289, [p16x_281]), (283, [p16x_282, p16x_351, p16x_352]), (286, [p16x_334]), (267, [p16x_350]), (287, [p16x_138])] 325 [] 146 p16x_353 = true := by decide +kernel
theorem p16x_353_s {X : Int → Int} {LX : Nat} : ck_Ok p1_O X LX 325 p16x_353 := ck_ok_s (ck_E1 (ck_S1 p16x_281_s ck_S0) (ck_E1 (ck_S1 p16x_282_s (ck_S1 p16x_351_s (ck_S1 p16x_352_s ck_S0))) (ck_E1 (ck_S1 p16x_334_s ck_S0) (ck_E1 (ck_S1 p16x_350_s ck_S0) (ck_E1 (ck_S1 p16x_138_s ck_S0) ck_E0))))) ck_X0 ck_l0 p16x_353_e
set_option maxRecDepth 100000 in
def p16x_3843 : ck_Sum := ((0, 0, 0), 245, [.inr (.inr (.inl 226)), .inl (ck_one 0), .inl (ck_one 3)], ([], [], []), ([], []), [(.inr (some (.inl (ck_one 0))), 245, ([], [], []))])
set_option maxRecDepth 100000 in
theorem p16x_3843_e : ck_ok p1_O none [] [] 283 [] 78 p16x_3843 = true := by decide +kernel
theorem p16x_3843_s {X : Int → Int} {LX : Nat} : ck_Ok p1_O X LX 283 p16x_3843 := ck_ok_s (ck_E0) ck_X0 ck_l0 p16x_3843_e
set_option maxRecDepth 100000 in
def p16x_3842 : ck_Sum := ((0, 0, 0), 245, [.inl (ck_one 0), .inl (ck_one 0), .inl (ck_one 2)], ([], [], []), ([], []), [(.inr (some (.inl (ck_one 1))), 245, ([], [], []))])
set_option maxRecDepth 100000 in
theorem p16x_3842_e : ck_ok p1_O none [] [] 287 [] 88 p16x_3842 = true := by decide +kernel
theorem p16x_3842_s {X : Int → Int} {LX : Nat} : ck_Ok p1_O X LX 287 p16x_3842 := ck_ok_s (ck_E0) ck_X0 ck_l0 p16x_3842_e
set_option maxRecDepth 100000 in
def p16x_3844 : ck_Sum := ((0, 0, 0), 245, [.inr (.inr (.inl 226))], ([], [], [(227, 1, 1, ck_one 40)]), ([], []), [(.inr (some (.inl (ck_one 40))), 245, ([], [], []))])
set_option maxRecDepth 100000 in
theorem p16x_3844_e : ck_ok p1_O none [] [] 260 [] 80 p16x_3844 = true := by decide +kernel
theorem p16x_3844_s {X : Int → Int} {LX : Nat} : ck_Ok p1_O X LX 260 p16x_3844 := ck_ok_s (ck_E0) ck_X0 ck_l0 p16x_3844_e
set_option maxRecDepth 100000 in
def p16x_3845 : ck_Sum := ((0, 0, 0), 245, [.inr (.inr (.inl 226)), .inl (0, 2, none)], ([], [], [(226, 26, 26, ((-1), 2, none)), (235, 0, 11999, (0, 1, none))]), ([(226, 26, 26), (235, 0, 29699)], []), [(.inr none, 245, ([], [], [(226, 26, 26, (0, 2, none)), (235, 0, 11999, (0, 1, none))]))])
set_option maxRecDepth 100000 in
theorem p16x_3845_e : ck_ok p1_O none [] [] 294 [(16, [some (.inr (.inr (.inl 226))), some (.inl (0, 2, none)), some (.inl (0, 29700, none))], ([], [], [(226, 26, 26, (0, 2, none)), (235, 0, 11999, (0, 1, none))]), 100, .inl 2, true)] 142 p16x_3845 = true := by decide +kernel
theorem p16x_3845_s {X : Int → Int} {LX : Nat} : ck_Ok p1_O X LX 294 p16x_3845 := ck_ok_s (ck_E0) ck_X0 ck_l0 p16x_3845_e
set_option maxRecDepth 100000 in
def p16x_3846 : ck_Sum := ((0, 0, 0), 245, [.inr (.inr (.inl 226)), .inl (0, 2, none), .inl (0, 39, none)], ([], [], [(227, 2, 9, ck_one 0)]), ([], []), [(.inr (some (.inl (ck_one 0))), 245, ([], [], []))])
set_option maxRecDepth 100000 in
theorem p16x_3846_e : ck_ok p1_O none [] [] 291 [(5, [some (.inr (.inr (.inl 226))), some (.inl (0, 2, none)), some (.inl (0, 39, none)), some (.inl (ck_one 0)), some (.inl (ck_one 0))], ([], [], [(227, 2, 9, ck_one 0)]), 100, .inl 3, true)] 122 p16x_3846 = true := by decide +kernel
theorem p16x_3846_s {X : Int → Int} {LX : Nat} : ck_Ok p1_O X LX 291 p16x_3846 := ck_ok_s (ck_E0) ck_X0 ck_l0 p16x_3846_e
set_option maxRecDepth 100000 in
def p16x_3847 : ck_Sum := ((0, 0, 0), 245, [.inr (.inr (.inl 226)), .inl (ck_one 0)], ([], [], [(227, 2, 9, ck_one 0)]), ([], []), [(.inr (some (.inl (ck_one 0))), 245, ([], [], []))])
set_option maxRecDepth 100000 in
theorem p16x_3847_e : ck_ok p1_O none [] [] 295 [(4, [some (.inr (.inr (.inl 226))), some (.inl (ck_one 0)), some (.inl (ck_one 0)), some (.inl (ck_one 0))], ([], [], [(227, 2, 9, ck_one 0)]), 100, .inl 2, true)] 122 p16x_3847 = true := by decide +kernel
theorem p16x_3847_s {X : Int → Int} {LX : Nat} : ck_Ok p1_O X LX 295 p16x_3847 := ck_ok_s (ck_E0) ck_X0 ck_l0 p16x_3847_e
set_option maxRecDepth 100000 in
def p16x_3848 : ck_Sum := ((0, 0, 0), 245, [.inr (.inr (.inl 226)), .inl (ck_one 1)], ([], [], [(227, 2, 9, ck_one 0)]), ([], []), [(.inr (some (.inl (ck_one 0))), 245, ([], [], []))])
set_option maxRecDepth 100000 in
theorem p16x_3848_e : ck_ok p1_O none [] [] 295 [(4, [some (.inr (.inr (.inl 226))), some (.inl (ck_one 1)), some (.inl (ck_one 0)), some (.inl (ck_one 0))], ([], [], [(227, 2, 9, ck_one 0)]), 100, .inl 2, true)] 122 p16x_3848 = true := by decide +kernel
theorem p16x_3848_s {X : Int → Int} {LX : Nat} : ck_Ok p1_O X LX 295 p16x_3848 := ck_ok_s (ck_E0) ck_X0 ck_l0 p16x_3848_e
set_option maxRecDepth 100000 in
def p16x_3849 : ck_Sum := ((1, 0, 0), 245, [.inr (.inr (.inl 226)), .inl (0, 2, none), .inl (0, 39, none), .inl (0, 299, none)], ([], [], [(226, 26, 26, ((-1), 2, none)), (226, 19, 19, (0, 299, none)), (226, 18, 18, (0, 39, none)), (226, 17, 17, (0, 2, none)), (227, 2, 9, ck_one 0), (226, 20, 20, ck_one 0), (226, 21, 21, ck_one 0), (226, 22, 22, ck_one 0), (226, 23, 23, ck_one 0), (235, 0, 11999, (0, 1, none))]), ([(226, 17, 23), (226, 26, 26), (235, 0, 29699)], []), [(.inr (some (.inl (ck_one 0))), 245, ([], [], [(226, 23, 23, ck_one 0), (226, 22, 22, ck_one 0), (226, 21, 21, ck_one 0), (226, 20, 20, ck_one 0), (226, 19, 19, (0, 299, none)), (226, 18, 18, (0, 39, none)), (226, 17, 17, (0, 2, none)), (226, 26, 26, (0, 2, none)), (235, 0, 11999, (0, 1, none))]))])
def p16x_3849_E : List (Nat × List ck_Sum) := [(294, [p16x_3845]), (291, [p16x_3846]), (295, [p16x_3847, p16x_3848])]
def p16x_3849_L : ck_AL := [some (.inr (.inr (.inl 226))), some (.inl (0, 2, none)), some (.inl (0, 39, none)), some (.inl (0, 299, none)), some (.inl (0, 11999, none)), none]
set_option maxRecDepth 100000 in
def p16x_3849_F : ck_F := ([], [], [(226, 26, 26, (0, 2, none)), (235, 0, 11999, (0, 1, none)), (226, 19, 19, (0, 299, none)), (226, 18, 18, (0, 39, none)), (226, 17, 17, (0, 2, none)), (227, 2, 9, ck_one 0), (226, 20, 20, ck_one 0), (226, 21, 21, ck_one 0), (226, 22, 22, ck_one 0), (226, 23, 23, ck_one 0)])
def p16x_3849_C : ck_C := (p16x_3849_L, p16x_3849_F, 0, .inl 4, true)
set_option maxRecDepth 100000 in
theorem p16x_3849_a : (decide (p16x_3849.2.2.1.length ≤ gm_ml 293) && ck_go p1_O none [] p16x_3849_E 293 p16x_3849.1.1 p16x_3849.2.1 p16x_3849.2.2.2.2.1 p16x_3849.2.2.2.2.2 [(14, p16x_3849_C)] 400 false [(14, p16x_3849_C, 0, 0, 245)] p16x_3849.1.2.1 p16x_3849.1.2.2 0 (p16x_3849.2.2.1.map some ++ List.replicate (gm_ml 293 - p16x_3849.2.2.1.length) none) [] p16x_3849.2.1 p16x_3849.2.2.2.1) = true := by decide +kernel
set_option maxRecDepth 100000 in
theorem p16x_3849_b : ck_go p1_O none [] p16x_3849_E 293 p16x_3849.1.1 p16x_3849.2.1 p16x_3849.2.2.2.2.1 p16x_3849.2.2.2.2.2 [] 400 true [] 0 0 34 p16x_3849_L [] 245 p16x_3849_F = true := by decide +kernel
set_option maxRecDepth 100000 in
theorem p16x_3849_f : ck_fi p16x_3849_F 235 0 11999 = some (0, 1, none) := by decide +kernel
set_option maxRecDepth 100000 in
theorem p16x_3849_g : ck_leF p1_O p16x_3849_F (([], [], [(226, 23, 23, ck_one 0), (226, 22, 22, ck_one 0), (226, 21, 21, ck_one 0), (226, 20, 20, ck_one 0), (226, 19, 19, (0, 299, none)), (226, 18, 18, (0, 39, none)), (226, 17, 17, (0, 2, none)), (226, 26, 26, (0, 2, none)), (235, 0, 11999, (0, 1, none))])) = true := by decide +kernel
theorem p16x_3849_h {X : Int → Int} {LX : Nat} : ck_OkE p1_O X LX p16x_3849_E := ck_E1 (ck_S1 p16x_3845_s ck_S0) (ck_E1 (ck_S1 p16x_3846_s ck_S0) (ck_E1 (ck_S1 p16x_3847_s (ck_S1 p16x_3848_s ck_S0)) ck_E0))
theorem p16x_3849_s {X : Int → Int} {LX : Nat} : ck_Ok p1_O X LX 293 p16x_3849 := by
  refine ck_ok_st (cuts := [(14, p16x_3849_C)]) p16x_3849_h p16x_3849_a (fun h hm => ?_)
  rw [List.mem_singleton.mp hm]
  refine ⟨rfl, fun σ K0 R0 M0 v _ bc bs L K R M hb1 hb2 hS _ => ?_⟩
  obtain ⟨hF, hl, hs, hf, hfr⟩ := hS
  obtain ⟨u0, e0, g0⟩ := hl.2 0 (.inr (.inr (.inl 226))) rfl
  cases g0
  obtain ⟨u4, e4, t, rfl, ht1, ht2, ht3, -⟩ := hl.2 4 (.inl (0, 11999, none)) rfl
  have ht2 : (0 : Int) ≤ t := ht2
  have ht3 : t ≤ (11999 : Int) := ht3
  obtain ⟨-, hM1, hM2, -⟩ := (ck_fi_s hf p16x_3849_f).2 t (by omega) (by omega)
  have hM1 : (0 : Int) ≤ M 235 t := hM1
  have hM2 : M 235 t ≤ (1 : Int) := hM2
  refine ck_flow (O := p1_O) hF (k := 226) (fl := 235) (by decide +kernel) (by decide +kernel) (by decide +kernel) e0 e4 ⟨by omega, by omega⟩ ⟨by omega, by omega⟩ (fun hp => ?_) ?_
  · have e : M 235 t - 1 = 0 := by omega
    rw [e]
    exact ⟨hF, hfr, _, List.mem_cons_self, ⟨0, rfl, ⟨by decide, by decide⟩, by decide, by decide, fun _ h => nomatch h⟩, rfl, ck_leF_s hF hf p16x_3849_g⟩
  · exact gm_Wp_wk (Nat.le_refl _) hb1 hb2 (ck_go_s (σ0 := σ) (cuts := []) p16x_3849_h ck_X0 ck_l0 400 true [] _ _ 34 _ [] _ _ σ L [] K R M (fun _ _ => rfl) (fun _ h => nomatch h) ⟨hF, hl, rfl, hf, hfr⟩ p16x_3849_b)
set_option maxRecDepth 100000 in
def p16x_5489 : ck_Sum := ((0, 0, 0), 245, [.inr (.inr (.inl 226)), .inl (10, 39, none), .inl (0, 298, none), .inl (ck_one (-1))], ([], [], [(227, 2, 9, ck_one 0)]), ([], []), [(.inr (some (.inl (10, 39, none))), 245, ([], [], []))])
set_option maxRecDepth 100000 in
theorem p16x_5489_e : ck_ok p1_O none [] [] 308 [(6, [some (.inr (.inr (.inl 226))), some (.inl (10, 39, none)), some (.inl (0, 298, none)), some (.inl (ck_one (-1))), some (.inl (10, 39, none)), some (.inl (ck_one 0)), none], ([], [], [(227, 2, 9, ck_one 0)]), 100, .inl 4, true)] 122 p16x_5489 = true := by decide +kernel
theorem p16x_5489_s {X : Int → Int} {LX : Nat} : ck_Ok p1_O X LX 308 p16x_5489 := ck_ok_s (ck_E0) ck_X0 ck_l0 p16x_5489_e
set_option maxRecDepth 100000 in
def p16x_4427 : ck_Sum := ((0, 0, 0), 245, [.inr (.inr (.inl 226)), .inl (0, 9, none), .inl (0, 298, none), .inl (ck_one (-1))], ([], [], [(227, 2, 9, ck_one 0)]), ([], []), [(.inr (some (.inl (0, 9, none))), 245, ([], [], []))])
set_option maxRecDepth 100000 in
theorem p16x_4427_e : ck_ok p1_O none [] [] 308 [(6, [some (.inr (.inr (.inl 226))), some (.inl (0, 9, none)), some (.inl (0, 298, none)), some (.inl (ck_one (-1))), some (.inl (0, 9, none)), some (.inl (ck_one 0)), none], ([], [], [(227, 2, 9, ck_one 0)]), 100, .inl 4, true)] 122 p16x_4427 = true := by decide +kernel
theorem p16x_4427_s {X : Int → Int} {LX : Nat} : ck_Ok p1_O X LX 308 p16x_4427 := ck_ok_s (ck_E0) ck_X0 ck_l0 p16x_4427_e
set_option maxRecDepth 100000 in
def p16x_5492 : ck_Sum := ((2, 0, 0), 245, [.inr (.inr (.inl 226)), .inl (0, 2, none), .inl (0, 39, none), .inl (0, 299, none), .inl (ck_one 0), .inl (ck_one (-1))], ([], [], [(226, 26, 26, ((-1), 2, none)), (227, 11, 11, ck_one 2), (227, 10, 10, ck_one 10), (227, 1, 1, ck_one 40), (227, 2, 9, ck_one 0), (237, 0, 299, ((-1), 99, none)), (236, 0, 299, ((-1), 39, none)), (226, 17, 17, (0, 2, none)), (226, 18, 18, (0, 39, none)), (226, 19, 19, (0, 299, none)), (226, 20, 20, ck_one 0), (226, 21, 21, ck_one 0), (226, 22, 22, ck_one 0), (226, 23, 23, ck_one 0), (226, 29, 29, ((-1), 0, none)), (226, 30, 30, ck_one 0), (235, 0, 11999, (0, 1, none)), (234, 0, 299, (0, 9, none))]), ([(226, 17, 23), (226, 26, 26), (226, 29, 30), (235, 0, 29699), (236, 0, 299), (237, 0, 299)], []), [(.inr none, 245, ([], [], [(226, 30, 30, ck_one 0), (226, 29, 29, ck_one (-1)), (226, 26, 26, ((-1), 2, none)), (226, 17, 17, (0, 2, none)), (226, 18, 18, (0, 39, none)), (226, 19, 19, (0, 299, none)), (226, 20, 20, ck_one 0), (226, 21, 21, ck_one 0), (226, 22, 22, ck_one 0), (226, 23, 23, ck_one 0), (237, 0, 299, ((-1), 99, none)), (236, 0, 299, ((-1), 39, none)), (235, 0, 11999, (0, 1, none))]))])
set_option maxRecDepth 100000 in
theorem p16x_5492_e : ck_ok p1_O none [] [(260, [p16x_3844]), (293, [p16x_3849]), (308, [p16x_5489, p16x_4427])] 307 [(3, [some (.inr (.inr (.inl 226))), some (.inl (0, 2, none)), some (.inl (0, 39, none)), some (.inl (0, 299, none)), some (.inl (ck_one 0)), some (.inl (ck_one (-1))), some (.inl (0, 299, none)), none, none], ([], [], [(226, 26, 26, ((-1), 2, none)), (227, 11, 11, ck_one 2), (227, 10, 10, ck_one 10), (227, 1, 1, ck_one 40), (227, 2, 9, ck_one 0), (237, 0, 299, ((-1), 99, none)), (236, 0, 299, ((-1), 39, none)), (226, 17, 17, (0, 2, none)), (226, 18, 18, (0, 39, none)), (226, 19, 19, (0, 299, none)), (226, 20, 20, ck_one 0), (226, 21, 21, ck_one 0), (226, 22, 22, ck_one 0), (226, 23, 23, ck_one 0), (226, 29, 29, ((-1), 0, none)), (226, 30, 30, ck_one 0), (235, 0, 11999, (0, 1, none)), (234, 0, 299, (0, 9, none))]), 100, .inl 6, true), (50, [some (.inr (.inr (.inl 226))), some (.inl (0, 2, none)), some (.inl (0, 39, none)), some (.inl (0, 299, none)), some (.inl (ck_one 0)), some (.inl (ck_one (-1))), some (.inl (0, 39, none)), some (.inl (0, 99, none)), some (.inl (0, 300, none))], ([], [], [(226, 30, 30, ck_one 0), (226, 29, 29, ck_one (-1)), (226, 26, 26, ((-1), 2, none)), (227, 11, 11, ck_one 2), (227, 10, 10, ck_one 10), (227, 1, 1, ck_one 40), (227, 2, 9, ck_one 0), (237, 0, 299, ((-1), 99, none)), (236, 0, 299, ((-1), 39, none)), (226, 17, 17, (0, 2, none)), (226, 18, 18, (0, 39, none)), (226, 19, 19, (0, 299, none)), (226, 20, 20, ck_one 0), (226, 21, 21, ck_one 0), (226, 22, 22, ck_one 0), (226, 23, 23, ck_one 0), (235, 0, 11999, (0, 1, none)), (234, 0, 299, (0, 9, none))]), 300, .inl 8, true)] 506 p16x_5492 = true := by decide +kernel
theorem p16x_5492_s {X : Int → Int} {LX : Nat} : ck_Ok p1_O X LX 307 p16x_5492 := ck_ok_s (ck_E1 (ck_S1 p16x_3844_s ck_S0) (ck_E1 (ck_S1 p16x_3849_s ck_S0) (ck_E1 (ck_S1 p16x_5489_s (ck_S1 p16x_4427_s ck_S0)) ck_E0))) ck_X0 ck_l0 p16x_5492_e
set_option maxRecDepth 100000 in
def p16x_5493 : ck_Sum := ((3, 0, 0), 245, [.inr (.inr (.inl 226)), .inl (0, 2, none), .inl (0, 39, none), .inl (0, 299, none)], ([], [], [(226, 26, 26, ((-1), 2, none)), (227, 11, 11, ck_one 2), (227, 10, 10, ck_one 10), (227, 1, 1, ck_one 40), (227, 2, 9, ck_one 0), (237, 0, 299, ((-1), 99, none)), (236, 0, 299, ((-1), 39, none)), (226, 17, 17, (0, 2, none)), (226, 18, 18, (0, 39, none)), (226, 19, 19, (0, 299, none)), (226, 20, 20, ck_one 0), (226, 21, 21, ck_one 0), (226, 22, 22, ck_one 0), (226, 23, 23, ck_one 0), (226, 29, 29, ((-1), 0, none)), (226, 30, 30, ck_one 0), (235, 0, 11999, (0, 1, none)), (234, 0, 299, (0, 9, none))]), ([(226, 17, 23), (226, 26, 26), (226, 29, 30), (235, 0, 29699), (236, 0, 299), (237, 0, 299)], []), [(.inr (some (.inl (ck_one (-1)))), 245, ([], [], [(226, 30, 30, ck_one 0), (226, 29, 29, ck_one (-1)), (226, 26, 26, ((-1), 2, none)), (226, 17, 17, (0, 2, none)), (226, 18, 18, (0, 39, none)), (226, 19, 19, (0, 299, none)), (226, 20, 20, ck_one 0), (226, 21, 21, ck_one 0), (226, 22, 22, ck_one 0), (226, 23, 23, ck_one 0), (237, 0, 299, ((-1), 99, none)), (236, 0, 299, ((-1), 39, none)), (235, 0, 11999, (0, 1, none))]))])
set_option maxRecDepth 100000 in
theorem p16x_5493_e : ck_ok p1_O none [] [(307, [p16x_5492])] 326 [] 90 p16x_5493 = true := by decide +kernel
theorem p16x_5493_s {X : Int → Int} {LX : Nat} : ck_Ok p1_O X LX 326 p16x_5493 := ck_ok_s (ck_E1 (ck_S1 p16x_5492_s ck_S0) ck_E0) ck_X0 ck_l0 p16x_5493_e
set_option maxRecDepth 100000 in
def p16x_5503 : ck_Sum := ((4, 0, 0), 245, [.inr (.inr (.inl 226)), .inl (0, 2, none), .inl (0, 299, none), .inl (0, 299, none), .inl (ck_one 0)], ([], [], [(226, 26, 26, ck_one (-1)), (227, 11, 11, ck_one 2), (227, 10, 10, ck_one 10), (227, 1, 1, ck_one 40), (227, 0, 0, ck_one 3), (227, 2, 9, ck_one 0), (237, 0, 299, ck_one 0), (236, 0, 299, ck_one 0), (226, 0, 0, ck_one 0), (226, 17, 17, ck_one 0), (226, 18, 18, ck_one 0), (226, 19, 19, ck_one 0), (226, 20, 20, ck_one 0), (226, 21, 21, ck_one 0), (226, 22, 22, ck_one 0), (226, 23, 23, ck_one 0), (226, 29, 29, ck_one 0), (226, 30, 30, ck_one 0), (235, 0, 11999, ck_one 0), (234, 0, 299, (0, 9, none))]), ([(226, 0, 0), (226, 17, 23), (226, 26, 26), (226, 29, 30), (235, 0, 29699), (236, 0, 299), (237, 0, 299)], []), [(.inr (some (.inl (ck_one 0))), 245, ([], [], [(226, 0, 0, ck_one 0), (226, 26, 26, ((-1), 2, none)), (226, 17, 17, (0, 2, none)), (226, 18, 18, (0, 39, none)), (226, 19, 19, (0, 299, none)), (226, 20, 20, ck_one 0), (226, 21, 21, ck_one 0), (226, 22, 22, ck_one 0), (226, 23, 23, ck_one 0), (226, 29, 29, ((-1), 0, none)), (226, 30, 30, ck_one 0), (237, 0, 299, ((-1), 99, none)), (236, 0, 299, ((-1), 39, none)), (235, 0, 11999, (0, 1, none))]))])
set_option maxRecDepth 100000 in
theorem p16x_5503_e : ck_ok p1_O none [] [(289, [p16x_281]), (283, [p16x_282, p16x_351, p16x_3843]), (286, [p16x_334]), (267, [p16x_350]), (287, [p16x_3842]), (260, [p16x_3844]), (326, [p16x_5493])] 325 [(90, [some (.inr (.inr (.inl 226))), some (.inl (0, 2, none)), some (.inl (0, 299, none)), some (.inl (0, 299, none)), some (.inl (ck_one 0)), some (.inl (ck_one 0)), some (.inl (ck_one (-1))), some (.inl (ck_one (-1))), some (.inl (0, 40, none))], ([], [], [(226, 0, 0, ck_one 0), (226, 26, 26, ((-1), 2, none)), (227, 11, 11, ck_one 2), (227, 10, 10, ck_one 10), (227, 1, 1, ck_one 40), (227, 0, 0, ck_one 3), (227, 2, 9, ck_one 0), (237, 0, 299, ((-1), 99, none)), (236, 0, 299, ((-1), 39, none)), (226, 17, 17, (0, 2, none)), (226, 18, 18, (0, 39, none)), (226, 19, 19, (0, 299, none)), (226, 20, 20, ck_one 0), (226, 21, 21, ck_one 0), (226, 22, 22, ck_one 0), (226, 23, 23, ck_one 0), (226, 29, 29, ((-1), 0, none)), (226, 30, 30, ck_one 0), (235, 0, 11999, (0, 1, none)), (234, 0, 299, (0, 9, none))]), 100, .inl 8, true)] 266 p16x_5503 = true := by decide +kernel
theorem p16x_5503_s {X : Int → Int} {LX : Nat} : ck_Ok p1_O X LX 325 p16x_5503 := ck_ok_s (ck_E1 (ck_S1 p16x_281_s ck_S0) (ck_E1 (ck_S1 p16x_282_s (ck_S1 p16x_351_s (ck_S1 p16x_3843_s ck_S0))) (ck_E1 (ck_S1 p16x_334_s ck_S0) (ck_E1 (ck_S1 p16x_350_s ck_S0) (ck_E1 (ck_S1 p16x_3842_s ck_S0) (ck_E1 (ck_S1 p16x_3844_s ck_S0) (ck_E1 (ck_S1 p16x_5493_s ck_S0) ck_E0))))))) ck_X0 ck_l0 p16x_5503_e
set_option maxRecDepth 100000 in
def p16x_5507 : ck_Sum := ((0, 0, 0), 245, [.inl (ck_one 1), .inl (ck_one 0), .inl (ck_one 2)], ([], [], []), ([], []), [(.inr (some (.inl (ck_one 1))), 245, ([], [], []))])
set_option maxRecDepth 100000 in
theorem p16x_5507_e : ck_ok p1_O none [] [] 287 [] 88 p16x_5507 = true := by decide +kernel
theorem p16x_5507_s {X : Int → Int} {LX : Nat} : ck_Ok p1_O X LX 287 p16x_5507 := ck_ok_s (ck_E0) ck_X0 ck_l0 p16x_5507_e
set_option maxRecDepth 100000 in
def p16x_5508 : ck_Sum := ((4, 0, 0), 245, [.inr (.inr (.inl 226)), .inl (0, 2, none), .inl (0, 299, none), .inl (0, 299, none), .inl (ck_one 1)], ([], [], [(226, 26, 26, ck_one (-1)), (227, 11, 11, ck_one 2), (227, 10, 10, ck_one 10), (227, 1, 1, ck_one 40), (227, 0, 0, ck_one 3), (227, 2, 9, ck_one 0), (237, 0, 299, ck_one 0), (236, 0, 299, ck_one 0), (226, 0, 0, ck_one 0), (226, 17, 17, ck_one 0), (226, 18, 18, ck_one 0), (226, 19, 19, ck_one 0), (226, 20, 20, ck_one 0), (226, 21, 21, ck_one 0), (226, 22, 22, ck_one 0), (226, 23, 23, ck_one 0), (226, 29, 29, ck_one 0), (226, 30, 30, ck_one 0), (235, 0, 11999, ck_one 0), (234, 0, 299, (0, 9, none))]), ([(226, 0, 0), (226, 17, 23), (226, 26, 26), (226, 29, 30), (235, 0, 29699), (236, 0, 299), (237, 0, 299)], []), [(.inr (some (.inl (ck_one (-1)))), 245, ([], [], [(226, 0, 0, ck_one 0), (226, 26, 26, ((-1), 2, none)), (226, 17, 17, (0, 2, none)), (226, 18, 18, (0, 39, none)), (226, 19, 19, (0, 299, none)), (226, 20, 20, ck_one 0), (226, 21, 21, ck_one 0), (226, 22, 22, ck_one 0), (226, 23, 23, ck_one 0), (226, 29, 29, ((-1), 0, none)), (226, 30, 30, ck_one 0), (237, 0, 299, ((-1), 99, none)), (236, 0, 299, ((-1), 39, none)), (235, 0, 11999, (0, 1, none))]))])
set_option maxRecDepth 100000 in
theorem p16x_5508_e : ck_ok p1_O none [] [(289, [p16x_281]), (283, [p16x_282, p16x_351, p16x_3843]), (286, [p16x_334]), (267, [p16x_350]), (287, [p16x_5507]), (260, [p16x_3844]), (326, [p16x_5493])] 325 [(90, [some (.inr (.inr (.inl 226))), some (.inl (0, 2, none)), some (.inl (0, 299, none)), some (.inl (0, 299, none)), some (.inl (ck_one 1)), some (.inl (ck_one 0)), some (.inl (ck_one (-1))), some (.inl (ck_one (-1))), some (.inl (0, 40, none))], ([], [], [(226, 0, 0, ck_one 0), (226, 26, 26, ((-1), 2, none)), (227, 11, 11, ck_one 2), (227, 10, 10, ck_one 10), (227, 1, 1, ck_one 40), (227, 0, 0, ck_one 3), (227, 2, 9, ck_one 0), (237, 0, 299, ((-1), 99, none)), (236, 0, 299, ((-1), 39, none)), (226, 17, 17, (0, 2, none)), (226, 18, 18, (0, 39, none)), (226, 19, 19, (0, 299, none)), (226, 20, 20, ck_one 0), (226, 21, 21, ck_one 0), (226, 22, 22, ck_one 0), (226, 23, 23, ck_one 0), (226, 29, 29, ((-1), 0, none)), (226, 30, 30, ck_one 0), (235, 0, 11999, (0, 1, none)), (234, 0, 299, (0, 9, none))]), 100, .inl 8, true)] 266 p16x_5508 = true := by decide +kernel
theorem p16x_5508_s {X : Int → Int} {LX : Nat} : ck_Ok p1_O X LX 325 p16x_5508 := ck_ok_s (ck_E1 (ck_S1 p16x_281_s ck_S0) (ck_E1 (ck_S1 p16x_282_s (ck_S1 p16x_351_s (ck_S1 p16x_3843_s ck_S0))) (ck_E1 (ck_S1 p16x_334_s ck_S0) (ck_E1 (ck_S1 p16x_350_s ck_S0) (ck_E1 (ck_S1 p16x_5507_s ck_S0) (ck_E1 (ck_S1 p16x_3844_s ck_S0) (ck_E1 (ck_S1 p16x_5493_s ck_S0) ck_E0))))))) ck_X0 ck_l0 p16x_5508_e
set_option maxRecDepth 100000 in
def p16x_5511 : ck_Sum := ((0, 0, 0), 245, [.inl (ck_one 2), .inl (ck_one 0), .inl (ck_one 2)], ([], [], []), ([], []), [(.inr (some (.inl (ck_one 1))), 245, ([], [], []))])
set_option maxRecDepth 100000 in
theorem p16x_5511_e : ck_ok p1_O none [] [] 287 [] 88 p16x_5511 = true := by decide +kernel
theorem p16x_5511_s {X : Int → Int} {LX : Nat} : ck_Ok p1_O X LX 287 p16x_5511 := ck_ok_s (ck_E0) ck_X0 ck_l0 p16x_5511_e
set_option maxRecDepth 100000 in
def p16x_5512 : ck_Sum := ((4, 0, 0), 245, [.inr (.inr (.inl 226)), .inl (0, 2, none), .inl (0, 299, none), .inl (0, 299, none), .inl (ck_one 2)], ([], [], [(226, 26, 26, ck_one (-1)), (227, 11, 11, ck_one 2), (227, 10, 10, ck_one 10), (227, 1, 1, ck_one 40), (227, 0, 0, ck_one 3), (227, 2, 9, ck_one 0), (237, 0, 299, ck_one 0), (236, 0, 299, ck_one 0), (226, 0, 0, ck_one 0), (226, 17, 17, ck_one 0), (226, 18, 18, ck_one 0), (226, 19, 19, ck_one 0), (226, 20, 20, ck_one 0), (226, 21, 21, ck_one 0), (226, 22, 22, ck_one 0), (226, 23, 23, ck_one 0), (226, 29, 29, ck_one 0), (226, 30, 30, ck_one 0), (235, 0, 11999, ck_one 0), (234, 0, 299, (0, 9, none))]), ([(226, 0, 0), (226, 17, 23), (226, 26, 26), (226, 29, 30), (235, 0, 29699), (236, 0, 299), (237, 0, 299)], []), [(.inr (some (.inl (ck_one (-1)))), 245, ([], [], [(226, 0, 0, ck_one 0), (226, 26, 26, ((-1), 2, none)), (226, 17, 17, (0, 2, none)), (226, 18, 18, (0, 39, none)), (226, 19, 19, (0, 299, none)), (226, 20, 20, ck_one 0), (226, 21, 21, ck_one 0), (226, 22, 22, ck_one 0), (226, 23, 23, ck_one 0), (226, 29, 29, ((-1), 0, none)), (226, 30, 30, ck_one 0), (237, 0, 299, ((-1), 99, none)), (236, 0, 299, ((-1), 39, none)), (235, 0, 11999, (0, 1, none))]))])
set_option maxRecDepth 100000 in
theorem p16x_5512_e : ck_ok p1_O none [] [(289, [p16x_281]), (283, [p16x_282, p16x_351, p16x_3843]), (286, [p16x_334]), (267, [p16x_350]), (287, [p16x_5511]), (260, [p16x_3844]), (326, [p16x_5493])] 325 [(90, [some (.inr (.inr (.inl 226))), some (.inl (0, 2, none)), some (.inl (0, 299, none)), some (.inl (0, 299, none)), some (.inl (ck_one 2)), some (.inl (ck_one 0)), some (.inl (ck_one (-1))), some (.inl (ck_one (-1))), some (.inl (0, 40, none))], ([], [], [(226, 0, 0, ck_one 0), (226, 26, 26, ((-1), 2, none)), (227, 11, 11, ck_one 2), (227, 10, 10, ck_one 10), (227, 1, 1, ck_one 40), (227, 0, 0, ck_one 3), (227, 2, 9, ck_one 0), (237, 0, 299, ((-1), 99, none)), (236, 0, 299, ((-1), 39, none)), (226, 17, 17, (0, 2, none)), (226, 18, 18, (0, 39, none)), (226, 19, 19, (0, 299, none)), (226, 20, 20, ck_one 0), (226, 21, 21, ck_one 0), (226, 22, 22, ck_one 0), (226, 23, 23, ck_one 0), (226, 29, 29, ((-1), 0, none)), (226, 30, 30, ck_one 0), (235, 0, 11999, (0, 1, none)), (234, 0, 299, (0, 9, none))]), 100, .inl 8, true)] 266 p16x_5512 = true := by decide +kernel
theorem p16x_5512_s {X : Int → Int} {LX : Nat} : ck_Ok p1_O X LX 325 p16x_5512 := ck_ok_s (ck_E1 (ck_S1 p16x_281_s ck_S0) (ck_E1 (ck_S1 p16x_282_s (ck_S1 p16x_351_s (ck_S1 p16x_3843_s ck_S0))) (ck_E1 (ck_S1 p16x_334_s ck_S0) (ck_E1 (ck_S1 p16x_350_s ck_S0) (ck_E1 (ck_S1 p16x_5511_s ck_S0) (ck_E1 (ck_S1 p16x_3844_s ck_S0) (ck_E1 (ck_S1 p16x_5493_s ck_S0) ck_E0))))))) ck_X0 ck_l0 p16x_5512_e
set_option maxRecDepth 100000 in
def p16x_5515 : ck_Sum := ((0, 0, 0), 245, [.inl (3, 2147483647, none), .inl (ck_one 0), .inl (ck_one 2)], ([], [], []), ([], []), [(.inr (some (.inl (ck_one 0))), 245, ([], [], []))])
set_option maxRecDepth 100000 in
theorem p16x_5515_e : ck_ok p1_O none [] [] 287 [] 86 p16x_5515 = true := by decide +kernel
theorem p16x_5515_s {X : Int → Int} {LX : Nat} : ck_Ok p1_O X LX 287 p16x_5515 := ck_ok_s (ck_E0) ck_X0 ck_l0 p16x_5515_e
set_option maxRecDepth 100000 in
def p16x_5516 : ck_Sum := ((2, 0, 0), 245, [.inr (.inr (.inl 226)), .inl (0, 2, none), .inl (0, 299, none), .inl (0, 299, none), .inl (3, 2147483647, none)], ([], [], [(227, 0, 0, ck_one 3), (227, 2, 9, ck_one 0)]), ([(226, 0, 0)], []), [(.inr (some (.inl (ck_one 0))), 245, ([], [], [(226, 0, 0, ck_one 3)]))])
set_option maxRecDepth 100000 in
theorem p16x_5516_e : ck_ok p1_O none [] [(289, [p16x_281]), (283, [p16x_282, p16x_351, p16x_352]), (286, [p16x_334]), (267, [p16x_350]), (287, [p16x_5515])] 325 [] 146 p16x_5516 = true := by decide +kernel
theorem p16x_5516_s {X : Int → Int} {LX : Nat} : ck_Ok p1_O X LX 325 p16x_5516 := ck_ok_s (ck_E1 (ck_S1 p16x_281_s ck_S0) (ck_E1 (ck_S1 p16x_282_s (ck_S1 p16x_351_s (ck_S1 p16x_352_s ck_S0))) (ck_E1 (ck_S1 p16x_334_s ck_S0) (ck_E1 (ck_S1 p16x_350_s ck_S0) (ck_E1 (ck_S1 p16x_5515_s ck_S0) ck_E0))))) ck_X0 ck_l0 p16x_5516_e
set_option maxRecDepth 100000 in
def p16x_5520 : ck_Sum := ((0, 0, 0), 245, [.inl (300, 2147483647, none), .inl (ck_one 0), .inl (ck_one 299)], ([], [], []), ([], []), [(.inr (some (.inl (ck_one 0))), 245, ([], [], []))])
set_option maxRecDepth 100000 in
theorem p16x_5520_e : ck_ok p1_O none [] [] 287 [] 86 p16x_5520 = true := by decide +kernel
theorem p16x_5520_s {X : Int → Int} {LX : Nat} : ck_Ok p1_O X LX 287 p16x_5520 := ck_ok_s (ck_E0) ck_X0 ck_l0 p16x_5520_e
set_option maxRecDepth 100000 in
def p16x_5521 : ck_Sum := ((1, 0, 0), 245, [.inl (300, 2147483647, none)], ([], [], []), ([], []), [(.inr (some (.inl (ck_one 1))), 245, ([], [], []))])
set_option maxRecDepth 100000 in
theorem p16x_5521_e : ck_ok p1_O none [] [(287, [p16x_5520])] 286 [] 86 p16x_5521 = true := by decide +kernel
theorem p16x_5521_s {X : Int → Int} {LX : Nat} : ck_Ok p1_O X LX 286 p16x_5521 := ck_ok_s (ck_E1 (ck_S1 p16x_5520_s ck_S0) ck_E0) ck_X0 ck_l0 p16x_5521_e
set_option maxRecDepth 100000 in
def p16x_5522 : ck_Sum := ((2, 0, 0), 245, [.inr (.inr (.inl 226)), .inl (0, 2, none), .inl (0, 299, none), .inl (300, 2147483647, none), .inl ((-2147483648), (-1), none)], ([], [], [(227, 0, 0, ck_one 3)]), ([(226, 0, 0)], []), [(.inr (some (.inl (ck_one 0))), 245, ([], [], [(226, 0, 0, ck_one 2)]))])
set_option maxRecDepth 100000 in
theorem p16x_5522_e : ck_ok p1_O none [] [(289, [p16x_281]), (283, [p16x_282, p16x_285]), (286, [p16x_334, p16x_5521])] 325 [] 118 p16x_5522 = true := by decide +kernel
theorem p16x_5522_s {X : Int → Int} {LX : Nat} : ck_Ok p1_O X LX 325 p16x_5522 := ck_ok_s (ck_E1 (ck_S1 p16x_281_s ck_S0) (ck_E1 (ck_S1 p16x_282_s (ck_S1 p16x_285_s ck_S0)) (ck_E1 (ck_S1 p16x_334_s (ck_S1 p16x_5521_s ck_S0)) ck_E0))) ck_X0 ck_l0 p16x_5522_e
set_option maxRecDepth 100000 in
def p16x_5525 : ck_Sum := ((2, 0, 0), 245, [.inr (.inr (.inl 226)), .inl (0, 2, none), .inl (0, 299, none), .inl (300, 2147483647, none), .inl (ck_one 0)], ([], [], [(227, 0, 0, ck_one 3)]), ([(226, 0, 0)], []), [(.inr (some (.inl (ck_one 0))), 245, ([], [], [(226, 0, 0, ck_one 2)]))])
set_option maxRecDepth 100000 in
theorem p16x_5525_e : ck_ok p1_O none [] [(289, [p16x_281]), (283, [p16x_282, p16x_285]), (286, [p16x_334, p16x_5521])] 325 [] 118 p16x_5525 = true := by decide +kernel
theorem p16x_5525_s {X : Int → Int} {LX : Nat} : ck_Ok p1_O X LX 325 p16x_5525 := ck_ok_s (ck_E1 (ck_S1 p16x_281_s ck_S0) (ck_E1 (ck_S1 p16x_282_s (ck_S1 p16x_285_s ck_S0)) (ck_E1 (ck_S1 p16x_334_s (ck_S1 p16x_5521_s ck_S0)) ck_E0))) ck_X0 ck_l0 p16x_5525_e
set_option maxRecDepth 100000 in
def p16x_5528 : ck_Sum := ((2, 0, 0), 245, [.inr (.inr (.inl 226)), .inl (0, 2, none), .inl (0, 299, none), .inl (300, 2147483647, none), .inl (ck_one 1)], ([], [], [(227, 0, 0, ck_one 3)]), ([(226, 0, 0)], []), [(.inr (some (.inl (ck_one 0))), 245, ([], [], [(226, 0, 0, ck_one 2)]))])
set_option maxRecDepth 100000 in
theorem p16x_5528_e : ck_ok p1_O none [] [(289, [p16x_281]), (283, [p16x_282, p16x_285]), (286, [p16x_334, p16x_5521])] 325 [] 118 p16x_5528 = true := by decide +kernel
theorem p16x_5528_s {X : Int → Int} {LX : Nat} : ck_Ok p1_O X LX 325 p16x_5528 := ck_ok_s (ck_E1 (ck_S1 p16x_281_s ck_S0) (ck_E1 (ck_S1 p16x_282_s (ck_S1 p16x_285_s ck_S0)) (ck_E1 (ck_S1 p16x_334_s (ck_S1 p16x_5521_s ck_S0)) ck_E0))) ck_X0 ck_l0 p16x_5528_e
set_option maxRecDepth 100000 in
def p16x_5531 : ck_Sum := ((2, 0, 0), 245, [.inr (.inr (.inl 226)), .inl (0, 2, none), .inl (0, 299, none), .inl (300, 2147483647, none), .inl (ck_one 2)], ([], [], [(227, 0, 0, ck_one 3)]), ([(226, 0, 0)], []), [(.inr (some (.inl (ck_one 0))), 245, ([], [], [(226, 0, 0, ck_one 2)]))])
set_option maxRecDepth 100000 in
theorem p16x_5531_e : ck_ok p1_O none [] [(289, [p16x_281]), (283, [p16x_282, p16x_285]), (286, [p16x_334, p16x_5521])] 325 [] 118 p16x_5531 = true := by decide +kernel
theorem p16x_5531_s {X : Int → Int} {LX : Nat} : ck_Ok p1_O X LX 325 p16x_5531 := ck_ok_s (ck_E1 (ck_S1 p16x_281_s ck_S0) (ck_E1 (ck_S1 p16x_282_s (ck_S1 p16x_285_s ck_S0)) (ck_E1 (ck_S1 p16x_334_s (ck_S1 p16x_5521_s ck_S0)) ck_E0))) ck_X0 ck_l0 p16x_5531_e
set_option maxRecDepth 100000 in
def p16x_5534 : ck_Sum := ((2, 0, 0), 245, [.inr (.inr (.inl 226)), .inl (0, 2, none), .inl (0, 299, none), .inl (300, 2147483647, none), .inl (3, 2147483647, none)], ([], [], [(227, 0, 0, ck_one 3)]), ([(226, 0, 0)], []), [(.inr (some (.inl (ck_one 0))), 245, ([], [], [(226, 0, 0, ck_one 2)]))])
set_option maxRecDepth 100000 in
theorem p16x_5534_e : ck_ok p1_O none [] [(289, [p16x_281]), (283, [p16x_282, p16x_285]), (286, [p16x_334, p16x_5521])] 325 [] 118 p16x_5534 = true := by decide +kernel
theorem p16x_5534_s {X : Int → Int} {LX : Nat} : ck_Ok p1_O X LX 325 p16x_5534 := ck_ok_s (ck_E1 (ck_S1 p16x_281_s ck_S0) (ck_E1 (ck_S1 p16x_282_s (ck_S1 p16x_285_s ck_S0)) (ck_E1 (ck_S1 p16x_334_s (ck_S1 p16x_5521_s ck_S0)) ck_E0))) ck_X0 ck_l0 p16x_5534_e
set_option maxRecDepth 100000 in
def p16x_5537 : ck_Sum := ((2, 0, 0), 245, [.inr (.inr (.inl 226)), .inl (0, 2, none), .inl (300, 2147483647, none), .inl ((-2147483648), (-1), none), .inl ((-2147483648), (-1), none)], ([], [], [(227, 0, 0, ck_one 3)]), ([(226, 0, 0)], []), [(.inr (some (.inl (ck_one 0))), 245, ([], [], [(226, 0, 0, ck_one 2)]))])
set_option maxRecDepth 100000 in
theorem p16x_5537_e : ck_ok p1_O none [] [(289, [p16x_281]), (283, [p16x_282, p16x_285]), (286, [p16x_5521])] 325 [] 112 p16x_5537 = true := by decide +kernel
theorem p16x_5537_s {X : Int → Int} {LX : Nat} : ck_Ok p1_O X LX 325 p16x_5537 := ck_ok_s (ck_E1 (ck_S1 p16x_281_s ck_S0) (ck_E1 (ck_S1 p16x_282_s (ck_S1 p16x_285_s ck_S0)) (ck_E1 (ck_S1 p16x_5521_s ck_S0) ck_E0))) ck_X0 ck_l0 p16x_5537_e
set_option maxRecDepth 100000 in
def p16x_5540 : ck_Sum := ((2, 0, 0), 245, [.inr (.inr (.inl 226)), .inl (0, 2, none), .inl (300, 2147483647, none), .inl ((-2147483648), (-1), none), .inl (ck_one 0)], ([], [], [(227, 0, 0, ck_one 3)]), ([(226, 0, 0)], []), [(.inr (some (.inl (ck_one 0))), 245, ([], [], [(226, 0, 0, ck_one 2)]))])
set_option maxRecDepth 100000 in
theorem p16x_5540_e : ck_ok p1_O none [] [(289, [p16x_281]), (283, [p16x_282, p16x_285]), (286, [p16x_5521])] 325 [] 112 p16x_5540 = true := by decide +kernel
theorem p16x_5540_s {X : Int → Int} {LX : Nat} : ck_Ok p1_O X LX 325 p16x_5540 := ck_ok_s (ck_E1 (ck_S1 p16x_281_s ck_S0) (ck_E1 (ck_S1 p16x_282_s (ck_S1 p16x_285_s ck_S0)) (ck_E1 (ck_S1 p16x_5521_s ck_S0) ck_E0))) ck_X0 ck_l0 p16x_5540_e
set_option maxRecDepth 100000 in
def p16x_5543 : ck_Sum := ((2, 0, 0), 245, [.inr (.inr (.inl 226)), .inl (0, 2, none), .inl (300, 2147483647, none), .inl ((-2147483648), (-1), none), .inl (ck_one 1)], ([], [], [(227, 0, 0, ck_one 3)]), ([(226, 0, 0)], []), [(.inr (some (.inl (ck_one 0))), 245, ([], [], [(226, 0, 0, ck_one 2)]))])
set_option maxRecDepth 100000 in
theorem p16x_5543_e : ck_ok p1_O none [] [(289, [p16x_281]), (283, [p16x_282, p16x_285]), (286, [p16x_5521])] 325 [] 112 p16x_5543 = true := by decide +kernel
theorem p16x_5543_s {X : Int → Int} {LX : Nat} : ck_Ok p1_O X LX 325 p16x_5543 := ck_ok_s (ck_E1 (ck_S1 p16x_281_s ck_S0) (ck_E1 (ck_S1 p16x_282_s (ck_S1 p16x_285_s ck_S0)) (ck_E1 (ck_S1 p16x_5521_s ck_S0) ck_E0))) ck_X0 ck_l0 p16x_5543_e
set_option maxRecDepth 100000 in
def p16x_5546 : ck_Sum := ((2, 0, 0), 245, [.inr (.inr (.inl 226)), .inl (0, 2, none), .inl (300, 2147483647, none), .inl ((-2147483648), (-1), none), .inl (ck_one 2)], ([], [], [(227, 0, 0, ck_one 3)]), ([(226, 0, 0)], []), [(.inr (some (.inl (ck_one 0))), 245, ([], [], [(226, 0, 0, ck_one 2)]))])
set_option maxRecDepth 100000 in
theorem p16x_5546_e : ck_ok p1_O none [] [(289, [p16x_281]), (283, [p16x_282, p16x_285]), (286, [p16x_5521])] 325 [] 112 p16x_5546 = true := by decide +kernel
theorem p16x_5546_s {X : Int → Int} {LX : Nat} : ck_Ok p1_O X LX 325 p16x_5546 := ck_ok_s (ck_E1 (ck_S1 p16x_281_s ck_S0) (ck_E1 (ck_S1 p16x_282_s (ck_S1 p16x_285_s ck_S0)) (ck_E1 (ck_S1 p16x_5521_s ck_S0) ck_E0))) ck_X0 ck_l0 p16x_5546_e
set_option maxRecDepth 100000 in
def p16x_5549 : ck_Sum := ((2, 0, 0), 245, [.inr (.inr (.inl 226)), .inl (0, 2, none), .inl (300, 2147483647, none), .inl ((-2147483648), (-1), none), .inl (3, 2147483647, none)], ([], [], [(227, 0, 0, ck_one 3)]), ([(226, 0, 0)], []), [(.inr (some (.inl (ck_one 0))), 245, ([], [], [(226, 0, 0, ck_one 2)]))])
set_option maxRecDepth 100000 in
theorem p16x_5549_e : ck_ok p1_O none [] [(289, [p16x_281]), (283, [p16x_282, p16x_285]), (286, [p16x_5521])] 325 [] 112 p16x_5549 = true := by decide +kernel
theorem p16x_5549_s {X : Int → Int} {LX : Nat} : ck_Ok p1_O X LX 325 p16x_5549 := ck_ok_s (ck_E1 (ck_S1 p16x_281_s ck_S0) (ck_E1 (ck_S1 p16x_282_s (ck_S1 p16x_285_s ck_S0)) (ck_E1 (ck_S1 p16x_5521_s ck_S0) ck_E0))) ck_X0 ck_l0 p16x_5549_e
set_option maxRecDepth 100000 in
def p16x_5552 : ck_Sum := ((2, 0, 0), 245, [.inr (.inr (.inl 226)), .inl (0, 2, none), .inl (300, 2147483647, none), .inl (0, 299, none), .inl ((-2147483648), (-1), none)], ([], [], [(227, 0, 0, ck_one 3)]), ([(226, 0, 0)], []), [(.inr (some (.inl (ck_one 0))), 245, ([], [], [(226, 0, 0, ck_one 2)]))])
set_option maxRecDepth 100000 in
theorem p16x_5552_e : ck_ok p1_O none [] [(289, [p16x_281]), (283, [p16x_282, p16x_285]), (286, [p16x_5521])] 325 [] 112 p16x_5552 = true := by decide +kernel
theorem p16x_5552_s {X : Int → Int} {LX : Nat} : ck_Ok p1_O X LX 325 p16x_5552 := ck_ok_s (ck_E1 (ck_S1 p16x_281_s ck_S0) (ck_E1 (ck_S1 p16x_282_s (ck_S1 p16x_285_s ck_S0)) (ck_E1 (ck_S1 p16x_5521_s ck_S0) ck_E0))) ck_X0 ck_l0 p16x_5552_e
set_option maxRecDepth 100000 in
def p16x_5555 : ck_Sum := ((2, 0, 0), 245, [.inr (.inr (.inl 226)), .inl (0, 2, none), .inl (300, 2147483647, none), .inl (0, 299, none), .inl (ck_one 0)], ([], [], [(227, 0, 0, ck_one 3)]), ([(226, 0, 0)], []), [(.inr (some (.inl (ck_one 0))), 245, ([], [], [(226, 0, 0, ck_one 2)]))])
set_option maxRecDepth 100000 in
theorem p16x_5555_e : ck_ok p1_O none [] [(289, [p16x_281]), (283, [p16x_282, p16x_285]), (286, [p16x_5521])] 325 [] 112 p16x_5555 = true := by decide +kernel
theorem p16x_5555_s {X : Int → Int} {LX : Nat} : ck_Ok p1_O X LX 325 p16x_5555 := ck_ok_s (ck_E1 (ck_S1 p16x_281_s ck_S0) (ck_E1 (ck_S1 p16x_282_s (ck_S1 p16x_285_s ck_S0)) (ck_E1 (ck_S1 p16x_5521_s ck_S0) ck_E0))) ck_X0 ck_l0 p16x_5555_e
set_option maxRecDepth 100000 in
def p16x_5558 : ck_Sum := ((2, 0, 0), 245, [.inr (.inr (.inl 226)), .inl (0, 2, none), .inl (300, 2147483647, none), .inl (0, 299, none), .inl (ck_one 1)], ([], [], [(227, 0, 0, ck_one 3)]), ([(226, 0, 0)], []), [(.inr (some (.inl (ck_one 0))), 245, ([], [], [(226, 0, 0, ck_one 2)]))])
set_option maxRecDepth 100000 in
theorem p16x_5558_e : ck_ok p1_O none [] [(289, [p16x_281]), (283, [p16x_282, p16x_285]), (286, [p16x_5521])] 325 [] 112 p16x_5558 = true := by decide +kernel
theorem p16x_5558_s {X : Int → Int} {LX : Nat} : ck_Ok p1_O X LX 325 p16x_5558 := ck_ok_s (ck_E1 (ck_S1 p16x_281_s ck_S0) (ck_E1 (ck_S1 p16x_282_s (ck_S1 p16x_285_s ck_S0)) (ck_E1 (ck_S1 p16x_5521_s ck_S0) ck_E0))) ck_X0 ck_l0 p16x_5558_e
set_option maxRecDepth 100000 in
def p16x_5561 : ck_Sum := ((2, 0, 0), 245, [.inr (.inr (.inl 226)), .inl (0, 2, none), .inl (300, 2147483647, none), .inl (0, 299, none), .inl (ck_one 2)], ([], [], [(227, 0, 0, ck_one 3)]), ([(226, 0, 0)], []), [(.inr (some (.inl (ck_one 0))), 245, ([], [], [(226, 0, 0, ck_one 2)]))])
set_option maxRecDepth 100000 in
theorem p16x_5561_e : ck_ok p1_O none [] [(289, [p16x_281]), (283, [p16x_282, p16x_285]), (286, [p16x_5521])] 325 [] 112 p16x_5561 = true := by decide +kernel
theorem p16x_5561_s {X : Int → Int} {LX : Nat} : ck_Ok p1_O X LX 325 p16x_5561 := ck_ok_s (ck_E1 (ck_S1 p16x_281_s ck_S0) (ck_E1 (ck_S1 p16x_282_s (ck_S1 p16x_285_s ck_S0)) (ck_E1 (ck_S1 p16x_5521_s ck_S0) ck_E0))) ck_X0 ck_l0 p16x_5561_e
set_option maxRecDepth 100000 in
def p16x_5564 : ck_Sum := ((2, 0, 0), 245, [.inr (.inr (.inl 226)), .inl (0, 2, none), .inl (300, 2147483647, none), .inl (0, 299, none), .inl (3, 2147483647, none)], ([], [], [(227, 0, 0, ck_one 3)]), ([(226, 0, 0)], []), [(.inr (some (.inl (ck_one 0))), 245, ([], [], [(226, 0, 0, ck_one 2)]))])
set_option maxRecDepth 100000 in
theorem p16x_5564_e : ck_ok p1_O none [] [(289, [p16x_281]), (283, [p16x_282, p16x_285]), (286, [p16x_5521])] 325 [] 112 p16x_5564 = true := by decide +kernel
theorem p16x_5564_s {X : Int → Int} {LX : Nat} : ck_Ok p1_O X LX 325 p16x_5564 := ck_ok_s (ck_E1 (ck_S1 p16x_281_s ck_S0) (ck_E1 (ck_S1 p16x_282_s (ck_S1 p16x_285_s ck_S0)) (ck_E1 (ck_S1 p16x_5521_s ck_S0) ck_E0))) ck_X0 ck_l0 p16x_5564_e
set_option maxRecDepth 100000 in
def p16x_5567 : ck_Sum := ((2, 0, 0), 245, [.inr (.inr (.inl 226)), .inl (0, 2, none), .inl (300, 2147483647, none), .inl (300, 2147483647, none), .inl ((-2147483648), (-1), none)], ([], [], [(227, 0, 0, ck_one 3)]), ([(226, 0, 0)], []), [(.inr (some (.inl (ck_one 0))), 245, ([], [], [(226, 0, 0, ck_one 2)]))])
set_option maxRecDepth 100000 in
theorem p16x_5567_e : ck_ok p1_O none [] [(289, [p16x_281]), (283, [p16x_282, p16x_285]), (286, [p16x_5521])] 325 [] 112 p16x_5567 = true := by decide +kernel
theorem p16x_5567_s {X : Int → Int} {LX : Nat} : ck_Ok p1_O X LX 325 p16x_5567 := ck_ok_s (ck_E1 (ck_S1 p16x_281_s ck_S0) (ck_E1 (ck_S1 p16x_282_s (ck_S1 p16x_285_s ck_S0)) (ck_E1 (ck_S1 p16x_5521_s ck_S0) ck_E0))) ck_X0 ck_l0 p16x_5567_e
set_option maxRecDepth 100000 in
def p16x_5570 : ck_Sum := ((2, 0, 0), 245, [.inr (.inr (.inl 226)), .inl (0, 2, none), .inl (300, 2147483647, none), .inl (300, 2147483647, none), .inl (ck_one 0)], ([], [], [(227, 0, 0, ck_one 3)]), ([(226, 0, 0)], []), [(.inr (some (.inl (ck_one 0))), 245, ([], [], [(226, 0, 0, ck_one 2)]))])
set_option maxRecDepth 100000 in
theorem p16x_5570_e : ck_ok p1_O none [] [(289, [p16x_281]), (283, [p16x_282, p16x_285]), (286, [p16x_5521])] 325 [] 112 p16x_5570 = true := by decide +kernel
theorem p16x_5570_s {X : Int → Int} {LX : Nat} : ck_Ok p1_O X LX 325 p16x_5570 := ck_ok_s (ck_E1 (ck_S1 p16x_281_s ck_S0) (ck_E1 (ck_S1 p16x_282_s (ck_S1 p16x_285_s ck_S0)) (ck_E1 (ck_S1 p16x_5521_s ck_S0) ck_E0))) ck_X0 ck_l0 p16x_5570_e
set_option maxRecDepth 100000 in
def p16x_5573 : ck_Sum := ((2, 0, 0), 245, [.inr (.inr (.inl 226)), .inl (0, 2, none), .inl (300, 2147483647, none), .inl (300, 2147483647, none), .inl (ck_one 1)], ([], [], [(227, 0, 0, ck_one 3)]), ([(226, 0, 0)], []), [(.inr (some (.inl (ck_one 0))), 245, ([], [], [(226, 0, 0, ck_one 2)]))])
set_option maxRecDepth 100000 in
theorem p16x_5573_e : ck_ok p1_O none [] [(289, [p16x_281]), (283, [p16x_282, p16x_285]), (286, [p16x_5521])] 325 [] 112 p16x_5573 = true := by decide +kernel
theorem p16x_5573_s {X : Int → Int} {LX : Nat} : ck_Ok p1_O X LX 325 p16x_5573 := ck_ok_s (ck_E1 (ck_S1 p16x_281_s ck_S0) (ck_E1 (ck_S1 p16x_282_s (ck_S1 p16x_285_s ck_S0)) (ck_E1 (ck_S1 p16x_5521_s ck_S0) ck_E0))) ck_X0 ck_l0 p16x_5573_e
set_option maxRecDepth 100000 in
def p16x_5576 : ck_Sum := ((2, 0, 0), 245, [.inr (.inr (.inl 226)), .inl (0, 2, none), .inl (300, 2147483647, none), .inl (300, 2147483647, none), .inl (ck_one 2)], ([], [], [(227, 0, 0, ck_one 3)]), ([(226, 0, 0)], []), [(.inr (some (.inl (ck_one 0))), 245, ([], [], [(226, 0, 0, ck_one 2)]))])
set_option maxRecDepth 100000 in
theorem p16x_5576_e : ck_ok p1_O none [] [(289, [p16x_281]), (283, [p16x_282, p16x_285]), (286, [p16x_5521])] 325 [] 112 p16x_5576 = true := by decide +kernel
theorem p16x_5576_s {X : Int → Int} {LX : Nat} : ck_Ok p1_O X LX 325 p16x_5576 := ck_ok_s (ck_E1 (ck_S1 p16x_281_s ck_S0) (ck_E1 (ck_S1 p16x_282_s (ck_S1 p16x_285_s ck_S0)) (ck_E1 (ck_S1 p16x_5521_s ck_S0) ck_E0))) ck_X0 ck_l0 p16x_5576_e
set_option maxRecDepth 100000 in
def p16x_5579 : ck_Sum := ((2, 0, 0), 245, [.inr (.inr (.inl 226)), .inl (0, 2, none), .inl (300, 2147483647, none), .inl (300, 2147483647, none), .inl (3, 2147483647, none)], ([], [], [(227, 0, 0, ck_one 3)]), ([(226, 0, 0)], []), [(.inr (some (.inl (ck_one 0))), 245, ([], [], [(226, 0, 0, ck_one 2)]))])
set_option maxRecDepth 100000 in
theorem p16x_5579_e : ck_ok p1_O none [] [(289, [p16x_281]), (283, [p16x_282, p16x_285]), (286, [p16x_5521])] 325 [] 112 p16x_5579 = true := by decide +kernel
theorem p16x_5579_s {X : Int → Int} {LX : Nat} : ck_Ok p1_O X LX 325 p16x_5579 := ck_ok_s (ck_E1 (ck_S1 p16x_281_s ck_S0) (ck_E1 (ck_S1 p16x_282_s (ck_S1 p16x_285_s ck_S0)) (ck_E1 (ck_S1 p16x_5521_s ck_S0) ck_E0))) ck_X0 ck_l0 p16x_5579_e
set_option maxRecDepth 100000 in
def p16x_5584 : ck_Sum := ((1, 0, 0), 245, [.inr (.inr (.inl 226)), .inl (3, 2147483647, none)], ([], [], [(227, 0, 0, ck_one 3)]), ([], []), [(.inr (some (.inl (ck_one 1))), 245, ([], [], []))])
set_option maxRecDepth 100000 in
theorem p16x_5584_e : ck_ok p1_O none [] [(262, [p16x_137]), (287, [p16x_5515])] 289 [] 92 p16x_5584 = true := by decide +kernel
theorem p16x_5584_s {X : Int → Int} {LX : Nat} : ck_Ok p1_O X LX 289 p16x_5584 := ck_ok_s (ck_E1 (ck_S1 p16x_137_s ck_S0) (ck_E1 (ck_S1 p16x_5515_s ck_S0) ck_E0)) ck_X0 ck_l0 p16x_5584_e
set_option maxRecDepth 100000 in
def p16x_5585 : ck_Sum := ((2, 0, 0), 245, [.inr (.inr (.inl 226)), .inl (3, 2147483647, none), .inl ((-2147483648), (-1), none), .inl ((-2147483648), (-1), none), .inl ((-2147483648), (-1), none)], ([], [], [(227, 0, 0, ck_one 3)]), ([(226, 0, 0)], []), [(.inr (some (.inl (ck_one 0))), 245, ([], [], [(226, 0, 0, ck_one 1)]))])
set_option maxRecDepth 100000 in
theorem p16x_5585_e : ck_ok p1_O none [] [(289, [p16x_5584]), (283, [p16x_140])] 325 [] 94 p16x_5585 = true := by decide +kernel
theorem p16x_5585_s {X : Int → Int} {LX : Nat} : ck_Ok p1_O X LX 325 p16x_5585 := ck_ok_s (ck_E1 (ck_S1 p16x_5584_s ck_S0) (ck_E1 (ck_S1 p16x_140_s ck_S0) ck_E0)) ck_X0 ck_l0 p16x_5585_e
set_option maxRecDepth 100000 in
def p16x_5588 : ck_Sum := ((2, 0, 0), 245, [.inr (.inr (.inl 226)), .inl (3, 2147483647, none), .inl ((-2147483648), (-1), none), .inl ((-2147483648), (-1), none), .inl (ck_one 0)], ([], [], [(227, 0, 0, ck_one 3)]), ([(226, 0, 0)], []), [(.inr (some (.inl (ck_one 0))), 245, ([], [], [(226, 0, 0, ck_one 1)]))])
set_option maxRecDepth 100000 in
theorem p16x_5588_e : ck_ok p1_O none [] [(289, [p16x_5584]), (283, [p16x_140])] 325 [] 94 p16x_5588 = true := by decide +kernel
theorem p16x_5588_s {X : Int → Int} {LX : Nat} : ck_Ok p1_O X LX 325 p16x_5588 := ck_ok_s (ck_E1 (ck_S1 p16x_5584_s ck_S0) (ck_E1 (ck_S1 p16x_140_s ck_S0) ck_E0)) ck_X0 ck_l0 p16x_5588_e
set_option maxRecDepth 100000 in
def p16x_5591 : ck_Sum := ((2, 0, 0), 245, [.inr (.inr (.inl 226)), .inl (3, 2147483647, none), .inl ((-2147483648), (-1), none), .inl ((-2147483648), (-1), none), .inl (ck_one 1)], ([], [], [(227, 0, 0, ck_one 3)]), ([(226, 0, 0)], []), [(.inr (some (.inl (ck_one 0))), 245, ([], [], [(226, 0, 0, ck_one 1)]))])
set_option maxRecDepth 100000 in
theorem p16x_5591_e : ck_ok p1_O none [] [(289, [p16x_5584]), (283, [p16x_140])] 325 [] 94 p16x_5591 = true := by decide +kernel
theorem p16x_5591_s {X : Int → Int} {LX : Nat} : ck_Ok p1_O X LX 325 p16x_5591 := ck_ok_s (ck_E1 (ck_S1 p16x_5584_s ck_S0) (ck_E1 (ck_S1 p16x_140_s ck_S0) ck_E0)) ck_X0 ck_l0 p16x_5591_e
set_option maxRecDepth 100000 in
def p16x_5594 : ck_Sum := ((2, 0, 0), 245, [.inr (.inr (.inl 226)), .inl (3, 2147483647, none), .inl ((-2147483648), (-1), none), .inl ((-2147483648), (-1), none), .inl (ck_one 2)], ([], [], [(227, 0, 0, ck_one 3)]), ([(226, 0, 0)], []), [(.inr (some (.inl (ck_one 0))), 245, ([], [], [(226, 0, 0, ck_one 1)]))])
set_option maxRecDepth 100000 in
theorem p16x_5594_e : ck_ok p1_O none [] [(289, [p16x_5584]), (283, [p16x_140])] 325 [] 94 p16x_5594 = true := by decide +kernel
theorem p16x_5594_s {X : Int → Int} {LX : Nat} : ck_Ok p1_O X LX 325 p16x_5594 := ck_ok_s (ck_E1 (ck_S1 p16x_5584_s ck_S0) (ck_E1 (ck_S1 p16x_140_s ck_S0) ck_E0)) ck_X0 ck_l0 p16x_5594_e
set_option maxRecDepth 100000 in
def p16x_5597 : ck_Sum := ((2, 0, 0), 245, [.inr (.inr (.inl 226)), .inl (3, 2147483647, none), .inl ((-2147483648), (-1), none), .inl ((-2147483648), (-1), none), .inl (3, 2147483647, none)], ([], [], [(227, 0, 0, ck_one 3)]), ([(226, 0, 0)], []), [(.inr (some (.inl (ck_one 0))), 245, ([], [], [(226, 0, 0, ck_one 1)]))])
set_option maxRecDepth 100000 in
theorem p16x_5597_e : ck_ok p1_O none [] [(289, [p16x_5584]), (283, [p16x_140])] 325 [] 94 p16x_5597 = true := by decide +kernel
theorem p16x_5597_s {X : Int → Int} {LX : Nat} : ck_Ok p1_O X LX 325 p16x_5597 := ck_ok_s (ck_E1 (ck_S1 p16x_5584_s ck_S0) (ck_E1 (ck_S1 p16x_140_s ck_S0) ck_E0)) ck_X0 ck_l0 p16x_5597_e
set_option maxRecDepth 100000 in
def p16x_5600 : ck_Sum := ((2, 0, 0), 245, [.inr (.inr (.inl 226)), .inl (3, 2147483647, none), .inl ((-2147483648), (-1), none), .inl (0, 299, none), .inl ((-2147483648), (-1), none)], ([], [], [(227, 0, 0, ck_one 3)]), ([(226, 0, 0)], []), [(.inr (some (.inl (ck_one 0))), 245, ([], [], [(226, 0, 0, ck_one 1)]))])
set_option maxRecDepth 100000 in
theorem p16x_5600_e : ck_ok p1_O none [] [(289, [p16x_5584]), (283, [p16x_140])] 325 [] 94 p16x_5600 = true := by decide +kernel
theorem p16x_5600_s {X : Int → Int} {LX : Nat} : ck_Ok p1_O X LX 325 p16x_5600 := ck_ok_s (ck_E1 (ck_S1 p16x_5584_s ck_S0) (ck_E1 (ck_S1 p16x_140_s ck_S0) ck_E0)) ck_X0 ck_l0 p16x_5600_e
set_option maxRecDepth 100000 in
def p16x_5603 : ck_Sum := ((2, 0, 0), 245, [.inr (.inr (.inl 226)), .inl (3, 2147483647, none), .inl ((-2147483648), (-1), none), .inl (0, 299, none), .inl (ck_one 0)], ([], [], [(227, 0, 0, ck_one 3)]), ([(226, 0, 0)], []), [(.inr (some (.inl (ck_one 0))), 245, ([], [], [(226, 0, 0, ck_one 1)]))])
set_option maxRecDepth 100000 in
theorem p16x_5603_e : ck_ok p1_O none [] [(289, [p16x_5584]), (283, [p16x_140])] 325 [] 94 p16x_5603 = true := by decide +kernel
theorem p16x_5603_s {X : Int → Int} {LX : Nat} : ck_Ok p1_O X LX 325 p16x_5603 := ck_ok_s (ck_E1 (ck_S1 p16x_5584_s ck_S0) (ck_E1 (ck_S1 p16x_140_s ck_S0) ck_E0)) ck_X0 ck_l0 p16x_5603_e
set_option maxRecDepth 100000 in
def p16x_5606 : ck_Sum := ((2, 0, 0), 245, [.inr (.inr (.inl 226)), .inl (3, 2147483647, none), .inl ((-2147483648), (-1), none), .inl (0, 299, none), .inl (ck_one 1)], ([], [], [(227, 0, 0, ck_one 3)]), ([(226, 0, 0)], []), [(.inr (some (.inl (ck_one 0))), 245, ([], [], [(226, 0, 0, ck_one 1)]))])
set_option maxRecDepth 100000 in
theorem p16x_5606_e : ck_ok p1_O none [] [(289, [p16x_5584]), (283, [p16x_140])] 325 [] 94 p16x_5606 = true := by decide +kernel
theorem p16x_5606_s {X : Int → Int} {LX : Nat} : ck_Ok p1_O X LX 325 p16x_5606 := ck_ok_s (ck_E1 (ck_S1 p16x_5584_s ck_S0) (ck_E1 (ck_S1 p16x_140_s ck_S0) ck_E0)) ck_X0 ck_l0 p16x_5606_e
set_option maxRecDepth 100000 in
def p16x_5609 : ck_Sum := ((2, 0, 0), 245, [.inr (.inr (.inl 226)), .inl (3, 2147483647, none), .inl ((-2147483648), (-1), none), .inl (0, 299, none), .inl (ck_one 2)], ([], [], [(227, 0, 0, ck_one 3)]), ([(226, 0, 0)], []), [(.inr (some (.inl (ck_one 0))), 245, ([], [], [(226, 0, 0, ck_one 1)]))])
set_option maxRecDepth 100000 in
theorem p16x_5609_e : ck_ok p1_O none [] [(289, [p16x_5584]), (283, [p16x_140])] 325 [] 94 p16x_5609 = true := by decide +kernel
theorem p16x_5609_s {X : Int → Int} {LX : Nat} : ck_Ok p1_O X LX 325 p16x_5609 := ck_ok_s (ck_E1 (ck_S1 p16x_5584_s ck_S0) (ck_E1 (ck_S1 p16x_140_s ck_S0) ck_E0)) ck_X0 ck_l0 p16x_5609_e
set_option maxRecDepth 100000 in
def p16x_5612 : ck_Sum := ((2, 0, 0), 245, [.inr (.inr (.inl 226)), .inl (3, 2147483647, none), .inl ((-2147483648), (-1), none), .inl (0, 299, none), .inl (3, 2147483647, none)], ([], [], [(227, 0, 0, ck_one 3)]), ([(226, 0, 0)], []), [(.inr (some (.inl (ck_one 0))), 245, ([], [], [(226, 0, 0, ck_one 1)]))])
set_option maxRecDepth 100000 in
theorem p16x_5612_e : ck_ok p1_O none [] [(289, [p16x_5584]), (283, [p16x_140])] 325 [] 94 p16x_5612 = true := by decide +kernel
theorem p16x_5612_s {X : Int → Int} {LX : Nat} : ck_Ok p1_O X LX 325 p16x_5612 := ck_ok_s (ck_E1 (ck_S1 p16x_5584_s ck_S0) (ck_E1 (ck_S1 p16x_140_s ck_S0) ck_E0)) ck_X0 ck_l0 p16x_5612_e
set_option maxRecDepth 100000 in
def p16x_5615 : ck_Sum := ((2, 0, 0), 245, [.inr (.inr (.inl 226)), .inl (3, 2147483647, none), .inl ((-2147483648), (-1), none), .inl (300, 2147483647, none), .inl ((-2147483648), (-1), none)], ([], [], [(227, 0, 0, ck_one 3)]), ([(226, 0, 0)], []), [(.inr (some (.inl (ck_one 0))), 245, ([], [], [(226, 0, 0, ck_one 1)]))])
set_option maxRecDepth 100000 in
theorem p16x_5615_e : ck_ok p1_O none [] [(289, [p16x_5584]), (283, [p16x_140])] 325 [] 94 p16x_5615 = true := by decide +kernel
theorem p16x_5615_s {X : Int → Int} {LX : Nat} : ck_Ok p1_O X LX 325 p16x_5615 := ck_ok_s (ck_E1 (ck_S1 p16x_5584_s ck_S0) (ck_E1 (ck_S1 p16x_140_s ck_S0) ck_E0)) ck_X0 ck_l0 p16x_5615_e
set_option maxRecDepth 100000 in
def p16x_5618 : ck_Sum := ((2, 0, 0), 245, [.inr (.inr (.inl 226)), .inl (3, 2147483647, none), .inl ((-2147483648), (-1), none), .inl (300, 2147483647, none), .inl (ck_one 0)], ([], [], [(227, 0, 0, ck_one 3)]), ([(226, 0, 0)], []), [(.inr (some (.inl (ck_one 0))), 245, ([], [], [(226, 0, 0, ck_one 1)]))])
set_option maxRecDepth 100000 in
theorem p16x_5618_e : ck_ok p1_O none [] [(289, [p16x_5584]), (283, [p16x_140])] 325 [] 94 p16x_5618 = true := by decide +kernel
theorem p16x_5618_s {X : Int → Int} {LX : Nat} : ck_Ok p1_O X LX 325 p16x_5618 := ck_ok_s (ck_E1 (ck_S1 p16x_5584_s ck_S0) (ck_E1 (ck_S1 p16x_140_s ck_S0) ck_E0)) ck_X0 ck_l0 p16x_5618_e
set_option maxRecDepth 100000 in
def p16x_5621 : ck_Sum := ((2, 0, 0), 245, [.inr (.inr (.inl 226)), .inl (3, 2147483647, none), .inl ((-2147483648), (-1), none), .inl (300, 2147483647, none), .inl (ck_one 1)], ([], [], [(227, 0, 0, ck_one 3)]), ([(226, 0, 0)], []), [(.inr (some (.inl (ck_one 0))), 245, ([], [], [(226, 0, 0, ck_one 1)]))])
set_option maxRecDepth 100000 in
theorem p16x_5621_e : ck_ok p1_O none [] [(289, [p16x_5584]), (283, [p16x_140])] 325 [] 94 p16x_5621 = true := by decide +kernel
theorem p16x_5621_s {X : Int → Int} {LX : Nat} : ck_Ok p1_O X LX 325 p16x_5621 := ck_ok_s (ck_E1 (ck_S1 p16x_5584_s ck_S0) (ck_E1 (ck_S1 p16x_140_s ck_S0) ck_E0)) ck_X0 ck_l0 p16x_5621_e
set_option maxRecDepth 100000 in
def p16x_5624 : ck_Sum := ((2, 0, 0), 245, [.inr (.inr (.inl 226)), .inl (3, 2147483647, none), .inl ((-2147483648), (-1), none), .inl (300, 2147483647, none), .inl (ck_one 2)], ([], [], [(227, 0, 0, ck_one 3)]), ([(226, 0, 0)], []), [(.inr (some (.inl (ck_one 0))), 245, ([], [], [(226, 0, 0, ck_one 1)]))])
set_option maxRecDepth 100000 in
theorem p16x_5624_e : ck_ok p1_O none [] [(289, [p16x_5584]), (283, [p16x_140])] 325 [] 94 p16x_5624 = true := by decide +kernel
theorem p16x_5624_s {X : Int → Int} {LX : Nat} : ck_Ok p1_O X LX 325 p16x_5624 := ck_ok_s (ck_E1 (ck_S1 p16x_5584_s ck_S0) (ck_E1 (ck_S1 p16x_140_s ck_S0) ck_E0)) ck_X0 ck_l0 p16x_5624_e
set_option maxRecDepth 100000 in
def p16x_5627 : ck_Sum := ((2, 0, 0), 245, [.inr (.inr (.inl 226)), .inl (3, 2147483647, none), .inl ((-2147483648), (-1), none), .inl (300, 2147483647, none), .inl (3, 2147483647, none)], ([], [], [(227, 0, 0, ck_one 3)]), ([(226, 0, 0)], []), [(.inr (some (.inl (ck_one 0))), 245, ([], [], [(226, 0, 0, ck_one 1)]))])
set_option maxRecDepth 100000 in
theorem p16x_5627_e : ck_ok p1_O none [] [(289, [p16x_5584]), (283, [p16x_140])] 325 [] 94 p16x_5627 = true := by decide +kernel
theorem p16x_5627_s {X : Int → Int} {LX : Nat} : ck_Ok p1_O X LX 325 p16x_5627 := ck_ok_s (ck_E1 (ck_S1 p16x_5584_s ck_S0) (ck_E1 (ck_S1 p16x_140_s ck_S0) ck_E0)) ck_X0 ck_l0 p16x_5627_e
set_option maxRecDepth 100000 in
def p16x_5630 : ck_Sum := ((2, 0, 0), 245, [.inr (.inr (.inl 226)), .inl (3, 2147483647, none), .inl (0, 299, none), .inl ((-2147483648), (-1), none), .inl ((-2147483648), (-1), none)], ([], [], [(227, 0, 0, ck_one 3)]), ([(226, 0, 0)], []), [(.inr (some (.inl (ck_one 0))), 245, ([], [], [(226, 0, 0, ck_one 1)]))])
set_option maxRecDepth 100000 in
theorem p16x_5630_e : ck_ok p1_O none [] [(289, [p16x_5584]), (283, [p16x_140])] 325 [] 94 p16x_5630 = true := by decide +kernel
theorem p16x_5630_s {X : Int → Int} {LX : Nat} : ck_Ok p1_O X LX 325 p16x_5630 := ck_ok_s (ck_E1 (ck_S1 p16x_5584_s ck_S0) (ck_E1 (ck_S1 p16x_140_s ck_S0) ck_E0)) ck_X0 ck_l0 p16x_5630_e
set_option maxRecDepth 100000 in
def p16x_5633 : ck_Sum := ((2, 0, 0), 245, [.inr (.inr (.inl 226)), .inl (3, 2147483647, none), .inl (0, 299, none), .inl ((-2147483648), (-1), none), .inl (ck_one 0)], ([], [], [(227, 0, 0, ck_one 3)]), ([(226, 0, 0)], []), [(.inr (some (.inl (ck_one 0))), 245, ([], [], [(226, 0, 0, ck_one 1)]))])
set_option maxRecDepth 100000 in
theorem p16x_5633_e : ck_ok p1_O none [] [(289, [p16x_5584]), (283, [p16x_140])] 325 [] 94 p16x_5633 = true := by decide +kernel
theorem p16x_5633_s {X : Int → Int} {LX : Nat} : ck_Ok p1_O X LX 325 p16x_5633 := ck_ok_s (ck_E1 (ck_S1 p16x_5584_s ck_S0) (ck_E1 (ck_S1 p16x_140_s ck_S0) ck_E0)) ck_X0 ck_l0 p16x_5633_e
set_option maxRecDepth 100000 in
def p16x_5636 : ck_Sum := ((2, 0, 0), 245, [.inr (.inr (.inl 226)), .inl (3, 2147483647, none), .inl (0, 299, none), .inl ((-2147483648), (-1), none), .inl (ck_one 1)], ([], [], [(227, 0, 0, ck_one 3)]), ([(226, 0, 0)], []), [(.inr (some (.inl (ck_one 0))), 245, ([], [], [(226, 0, 0, ck_one 1)]))])
set_option maxRecDepth 100000 in
theorem p16x_5636_e : ck_ok p1_O none [] [(289, [p16x_5584]), (283, [p16x_140])] 325 [] 94 p16x_5636 = true := by decide +kernel
theorem p16x_5636_s {X : Int → Int} {LX : Nat} : ck_Ok p1_O X LX 325 p16x_5636 := ck_ok_s (ck_E1 (ck_S1 p16x_5584_s ck_S0) (ck_E1 (ck_S1 p16x_140_s ck_S0) ck_E0)) ck_X0 ck_l0 p16x_5636_e
set_option maxRecDepth 100000 in
def p16x_5639 : ck_Sum := ((2, 0, 0), 245, [.inr (.inr (.inl 226)), .inl (3, 2147483647, none), .inl (0, 299, none), .inl ((-2147483648), (-1), none), .inl (ck_one 2)], ([], [], [(227, 0, 0, ck_one 3)]), ([(226, 0, 0)], []), [(.inr (some (.inl (ck_one 0))), 245, ([], [], [(226, 0, 0, ck_one 1)]))])
set_option maxRecDepth 100000 in
theorem p16x_5639_e : ck_ok p1_O none [] [(289, [p16x_5584]), (283, [p16x_140])] 325 [] 94 p16x_5639 = true := by decide +kernel
theorem p16x_5639_s {X : Int → Int} {LX : Nat} : ck_Ok p1_O X LX 325 p16x_5639 := ck_ok_s (ck_E1 (ck_S1 p16x_5584_s ck_S0) (ck_E1 (ck_S1 p16x_140_s ck_S0) ck_E0)) ck_X0 ck_l0 p16x_5639_e
set_option maxRecDepth 100000 in
def p16x_5642 : ck_Sum := ((2, 0, 0), 245, [.inr (.inr (.inl 226)), .inl (3, 2147483647, none), .inl (0, 299, none), .inl ((-2147483648), (-1), none), .inl (3, 2147483647, none)], ([], [], [(227, 0, 0, ck_one 3)]), ([(226, 0, 0)], []), [(.inr (some (.inl (ck_one 0))), 245, ([], [], [(226, 0, 0, ck_one 1)]))])
set_option maxRecDepth 100000 in
theorem p16x_5642_e : ck_ok p1_O none [] [(289, [p16x_5584]), (283, [p16x_140])] 325 [] 94 p16x_5642 = true := by decide +kernel
theorem p16x_5642_s {X : Int → Int} {LX : Nat} : ck_Ok p1_O X LX 325 p16x_5642 := ck_ok_s (ck_E1 (ck_S1 p16x_5584_s ck_S0) (ck_E1 (ck_S1 p16x_140_s ck_S0) ck_E0)) ck_X0 ck_l0 p16x_5642_e
set_option maxRecDepth 100000 in
def p16x_5645 : ck_Sum := ((2, 0, 0), 245, [.inr (.inr (.inl 226)), .inl (3, 2147483647, none), .inl (0, 299, none), .inl (0, 299, none), .inl ((-2147483648), (-1), none)], ([], [], [(227, 0, 0, ck_one 3)]), ([(226, 0, 0)], []), [(.inr (some (.inl (ck_one 0))), 245, ([], [], [(226, 0, 0, ck_one 1)]))])
set_option maxRecDepth 100000 in
theorem p16x_5645_e : ck_ok p1_O none [] [(289, [p16x_5584]), (283, [p16x_140])] 325 [] 94 p16x_5645 = true := by decide +kernel
theorem p16x_5645_s {X : Int → Int} {LX : Nat} : ck_Ok p1_O X LX 325 p16x_5645 := ck_ok_s (ck_E1 (ck_S1 p16x_5584_s ck_S0) (ck_E1 (ck_S1 p16x_140_s ck_S0) ck_E0)) ck_X0 ck_l0 p16x_5645_e
set_option maxRecDepth 100000 in
def p16x_5648 : ck_Sum := ((2, 0, 0), 245, [.inr (.inr (.inl 226)), .inl (3, 2147483647, none), .inl (0, 299, none), .inl (0, 299, none), .inl (ck_one 0)], ([], [], [(227, 0, 0, ck_one 3)]), ([(226, 0, 0)], []), [(.inr (some (.inl (ck_one 0))), 245, ([], [], [(226, 0, 0, ck_one 1)]))])
set_option maxRecDepth 100000 in
theorem p16x_5648_e : ck_ok p1_O none [] [(289, [p16x_5584]), (283, [p16x_140])] 325 [] 94 p16x_5648 = true := by decide +kernel
theorem p16x_5648_s {X : Int → Int} {LX : Nat} : ck_Ok p1_O X LX 325 p16x_5648 := ck_ok_s (ck_E1 (ck_S1 p16x_5584_s ck_S0) (ck_E1 (ck_S1 p16x_140_s ck_S0) ck_E0)) ck_X0 ck_l0 p16x_5648_e
set_option maxRecDepth 100000 in
def p16x_5651 : ck_Sum := ((2, 0, 0), 245, [.inr (.inr (.inl 226)), .inl (3, 2147483647, none), .inl (0, 299, none), .inl (0, 299, none), .inl (ck_one 1)], ([], [], [(227, 0, 0, ck_one 3)]), ([(226, 0, 0)], []), [(.inr (some (.inl (ck_one 0))), 245, ([], [], [(226, 0, 0, ck_one 1)]))])
set_option maxRecDepth 100000 in
theorem p16x_5651_e : ck_ok p1_O none [] [(289, [p16x_5584]), (283, [p16x_140])] 325 [] 94 p16x_5651 = true := by decide +kernel
theorem p16x_5651_s {X : Int → Int} {LX : Nat} : ck_Ok p1_O X LX 325 p16x_5651 := ck_ok_s (ck_E1 (ck_S1 p16x_5584_s ck_S0) (ck_E1 (ck_S1 p16x_140_s ck_S0) ck_E0)) ck_X0 ck_l0 p16x_5651_e
set_option maxRecDepth 100000 in
def p16x_5654 : ck_Sum := ((2, 0, 0), 245, [.inr (.inr (.inl 226)), .inl (3, 2147483647, none), .inl (0, 299, none), .inl (0, 299, none), .inl (ck_one 2)], ([], [], [(227, 0, 0, ck_one 3)]), ([(226, 0, 0)], []), [(.inr (some (.inl (ck_one 0))), 245, ([], [], [(226, 0, 0, ck_one 1)]))])
set_option maxRecDepth 100000 in
theorem p16x_5654_e : ck_ok p1_O none [] [(289, [p16x_5584]), (283, [p16x_140])] 325 [] 94 p16x_5654 = true := by decide +kernel
theorem p16x_5654_s {X : Int → Int} {LX : Nat} : ck_Ok p1_O X LX 325 p16x_5654 := ck_ok_s (ck_E1 (ck_S1 p16x_5584_s ck_S0) (ck_E1 (ck_S1 p16x_140_s ck_S0) ck_E0)) ck_X0 ck_l0 p16x_5654_e
set_option maxRecDepth 100000 in
def p16x_5657 : ck_Sum := ((2, 0, 0), 245, [.inr (.inr (.inl 226)), .inl (3, 2147483647, none), .inl (0, 299, none), .inl (0, 299, none), .inl (3, 2147483647, none)], ([], [], [(227, 0, 0, ck_one 3)]), ([(226, 0, 0)], []), [(.inr (some (.inl (ck_one 0))), 245, ([], [], [(226, 0, 0, ck_one 1)]))])
set_option maxRecDepth 100000 in
theorem p16x_5657_e : ck_ok p1_O none [] [(289, [p16x_5584]), (283, [p16x_140])] 325 [] 94 p16x_5657 = true := by decide +kernel
theorem p16x_5657_s {X : Int → Int} {LX : Nat} : ck_Ok p1_O X LX 325 p16x_5657 := ck_ok_s (ck_E1 (ck_S1 p16x_5584_s ck_S0) (ck_E1 (ck_S1 p16x_140_s ck_S0) ck_E0)) ck_X0 ck_l0 p16x_5657_e
set_option maxRecDepth 100000 in
def p16x_5660 : ck_Sum := ((2, 0, 0), 245, [.inr (.inr (.inl 226)), .inl (3, 2147483647, none), .inl (0, 299, none), .inl (300, 2147483647, none), .inl ((-2147483648), (-1), none)], ([], [], [(227, 0, 0, ck_one 3)]), ([(226, 0, 0)], []), [(.inr (some (.inl (ck_one 0))), 245, ([], [], [(226, 0, 0, ck_one 1)]))])
set_option maxRecDepth 100000 in
theorem p16x_5660_e : ck_ok p1_O none [] [(289, [p16x_5584]), (283, [p16x_140])] 325 [] 94 p16x_5660 = true := by decide +kernel
theorem p16x_5660_s {X : Int → Int} {LX : Nat} : ck_Ok p1_O X LX 325 p16x_5660 := ck_ok_s (ck_E1 (ck_S1 p16x_5584_s ck_S0) (ck_E1 (ck_S1 p16x_140_s ck_S0) ck_E0)) ck_X0 ck_l0 p16x_5660_e
set_option maxRecDepth 100000 in
def p16x_5663 : ck_Sum := ((2, 0, 0), 245, [.inr (.inr (.inl 226)), .inl (3, 2147483647, none), .inl (0, 299, none), .inl (300, 2147483647, none), .inl (ck_one 0)], ([], [], [(227, 0, 0, ck_one 3)]), ([(226, 0, 0)], []), [(.inr (some (.inl (ck_one 0))), 245, ([], [], [(226, 0, 0, ck_one 1)]))])
set_option maxRecDepth 100000 in
theorem p16x_5663_e : ck_ok p1_O none [] [(289, [p16x_5584]), (283, [p16x_140])] 325 [] 94 p16x_5663 = true := by decide +kernel
theorem p16x_5663_s {X : Int → Int} {LX : Nat} : ck_Ok p1_O X LX 325 p16x_5663 := ck_ok_s (ck_E1 (ck_S1 p16x_5584_s ck_S0) (ck_E1 (ck_S1 p16x_140_s ck_S0) ck_E0)) ck_X0 ck_l0 p16x_5663_e
set_option maxRecDepth 100000 in
def p16x_5666 : ck_Sum := ((2, 0, 0), 245, [.inr (.inr (.inl 226)), .inl (3, 2147483647, none), .inl (0, 299, none), .inl (300, 2147483647, none), .inl (ck_one 1)], ([], [], [(227, 0, 0, ck_one 3)]), ([(226, 0, 0)], []), [(.inr (some (.inl (ck_one 0))), 245, ([], [], [(226, 0, 0, ck_one 1)]))])
set_option maxRecDepth 100000 in
theorem p16x_5666_e : ck_ok p1_O none [] [(289, [p16x_5584]), (283, [p16x_140])] 325 [] 94 p16x_5666 = true := by decide +kernel
theorem p16x_5666_s {X : Int → Int} {LX : Nat} : ck_Ok p1_O X LX 325 p16x_5666 := ck_ok_s (ck_E1 (ck_S1 p16x_5584_s ck_S0) (ck_E1 (ck_S1 p16x_140_s ck_S0) ck_E0)) ck_X0 ck_l0 p16x_5666_e
set_option maxRecDepth 100000 in
def p16x_5669 : ck_Sum := ((2, 0, 0), 245, [.inr (.inr (.inl 226)), .inl (3, 2147483647, none), .inl (0, 299, none), .inl (300, 2147483647, none), .inl (ck_one 2)], ([], [], [(227, 0, 0, ck_one 3)]), ([(226, 0, 0)], []), [(.inr (some (.inl (ck_one 0))), 245, ([], [], [(226, 0, 0, ck_one 1)]))])
set_option maxRecDepth 100000 in
theorem p16x_5669_e : ck_ok p1_O none [] [(289, [p16x_5584]), (283, [p16x_140])] 325 [] 94 p16x_5669 = true := by decide +kernel
theorem p16x_5669_s {X : Int → Int} {LX : Nat} : ck_Ok p1_O X LX 325 p16x_5669 := ck_ok_s (ck_E1 (ck_S1 p16x_5584_s ck_S0) (ck_E1 (ck_S1 p16x_140_s ck_S0) ck_E0)) ck_X0 ck_l0 p16x_5669_e
set_option maxRecDepth 100000 in
def p16x_5672 : ck_Sum := ((2, 0, 0), 245, [.inr (.inr (.inl 226)), .inl (3, 2147483647, none), .inl (0, 299, none), .inl (300, 2147483647, none), .inl (3, 2147483647, none)], ([], [], [(227, 0, 0, ck_one 3)]), ([(226, 0, 0)], []), [(.inr (some (.inl (ck_one 0))), 245, ([], [], [(226, 0, 0, ck_one 1)]))])
set_option maxRecDepth 100000 in
theorem p16x_5672_e : ck_ok p1_O none [] [(289, [p16x_5584]), (283, [p16x_140])] 325 [] 94 p16x_5672 = true := by decide +kernel
theorem p16x_5672_s {X : Int → Int} {LX : Nat} : ck_Ok p1_O X LX 325 p16x_5672 := ck_ok_s (ck_E1 (ck_S1 p16x_5584_s ck_S0) (ck_E1 (ck_S1 p16x_140_s ck_S0) ck_E0)) ck_X0 ck_l0 p16x_5672_e
set_option maxRecDepth 100000 in
def p16x_5675 : ck_Sum := ((2, 0, 0), 245, [.inr (.inr (.inl 226)), .inl (3, 2147483647, none), .inl (300, 2147483647, none), .inl ((-2147483648), (-1), none), .inl ((-2147483648), (-1), none)], ([], [], [(227, 0, 0, ck_one 3)]), ([(226, 0, 0)], []), [(.inr (some (.inl (ck_one 0))), 245, ([], [], [(226, 0, 0, ck_one 1)]))])
set_option maxRecDepth 100000 in
theorem p16x_5675_e : ck_ok p1_O none [] [(289, [p16x_5584]), (283, [p16x_140])] 325 [] 94 p16x_5675 = true := by decide +kernel
theorem p16x_5675_s {X : Int → Int} {LX : Nat} : ck_Ok p1_O X LX 325 p16x_5675 := ck_ok_s (ck_E1 (ck_S1 p16x_5584_s ck_S0) (ck_E1 (ck_S1 p16x_140_s ck_S0) ck_E0)) ck_X0 ck_l0 p16x_5675_e
set_option maxRecDepth 100000 in
def p16x_5678 : ck_Sum := ((2, 0, 0), 245, [.inr (.inr (.inl 226)), .inl (3, 2147483647, none), .inl (300, 2147483647, none), .inl ((-2147483648), (-1), none), .inl (ck_one 0)], ([], [], [(227, 0, 0, ck_one 3)]), ([(226, 0, 0)], []), [(.inr (some (.inl (ck_one 0))), 245, ([], [], [(226, 0, 0, ck_one 1)]))])
set_option maxRecDepth 100000 in
theorem p16x_5678_e : ck_ok p1_O none [] [(289, [p16x_5584]), (283, [p16x_140])] 325 [] 94 p16x_5678 = true := by decide +kernel
theorem p16x_5678_s {X : Int → Int} {LX : Nat} : ck_Ok p1_O X LX 325 p16x_5678 := ck_ok_s (ck_E1 (ck_S1 p16x_5584_s ck_S0) (ck_E1 (ck_S1 p16x_140_s ck_S0) ck_E0)) ck_X0 ck_l0 p16x_5678_e
set_option maxRecDepth 100000 in
def p16x_5681 : ck_Sum := ((2, 0, 0), 245, [.inr (.inr (.inl 226)), .inl (3, 2147483647, none), .inl (300, 2147483647, none), .inl ((-2147483648), (-1), none), .inl (ck_one 1)], ([], [], [(227, 0, 0, ck_one 3)]), ([(226, 0, 0)], []), [(.inr (some (.inl (ck_one 0))), 245, ([], [], [(226, 0, 0, ck_one 1)]))])
set_option maxRecDepth 100000 in
theorem p16x_5681_e : ck_ok p1_O none [] [(289, [p16x_5584]), (283, [p16x_140])] 325 [] 94 p16x_5681 = true := by decide +kernel
theorem p16x_5681_s {X : Int → Int} {LX : Nat} : ck_Ok p1_O X LX 325 p16x_5681 := ck_ok_s (ck_E1 (ck_S1 p16x_5584_s ck_S0) (ck_E1 (ck_S1 p16x_140_s ck_S0) ck_E0)) ck_X0 ck_l0 p16x_5681_e
set_option maxRecDepth 100000 in
def p16x_5684 : ck_Sum := ((2, 0, 0), 245, [.inr (.inr (.inl 226)), .inl (3, 2147483647, none), .inl (300, 2147483647, none), .inl ((-2147483648), (-1), none), .inl (ck_one 2)], ([], [], [(227, 0, 0, ck_one 3)]), ([(226, 0, 0)], []), [(.inr (some (.inl (ck_one 0))), 245, ([], [], [(226, 0, 0, ck_one 1)]))])
set_option maxRecDepth 100000 in
theorem p16x_5684_e : ck_ok p1_O none [] [(289, [p16x_5584]), (283, [p16x_140])] 325 [] 94 p16x_5684 = true := by decide +kernel
theorem p16x_5684_s {X : Int → Int} {LX : Nat} : ck_Ok p1_O X LX 325 p16x_5684 := ck_ok_s (ck_E1 (ck_S1 p16x_5584_s ck_S0) (ck_E1 (ck_S1 p16x_140_s ck_S0) ck_E0)) ck_X0 ck_l0 p16x_5684_e
set_option maxRecDepth 100000 in
def p16x_5687 : ck_Sum := ((2, 0, 0), 245, [.inr (.inr (.inl 226)), .inl (3, 2147483647, none), .inl (300, 2147483647, none), .inl ((-2147483648), (-1), none), .inl (3, 2147483647, none)], ([], [], [(227, 0, 0, ck_one 3)]), ([(226, 0, 0)], []), [(.inr (some (.inl (ck_one 0))), 245, ([], [], [(226, 0, 0, ck_one 1)]))])
set_option maxRecDepth 100000 in
theorem p16x_5687_e : ck_ok p1_O none [] [(289, [p16x_5584]), (283, [p16x_140])] 325 [] 94 p16x_5687 = true := by decide +kernel
theorem p16x_5687_s {X : Int → Int} {LX : Nat} : ck_Ok p1_O X LX 325 p16x_5687 := ck_ok_s (ck_E1 (ck_S1 p16x_5584_s ck_S0) (ck_E1 (ck_S1 p16x_140_s ck_S0) ck_E0)) ck_X0 ck_l0 p16x_5687_e
set_option maxRecDepth 100000 in
def p16x_5690 : ck_Sum := ((2, 0, 0), 245, [.inr (.inr (.inl 226)), .inl (3, 2147483647, none), .inl (300, 2147483647, none), .inl (0, 299, none), .inl ((-2147483648), (-1), none)], ([], [], [(227, 0, 0, ck_one 3)]), ([(226, 0, 0)], []), [(.inr (some (.inl (ck_one 0))), 245, ([], [], [(226, 0, 0, ck_one 1)]))])
set_option maxRecDepth 100000 in
theorem p16x_5690_e : ck_ok p1_O none [] [(289, [p16x_5584]), (283, [p16x_140])] 325 [] 94 p16x_5690 = true := by decide +kernel
theorem p16x_5690_s {X : Int → Int} {LX : Nat} : ck_Ok p1_O X LX 325 p16x_5690 := ck_ok_s (ck_E1 (ck_S1 p16x_5584_s ck_S0) (ck_E1 (ck_S1 p16x_140_s ck_S0) ck_E0)) ck_X0 ck_l0 p16x_5690_e
set_option maxRecDepth 100000 in
def p16x_5693 : ck_Sum := ((2, 0, 0), 245, [.inr (.inr (.inl 226)), .inl (3, 2147483647, none), .inl (300, 2147483647, none), .inl (0, 299, none), .inl (ck_one 0)], ([], [], [(227, 0, 0, ck_one 3)]), ([(226, 0, 0)], []), [(.inr (some (.inl (ck_one 0))), 245, ([], [], [(226, 0, 0, ck_one 1)]))])
set_option maxRecDepth 100000 in
theorem p16x_5693_e : ck_ok p1_O none [] [(289, [p16x_5584]), (283, [p16x_140])] 325 [] 94 p16x_5693 = true := by decide +kernel
theorem p16x_5693_s {X : Int → Int} {LX : Nat} : ck_Ok p1_O X LX 325 p16x_5693 := ck_ok_s (ck_E1 (ck_S1 p16x_5584_s ck_S0) (ck_E1 (ck_S1 p16x_140_s ck_S0) ck_E0)) ck_X0 ck_l0 p16x_5693_e
set_option maxRecDepth 100000 in
def p16x_5696 : ck_Sum := ((2, 0, 0), 245, [.inr (.inr (.inl 226)), .inl (3, 2147483647, none), .inl (300, 2147483647, none), .inl (0, 299, none), .inl (ck_one 1)], ([], [], [(227, 0, 0, ck_one 3)]), ([(226, 0, 0)], []), [(.inr (some (.inl (ck_one 0))), 245, ([], [], [(226, 0, 0, ck_one 1)]))])
set_option maxRecDepth 100000 in
theorem p16x_5696_e : ck_ok p1_O none [] [(289, [p16x_5584]), (283, [p16x_140])] 325 [] 94 p16x_5696 = true := by decide +kernel
theorem p16x_5696_s {X : Int → Int} {LX : Nat} : ck_Ok p1_O X LX 325 p16x_5696 := ck_ok_s (ck_E1 (ck_S1 p16x_5584_s ck_S0) (ck_E1 (ck_S1 p16x_140_s ck_S0) ck_E0)) ck_X0 ck_l0 p16x_5696_e
set_option maxRecDepth 100000 in
def p16x_5699 : ck_Sum := ((2, 0, 0), 245, [.inr (.inr (.inl 226)), .inl (3, 2147483647, none), .inl (300, 2147483647, none), .inl (0, 299, none), .inl (ck_one 2)], ([], [], [(227, 0, 0, ck_one 3)]), ([(226, 0, 0)], []), [(.inr (some (.inl (ck_one 0))), 245, ([], [], [(226, 0, 0, ck_one 1)]))])
set_option maxRecDepth 100000 in
theorem p16x_5699_e : ck_ok p1_O none [] [(289, [p16x_5584]), (283, [p16x_140])] 325 [] 94 p16x_5699 = true := by decide +kernel
theorem p16x_5699_s {X : Int → Int} {LX : Nat} : ck_Ok p1_O X LX 325 p16x_5699 := ck_ok_s (ck_E1 (ck_S1 p16x_5584_s ck_S0) (ck_E1 (ck_S1 p16x_140_s ck_S0) ck_E0)) ck_X0 ck_l0 p16x_5699_e
set_option maxRecDepth 100000 in
def p16x_5702 : ck_Sum := ((2, 0, 0), 245, [.inr (.inr (.inl 226)), .inl (3, 2147483647, none), .inl (300, 2147483647, none), .inl (0, 299, none), .inl (3, 2147483647, none)], ([], [], [(227, 0, 0, ck_one 3)]), ([(226, 0, 0)], []), [(.inr (some (.inl (ck_one 0))), 245, ([], [], [(226, 0, 0, ck_one 1)]))])
set_option maxRecDepth 100000 in
theorem p16x_5702_e : ck_ok p1_O none [] [(289, [p16x_5584]), (283, [p16x_140])] 325 [] 94 p16x_5702 = true := by decide +kernel
theorem p16x_5702_s {X : Int → Int} {LX : Nat} : ck_Ok p1_O X LX 325 p16x_5702 := ck_ok_s (ck_E1 (ck_S1 p16x_5584_s ck_S0) (ck_E1 (ck_S1 p16x_140_s ck_S0) ck_E0)) ck_X0 ck_l0 p16x_5702_e
set_option maxRecDepth 100000 in
def p16x_5705 : ck_Sum := ((2, 0, 0), 245, [.inr (.inr (.inl 226)), .inl (3, 2147483647, none), .inl (300, 2147483647, none), .inl (300, 2147483647, none), .inl ((-2147483648), (-1), none)], ([], [], [(227, 0, 0, ck_one 3)]), ([(226, 0, 0)], []), [(.inr (some (.inl (ck_one 0))), 245, ([], [], [(226, 0, 0, ck_one 1)]))])
set_option maxRecDepth 100000 in
theorem p16x_5705_e : ck_ok p1_O none [] [(289, [p16x_5584]), (283, [p16x_140])] 325 [] 94 p16x_5705 = true := by decide +kernel
theorem p16x_5705_s {X : Int → Int} {LX : Nat} : ck_Ok p1_O X LX 325 p16x_5705 := ck_ok_s (ck_E1 (ck_S1 p16x_5584_s ck_S0) (ck_E1 (ck_S1 p16x_140_s ck_S0) ck_E0)) ck_X0 ck_l0 p16x_5705_e
set_option maxRecDepth 100000 in
def p16x_5708 : ck_Sum := ((2, 0, 0), 245, [.inr (.inr (.inl 226)), .inl (3, 2147483647, none), .inl (300, 2147483647, none), .inl (300, 2147483647, none), .inl (ck_one 0)], ([], [], [(227, 0, 0, ck_one 3)]), ([(226, 0, 0)], []), [(.inr (some (.inl (ck_one 0))), 245, ([], [], [(226, 0, 0, ck_one 1)]))])
set_option maxRecDepth 100000 in
theorem p16x_5708_e : ck_ok p1_O none [] [(289, [p16x_5584]), (283, [p16x_140])] 325 [] 94 p16x_5708 = true := by decide +kernel
theorem p16x_5708_s {X : Int → Int} {LX : Nat} : ck_Ok p1_O X LX 325 p16x_5708 := ck_ok_s (ck_E1 (ck_S1 p16x_5584_s ck_S0) (ck_E1 (ck_S1 p16x_140_s ck_S0) ck_E0)) ck_X0 ck_l0 p16x_5708_e
set_option maxRecDepth 100000 in
def p16x_5711 : ck_Sum := ((2, 0, 0), 245, [.inr (.inr (.inl 226)), .inl (3, 2147483647, none), .inl (300, 2147483647, none), .inl (300, 2147483647, none), .inl (ck_one 1)], ([], [], [(227, 0, 0, ck_one 3)]), ([(226, 0, 0)], []), [(.inr (some (.inl (ck_one 0))), 245, ([], [], [(226, 0, 0, ck_one 1)]))])
set_option maxRecDepth 100000 in
theorem p16x_5711_e : ck_ok p1_O none [] [(289, [p16x_5584]), (283, [p16x_140])] 325 [] 94 p16x_5711 = true := by decide +kernel
theorem p16x_5711_s {X : Int → Int} {LX : Nat} : ck_Ok p1_O X LX 325 p16x_5711 := ck_ok_s (ck_E1 (ck_S1 p16x_5584_s ck_S0) (ck_E1 (ck_S1 p16x_140_s ck_S0) ck_E0)) ck_X0 ck_l0 p16x_5711_e
set_option maxRecDepth 100000 in
def p16x_5714 : ck_Sum := ((2, 0, 0), 245, [.inr (.inr (.inl 226)), .inl (3, 2147483647, none), .inl (300, 2147483647, none), .inl (300, 2147483647, none), .inl (ck_one 2)], ([], [], [(227, 0, 0, ck_one 3)]), ([(226, 0, 0)], []), [(.inr (some (.inl (ck_one 0))), 245, ([], [], [(226, 0, 0, ck_one 1)]))])
set_option maxRecDepth 100000 in
theorem p16x_5714_e : ck_ok p1_O none [] [(289, [p16x_5584]), (283, [p16x_140])] 325 [] 94 p16x_5714 = true := by decide +kernel
theorem p16x_5714_s {X : Int → Int} {LX : Nat} : ck_Ok p1_O X LX 325 p16x_5714 := ck_ok_s (ck_E1 (ck_S1 p16x_5584_s ck_S0) (ck_E1 (ck_S1 p16x_140_s ck_S0) ck_E0)) ck_X0 ck_l0 p16x_5714_e
set_option maxRecDepth 100000 in
def p16x_5717 : ck_Sum := ((2, 0, 0), 245, [.inr (.inr (.inl 226)), .inl (3, 2147483647, none), .inl (300, 2147483647, none), .inl (300, 2147483647, none), .inl (3, 2147483647, none)], ([], [], [(227, 0, 0, ck_one 3)]), ([(226, 0, 0)], []), [(.inr (some (.inl (ck_one 0))), 245, ([], [], [(226, 0, 0, ck_one 1)]))])
set_option maxRecDepth 100000 in
theorem p16x_5717_e : ck_ok p1_O none [] [(289, [p16x_5584]), (283, [p16x_140])] 325 [] 94 p16x_5717 = true := by decide +kernel
theorem p16x_5717_s {X : Int → Int} {LX : Nat} : ck_Ok p1_O X LX 325 p16x_5717 := ck_ok_s (ck_E1 (ck_S1 p16x_5584_s ck_S0) (ck_E1 (ck_S1 p16x_140_s ck_S0) ck_E0)) ck_X0 ck_l0 p16x_5717_e
set_option maxRecDepth 100000 in
def p16x_142 : ck_Sum := ((0, 0, 0), 245, [.inr (.inr (.inl 226))], ([], [], [(226, 0, 0, ck_one 1)]), ([], []), [(.inr (some (.inl (ck_one 1))), 245, ([], [], []))])
set_option maxRecDepth 100000 in
theorem p16x_142_e : ck_ok p1_O none [] [] 234 [] 76 p16x_142 = true := by decide +kernel
theorem p16x_142_s {X : Int → Int} {LX : Nat} : ck_Ok p1_O X LX 234 p16x_142 := ck_ok_s (ck_E0) ck_X0 ck_l0 p16x_142_e
set_option maxRecDepth 100000 in
def p16x_287 : ck_Sum := ((0, 0, 0), 245, [.inr (.inr (.inl 226))], ([], [], [(226, 0, 0, ck_one 2)]), ([], []), [(.inr (some (.inl (ck_one 2))), 245, ([], [], []))])
set_option maxRecDepth 100000 in
theorem p16x_287_e : ck_ok p1_O none [] [] 234 [] 76 p16x_287 = true := by decide +kernel
theorem p16x_287_s {X : Int → Int} {LX : Nat} : ck_Ok p1_O X LX 234 p16x_287 := ck_ok_s (ck_E0) ck_X0 ck_l0 p16x_287_e
set_option maxRecDepth 100000 in
def p16x_354 : ck_Sum := ((0, 0, 0), 245, [.inr (.inr (.inl 226))], ([], [], [(226, 0, 0, ck_one 3)]), ([], []), [(.inr (some (.inl (ck_one 3))), 245, ([], [], []))])
set_option maxRecDepth 100000 in
theorem p16x_354_e : ck_ok p1_O none [] [] 234 [] 76 p16x_354 = true := by decide +kernel
theorem p16x_354_s {X : Int → Int} {LX : Nat} : ck_Ok p1_O X LX 234 p16x_354 := ck_ok_s (ck_E0) ck_X0 ck_l0 p16x_354_e
set_option maxRecDepth 100000 in
def p16x_5504 : ck_Sum := ((0, 0, 0), 245, [.inr (.inr (.inl 226))], ([], [], [(226, 0, 0, ck_one 0)]), ([], []), [(.inr (some (.inl (ck_one 0))), 245, ([], [], []))])
set_option maxRecDepth 100000 in
theorem p16x_5504_e : ck_ok p1_O none [] [] 234 [] 76 p16x_5504 = true := by decide +kernel
theorem p16x_5504_s {X : Int → Int} {LX : Nat} : ck_Ok p1_O X LX 234 p16x_5504 := ck_ok_s (ck_E0) ck_X0 ck_l0 p16x_5504_e
set_option maxRecDepth 100000 in
def p16_F : ck_F := ([], [(3, 8, 0), (16, 8, 0), (29, 8, 0), (44, 8, 0), (57, 8, 0), (70, 8, 0), (83, 8, 0), (96, 8, 0), (109, 8, 0), (122, 8, 0), (135, 8, 0), (148, 8, 0), (161, 8, 0), (174, 8, 0), (187, 8, 0)], [(245, 0, 0, ck_one 0), (226, 26, 26, ck_one (-1)), (227, 11, 11, ck_one 2), (227, 10, 10, ck_one 10), (227, 1, 1, ck_one 40), (227, 0, 0, ck_one 3), (227, 2, 9, ck_one 0), (237, 0, 299, ck_one 0), (236, 0, 299, ck_one 0), (226, 0, 0, ck_one 0), (226, 17, 17, ck_one 0), (226, 18, 18, ck_one 0), (226, 19, 19, ck_one 0), (226, 20, 20, ck_one 0), (226, 21, 21, ck_one 0), (226, 22, 22, ck_one 0), (226, 23, 23, ck_one 0), (226, 29, 29, ck_one 0), (226, 30, 30, ck_one 0), (206, 8, 8, ck_one 0), (206, 7, 7, ck_one 0), (206, 6, 6, ck_one 0), (206, 5, 5, ck_one 0), (206, 4, 4, ck_one (-1)), (206, 3, 3, ck_one 0), (206, 2, 2, ck_one 0), (3, 6, 6, ck_one 0), (3, 3, 3, ck_one 2), (3, 2, 2, ck_one 10), (3, 1, 1, ck_one 40), (3, 0, 0, ck_one 3), (203, 0, 299, ck_one 0), (202, 0, 593, ck_one 0), (235, 0, 11999, ck_one 0), (234, 0, 299, (0, 9, none)), (201, 0, 299, (0, 9, none))])
def p16_E : List (Nat × List ck_Sum) := [(166, [p16x_136, p16x_144, p16x_147, p16x_150, p16x_153, p16x_156, p16x_159, p16x_162, p16x_165, p16x_168, p16x_171, p16x_174, p16x_177, p16x_180, p16x_183, p16x_186, p16x_189, p16x_192, p16x_195, p16x_198, p16x_201, p16x_204, p16x_207, p16x_210, p16x_213, p16x_216, p16x_219, p16x_222, p16x_225, p16x_228, p16x_231, p16x_234, p16x_237, p16x_240, p16x_243, p16x_246, p16x_249, p16x_252, p16x_255, p16x_258, p16x_261, p16x_264, p16x_267, p16x_270, p16x_273, p16x_279, p16x_289, p16x_292, p16x_295, p16x_298, p16x_301, p16x_304, p16x_307, p16x_310, p16x_313, p16x_316, p16x_319, p16x_322, p16x_325, p16x_328, p16x_332, p16x_337, p16x_340, p16x_343, p16x_346, p16x_349, p16x_3841, p16x_5506, p16x_5510, p16x_5514, p16x_5519, p16x_5524, p16x_5527, p16x_5530, p16x_5533, p16x_5536, p16x_5539, p16x_5542, p16x_5545, p16x_5548, p16x_5551, p16x_5554, p16x_5557, p16x_5560, p16x_5563, p16x_5566, p16x_5569, p16x_5572, p16x_5575, p16x_5578, p16x_5583, p16x_5587, p16x_5590, p16x_5593, p16x_5596, p16x_5599, p16x_5602, p16x_5605, p16x_5608, p16x_5611, p16x_5614, p16x_5617, p16x_5620, p16x_5623, p16x_5626, p16x_5629, p16x_5632, p16x_5635, p16x_5638, p16x_5641, p16x_5644, p16x_5647, p16x_5650, p16x_5653, p16x_5656, p16x_5659, p16x_5662, p16x_5665, p16x_5668, p16x_5671, p16x_5674, p16x_5677, p16x_5680, p16x_5683, p16x_5686, p16x_5689, p16x_5692, p16x_5695, p16x_5698, p16x_5701, p16x_5704, p16x_5707, p16x_5710, p16x_5713, p16x_5716]), (325, [p16x_141, p16x_145, p16x_148, p16x_151, p16x_154, p16x_157, p16x_160, p16x_163, p16x_166, p16x_169, p16x_172, p16x_175, p16x_178, p16x_181, p16x_184, p16x_187, p16x_190, p16x_193, p16x_196, p16x_199, p16x_202, p16x_205, p16x_208, p16x_211, p16x_214, p16x_217, p16x_220, p16x_223, p16x_226, p16x_229, p16x_232, p16x_235, p16x_238, p16x_241, p16x_244, p16x_247, p16x_250, p16x_253, p16x_256, p16x_259, p16x_262, p16x_265, p16x_268, p16x_271, p16x_274, p16x_286, p16x_290, p16x_293, p16x_296, p16x_299, p16x_302, p16x_305, p16x_308, p16x_311, p16x_314, p16x_317, p16x_320, p16x_323, p16x_326, p16x_329, p16x_335, p16x_338, p16x_341, p16x_344, p16x_347, p16x_353, p16x_5503, p16x_5508, p16x_5512, p16x_5516, p16x_5522, p16x_5525, p16x_5528, p16x_5531, p16x_5534, p16x_5537, p16x_5540, p16x_5543, p16x_5546, p16x_5549, p16x_5552, p16x_5555, p16x_5558, p16x_5561, p16x_5564, p16x_5567, p16x_5570, p16x_5573, p16x_5576, p16x_5579, p16x_5585, p16x_5588, p16x_5591, p16x_5594, p16x_5597, p16x_5600, p16x_5603, p16x_5606, p16x_5609, p16x_5612, p16x_5615, p16x_5618, p16x_5621, p16x_5624, p16x_5627, p16x_5630, p16x_5633, p16x_5636, p16x_5639, p16x_5642, p16x_5645, p16x_5648, p16x_5651, p16x_5654, p16x_5657, p16x_5660, p16x_5663, p16x_5666, p16x_5669, p16x_5672, p16x_5675, p16x_5678, p16x_5681, p16x_5684, p16x_5687, p16x_5690, p16x_5693, p16x_5696, p16x_5699, p16x_5702, p16x_5705, p16x_5708, p16x_5711, p16x_5714, p16x_5717]), (234, [p16x_142, p16x_287, p16x_354, p16x_5504])]
set_option maxRecDepth 100000 in
theorem p16_h {X : Int → Int} {LX : Nat} : ck_OkE p1_O X LX p16_E := ck_E1 (ck_S1 p16x_136_s (ck_S1 p16x_144_s (ck_S1 p16x_147_s (ck_S1 p16x_150_s (ck_S1 p16x_153_s (ck_S1 p16x_156_s (ck_S1 p16x_159_s (ck_S1 p16x_162_s (ck_S1 p16x_165_s (ck_S1 p16x_168_s (ck_S1 p16x_171_s (ck_S1 p16x_174_s (ck_S1 p16x_177_s (ck_S1 p16x_180_s (ck_S1 p16x_183_s (ck_S1 p16x_186_s (ck_S1 p16x_189_s (ck_S1 p16x_192_s (ck_S1 p16x_195_s (ck_S1 p16x_198_s (ck_S1 p16x_201_s (ck_S1 p16x_204_s (ck_S1 p16x_207_s (ck_S1 p16x_210_s (ck_S1 p16x_213_s (ck_S1 p16x_216_s (ck_S1 p16x_219_s (ck_S1 p16x_222_s (ck_S1 p16x_225_s (ck_S1 p16x_228_s (ck_S1 p16x_231_s (ck_S1 p16x_234_s (ck_S1 p16x_237_s (ck_S1 p16x_240_s (ck_S1 p16x_243_s (ck_S1 p16x_246_s (ck_S1 p16x_249_s (ck_S1 p16x_252_s (ck_S1 p16x_255_s (ck_S1 p16x_258_s (ck_S1 p16x_261_s (ck_S1 p16x_264_s (ck_S1 p16x_267_s (ck_S1 p16x_270_s (ck_S1 p16x_273_s (ck_S1 p16x_279_s (ck_S1 p16x_289_s (ck_S1 p16x_292_s (ck_S1 p16x_295_s (ck_S1 p16x_298_s (ck_S1 p16x_301_s (ck_S1 p16x_304_s (ck_S1 p16x_307_s (ck_S1 p16x_310_s (ck_S1 p16x_313_s (ck_S1 p16x_316_s (ck_S1 p16x_319_s (ck_S1 p16x_322_s (ck_S1 p16x_325_s (ck_S1 p16x_328_s (ck_S1 p16x_332_s (ck_S1 p16x_337_s (ck_S1 p16x_340_s (ck_S1 p16x_343_s (ck_S1 p16x_346_s (ck_S1 p16x_349_s (ck_S1 p16x_3841_s (ck_S1 p16x_5506_s (ck_S1 p16x_5510_s (ck_S1 p16x_5514_s (ck_S1 p16x_5519_s (ck_S1 p16x_5524_s (ck_S1 p16x_5527_s (ck_S1 p16x_5530_s (ck_S1 p16x_5533_s (ck_S1 p16x_5536_s (ck_S1 p16x_5539_s (ck_S1 p16x_5542_s (ck_S1 p16x_5545_s (ck_S1 p16x_5548_s (ck_S1 p16x_5551_s (ck_S1 p16x_5554_s (ck_S1 p16x_5557_s (ck_S1 p16x_5560_s (ck_S1 p16x_5563_s (ck_S1 p16x_5566_s (ck_S1 p16x_5569_s (ck_S1 p16x_5572_s (ck_S1 p16x_5575_s (ck_S1 p16x_5578_s (ck_S1 p16x_5583_s (ck_S1 p16x_5587_s (ck_S1 p16x_5590_s (ck_S1 p16x_5593_s (ck_S1 p16x_5596_s (ck_S1 p16x_5599_s (ck_S1 p16x_5602_s (ck_S1 p16x_5605_s (ck_S1 p16x_5608_s (ck_S1 p16x_5611_s (ck_S1 p16x_5614_s (ck_S1 p16x_5617_s (ck_S1 p16x_5620_s (ck_S1 p16x_5623_s (ck_S1 p16x_5626_s (ck_S1 p16x_5629_s (ck_S1 p16x_5632_s (ck_S1 p16x_5635_s (ck_S1 p16x_5638_s (ck_S1 p16x_5641_s (ck_S1 p16x_5644_s (ck_S1 p16x_5647_s (ck_S1 p16x_5650_s (ck_S1 p16x_5653_s (ck_S1 p16x_5656_s (ck_S1 p16x_5659_s (ck_S1 p16x_5662_s (ck_S1 p16x_5665_s (ck_S1 p16x_5668_s (ck_S1 p16x_5671_s (ck_S1 p16x_5674_s (ck_S1 p16x_5677_s (ck_S1 p16x_5680_s (ck_S1 p16x_5683_s (ck_S1 p16x_5686_s (ck_S1 p16x_5689_s (ck_S1 p16x_5692_s (ck_S1 p16x_5695_s (ck_S1 p16x_5698_s (ck_S1 p16x_5701_s (ck_S1 p16x_5704_s (ck_S1 p16x_5707_s (ck_S1 p16x_5710_s (ck_S1 p16x_5713_s (ck_S1 p16x_5716_s ck_S0))))))))))))))))))))))))))))))))))))))))))))))))))))))))))))))))))))))))))))))))))))))))))))))))))))))))))))))))))))))))))))))))))))))) (ck_E1 (ck_S1 p16x_141_s (ck_S1 p16x_145_s (ck_S1 p16x_148_s (ck_S1 p16x_151_s (ck_S1 p16x_154_s (ck_S1 p16x_157_s (ck_S1 p16x_160_s (ck_S1 p16x_163_s (ck_S1 p16x_166_s (ck_S1 p16x_169_s (ck_S1 p16x_172_s (ck_S1 p16x_175_s (ck_S1 p16x_178_s (ck_S1 p16x_181_s (ck_S1 p16x_184_s (ck_S1 p16x_187_s (ck_S1 p16x_190_s (ck_S1 p16x_193_s (ck_S1 p16x_196_s (ck_S1 p16x_199_s (ck_S1 p16x_202_s (ck_S1 p16x_205_s (ck_S1 p16x_208_s (ck_S1 p16x_211_s (ck_S1 p16x_214_s (ck_S1 p16x_217_s (ck_S1 p16x_220_s (ck_S1 p16x_223_s (ck_S1 p16x_226_s (ck_S1 p16x_229_s (ck_S1 p16x_232_s (ck_S1 p16x_235_s (ck_S1 p16x_238_s (ck_S1 p16x_241_s (ck_S1 p16x_244_s (ck_S1 p16x_247_s (ck_S1 p16x_250_s (ck_S1 p16x_253_s (ck_S1 p16x_256_s (ck_S1 p16x_259_s (ck_S1 p16x_262_s (ck_S1 p16x_265_s (ck_S1 p16x_268_s (ck_S1 p16x_271_s (ck_S1 p16x_274_s (ck_S1 p16x_286_s (ck_S1 p16x_290_s (ck_S1 p16x_293_s (ck_S1 p16x_296_s (ck_S1 p16x_299_s (ck_S1 p16x_302_s (ck_S1 p16x_305_s (ck_S1 p16x_308_s (ck_S1 p16x_311_s (ck_S1 p16x_314_s (ck_S1 p16x_317_s (ck_S1 p16x_320_s (ck_S1 p16x_323_s (ck_S1 p16x_326_s (ck_S1 p16x_329_s (ck_S1 p16x_335_s (ck_S1 p16x_338_s (ck_S1 p16x_341_s (ck_S1 p16x_344_s (ck_S1 p16x_347_s (ck_S1 p16x_353_s (ck_S1 p16x_5503_s (ck_S1 p16x_5508_s (ck_S1 p16x_5512_s (ck_S1 p16x_5516_s (ck_S1 p16x_5522_s (ck_S1 p16x_5525_s (ck_S1 p16x_5528_s (ck_S1 p16x_5531_s (ck_S1 p16x_5534_s (ck_S1 p16x_5537_s (ck_S1 p16x_5540_s (ck_S1 p16x_5543_s (ck_S1 p16x_5546_s (ck_S1 p16x_5549_s (ck_S1 p16x_5552_s (ck_S1 p16x_5555_s (ck_S1 p16x_5558_s (ck_S1 p16x_5561_s (ck_S1 p16x_5564_s (ck_S1 p16x_5567_s (ck_S1 p16x_5570_s (ck_S1 p16x_5573_s (ck_S1 p16x_5576_s (ck_S1 p16x_5579_s (ck_S1 p16x_5585_s (ck_S1 p16x_5588_s (ck_S1 p16x_5591_s (ck_S1 p16x_5594_s (ck_S1 p16x_5597_s (ck_S1 p16x_5600_s (ck_S1 p16x_5603_s (ck_S1 p16x_5606_s (ck_S1 p16x_5609_s (ck_S1 p16x_5612_s (ck_S1 p16x_5615_s (ck_S1 p16x_5618_s (ck_S1 p16x_5621_s (ck_S1 p16x_5624_s (ck_S1 p16x_5627_s (ck_S1 p16x_5630_s (ck_S1 p16x_5633_s (ck_S1 p16x_5636_s (ck_S1 p16x_5639_s (ck_S1 p16x_5642_s (ck_S1 p16x_5645_s (ck_S1 p16x_5648_s (ck_S1 p16x_5651_s (ck_S1 p16x_5654_s (ck_S1 p16x_5657_s (ck_S1 p16x_5660_s (ck_S1 p16x_5663_s (ck_S1 p16x_5666_s (ck_S1 p16x_5669_s (ck_S1 p16x_5672_s (ck_S1 p16x_5675_s (ck_S1 p16x_5678_s (ck_S1 p16x_5681_s (ck_S1 p16x_5684_s (ck_S1 p16x_5687_s (ck_S1 p16x_5690_s (ck_S1 p16x_5693_s (ck_S1 p16x_5696_s (ck_S1 p16x_5699_s (ck_S1 p16x_5702_s (ck_S1 p16x_5705_s (ck_S1 p16x_5708_s (ck_S1 p16x_5711_s (ck_S1 p16x_5714_s (ck_S1 p16x_5717_s ck_S0))))))))))))))))))))))))))))))))))))))))))))))))))))))))))))))))))))))))))))))))))))))))))))))))))))))))))))))))))))))))))))))))))))))) (ck_E1 (ck_S1 p16x_142_s (ck_S1 p16x_287_s (ck_S1 p16x_354_s (ck_S1 p16x_5504_s ck_S0)))) ck_E0))
set_option maxRecDepth 100000 in
theorem p16_b : (ck_prod [(1, [((-2147483648), (-1)), (0, 2), (3, 2147483647)]), (2, [((-2147483648), (-1)), (0, 299), (300, 2147483647)]), (3, [((-2147483648), (-1)), (0, 299), (300, 2147483647)]), (4, [((-2147483648), (-1)), (0, 0), (1, 1), (2, 2), (3, 2147483647)])]).all (fun xf => ck_go p1_O (some 6) xf p16_E 370 280 245 p1_W p1_outs [] 192 false [] 1000 2000 1167 p1_L [] 245 p16_F) = true := by decide +kernel
theorem p16_s {X : Int → Int} {LX : Nat} (hLX : 6 = LX) (hX : ∀ j, gm_ir (X j)) {σ : Nat → Int} {L : gm_L} {K0 K : gm_K} {R0 R : gm_R} {M0 M : gm_M} (hS : ck_St p1_O σ p1_W 245 K0 R0 M0 p1_L [] p16_F L [] 245 K R M) : gm_Wp X LX 280 1000 2000 370 1167 L [] 245 K R M (ck_Q p1_O σ p1_W 245 K0 R0 M0 p1_outs) := ck_boxes p16_h hLX hX (by decide +kernel) p16_b hS
