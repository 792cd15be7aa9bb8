/-! throwsFor, on a new object: laid by wip/am/p1g.py. -/
set_option maxRecDepth 100000 in
def p16x_133 : ck_Sum := ((6, 1, 6), 245, [.inr (.inr (.inl 1)), .inl ((-2147483648), (-1), none), .inl (ck_one 3)], ([], [], []), ([], []), [(.inl 3, 245, ([], [], []))])
set_option maxRecDepth 100000 in
theorem p16x_133_e : ck_ok p1_O none [] [] 133 [] 76 p16x_133 = true := by decide +kernel
theorem p16x_133_s {X : Int → Int} {LX : Nat} : ck_Ok p1_O X LX 133 p16x_133 := ck_ok_s (ck_E0) ck_X0 ck_l0 p16x_133_e
set_option maxRecDepth 100000 in
def p16x_134 : ck_Sum := ((7, 1, 6), 245, [.inr (.inr (.inl 1)), .inl ((-2147483648), (-1), none)], ([], [], [(3, 0, 0, ck_one 3)]), ([], []), [(.inl 3, 245, ([], [], []))])
set_option maxRecDepth 100000 in
theorem p16x_134_e : ck_ok p1_O none [] [(133, [p16x_133])] 132 [] 82 p16x_134 = true := by decide +kernel
theorem p16x_134_s {X : Int → Int} {LX : Nat} : ck_Ok p1_O X LX 132 p16x_134 := ck_ok_s (ck_E1 (ck_S1 p16x_133_s ck_S0) ck_E0) ck_X0 ck_l0 p16x_134_e
set_option maxRecDepth 100000 in
def p16x_135 : ck_Sum := ((8, 1, 6), 245, [.inr (.inr (.inl 1)), .inl ((-2147483648), (-1), none), .inl ((-2147483648), (-1), none), .inl ((-2147483648), (-1), none), .inl ((-2147483648), (-1), none)], ([], [], [(3, 0, 0, ck_one 3)]), ([], []), [(.inl 3, 245, ([], [], []))])
set_option maxRecDepth 100000 in
theorem p16x_135_e : ck_ok p1_O none [] [(132, [p16x_134])] 167 [] 76 p16x_135 = true := by decide +kernel
theorem p16x_135_s {X : Int → Int} {LX : Nat} : ck_Ok p1_O X LX 167 p16x_135 := ck_ok_s (ck_E1 (ck_S1 p16x_134_s ck_S0) ck_E0) ck_X0 ck_l0 p16x_135_e
set_option maxRecDepth 100000 in
def p16x_136 : ck_Sum := ((9, 1, 6), 245, [.inr (.inr (.inl 1)), .inl ((-2147483648), (-1), none), .inl ((-2147483648), (-1), none), .inl ((-2147483648), (-1), none), .inl ((-2147483648), (-1), none), .inr (.inr (.inl 245))], ([], [], [(3, 0, 0, ck_one 3)]), ([], []), [(.inr (some (.inl (ck_one 1))), 245, ([], [], []))])
set_option maxRecDepth 100000 in
theorem p16x_136_e : ck_ok p1_O none [] [(167, [p16x_135])] 166 [] 92 p16x_136 = true := by decide +kernel
theorem p16x_136_s {X : Int → Int} {LX : Nat} : ck_Ok p1_O X LX 166 p16x_136 := ck_ok_s (ck_E1 (ck_S1 p16x_135_s ck_S0) ck_E0) ck_X0 ck_l0 p16x_136_e
set_option maxRecDepth 100000 in
def p16x_143 : ck_Sum := ((8, 1, 6), 245, [.inr (.inr (.inl 1)), .inl ((-2147483648), (-1), none), .inl ((-2147483648), (-1), none), .inl ((-2147483648), (-1), none), .inl (ck_one 0)], ([], [], [(3, 0, 0, ck_one 3)]), ([], []), [(.inl 3, 245, ([], [], []))])
set_option maxRecDepth 100000 in
theorem p16x_143_e : ck_ok p1_O none [] [(132, [p16x_134])] 167 [] 76 p16x_143 = true := by decide +kernel
theorem p16x_143_s {X : Int → Int} {LX : Nat} : ck_Ok p1_O X LX 167 p16x_143 := ck_ok_s (ck_E1 (ck_S1 p16x_134_s ck_S0) ck_E0) ck_X0 ck_l0 p16x_143_e
set_option maxRecDepth 100000 in
def p16x_144 : ck_Sum := ((9, 1, 6), 245, [.inr (.inr (.inl 1)), .inl ((-2147483648), (-1), none), .inl ((-2147483648), (-1), none), .inl ((-2147483648), (-1), none), .inl (ck_one 0), .inr (.inr (.inl 245))], ([], [], [(3, 0, 0, ck_one 3)]), ([], []), [(.inr (some (.inl (ck_one 1))), 245, ([], [], []))])
set_option maxRecDepth 100000 in
theorem p16x_144_e : ck_ok p1_O none [] [(167, [p16x_143])] 166 [] 92 p16x_144 = true := by decide +kernel
theorem p16x_144_s {X : Int → Int} {LX : Nat} : ck_Ok p1_O X LX 166 p16x_144 := ck_ok_s (ck_E1 (ck_S1 p16x_143_s ck_S0) ck_E0) ck_X0 ck_l0 p16x_144_e
set_option maxRecDepth 100000 in
def p16x_146 : ck_Sum := ((8, 1, 6), 245, [.inr (.inr (.inl 1)), .inl ((-2147483648), (-1), none), .inl ((-2147483648), (-1), none), .inl ((-2147483648), (-1), none), .inl (ck_one 1)], ([], [], [(3, 0, 0, ck_one 3)]), ([], []), [(.inl 3, 245, ([], [], []))])
set_option maxRecDepth 100000 in
theorem p16x_146_e : ck_ok p1_O none [] [(132, [p16x_134])] 167 [] 76 p16x_146 = true := by decide +kernel
theorem p16x_146_s {X : Int → Int} {LX : Nat} : ck_Ok p1_O X LX 167 p16x_146 := ck_ok_s (ck_E1 (ck_S1 p16x_134_s ck_S0) ck_E0) ck_X0 ck_l0 p16x_146_e
set_option maxRecDepth 100000 in
def p16x_147 : ck_Sum := ((9, 1, 6), 245, [.inr (.inr (.inl 1)), .inl ((-2147483648), (-1), none), .inl ((-2147483648), (-1), none), .inl ((-2147483648), (-1), none), .inl (ck_one 1), .inr (.inr (.inl 245))], ([], [], [(3, 0, 0, ck_one 3)]), ([], []), [(.inr (some (.inl (ck_one 1))), 245, ([], [], []))])
set_option maxRecDepth 100000 in
theorem p16x_147_e : ck_ok p1_O none [] [(167, [p16x_146])] 166 [] 92 p16x_147 = true := by decide +kernel
theorem p16x_147_s {X : Int → Int} {LX : Nat} : ck_Ok p1_O X LX 166 p16x_147 := ck_ok_s (ck_E1 (ck_S1 p16x_146_s ck_S0) ck_E0) ck_X0 ck_l0 p16x_147_e
set_option maxRecDepth 100000 in
def p16x_149 : ck_Sum := ((8, 1, 6), 245, [.inr (.inr (.inl 1)), .inl ((-2147483648), (-1), none), .inl ((-2147483648), (-1), none), .inl ((-2147483648), (-1), none), .inl (ck_one 2)], ([], [], [(3, 0, 0, ck_one 3)]), ([], []), [(.inl 3, 245, ([], [], []))])
set_option maxRecDepth 100000 in
theorem p16x_149_e : ck_ok p1_O none [] [(132, [p16x_134])] 167 [] 76 p16x_149 = true := by decide +kernel
theorem p16x_149_s {X : Int → Int} {LX : Nat} : ck_Ok p1_O X LX 167 p16x_149 := ck_ok_s (ck_E1 (ck_S1 p16x_134_s ck_S0) ck_E0) ck_X0 ck_l0 p16x_149_e
set_option maxRecDepth 100000 in
def p16x_150 : ck_Sum := ((9, 1, 6), 245, [.inr (.inr (.inl 1)), .inl ((-2147483648), (-1), none), .inl ((-2147483648), (-1), none), .inl ((-2147483648), (-1), none), .inl (ck_one 2), .inr (.inr (.inl 245))], ([], [], [(3, 0, 0, ck_one 3)]), ([], []), [(.inr (some (.inl (ck_one 1))), 245, ([], [], []))])
set_option maxRecDepth 100000 in
theorem p16x_150_e : ck_ok p1_O none [] [(167, [p16x_149])] 166 [] 92 p16x_150 = true := by decide +kernel
theorem p16x_150_s {X : Int → Int} {LX : Nat} : ck_Ok p1_O X LX 166 p16x_150 := ck_ok_s (ck_E1 (ck_S1 p16x_149_s ck_S0) ck_E0) ck_X0 ck_l0 p16x_150_e
set_option maxRecDepth 100000 in
def p16x_152 : ck_Sum := ((8, 1, 6), 245, [.inr (.inr (.inl 1)), .inl ((-2147483648), (-1), none), .inl ((-2147483648), (-1), none), .inl ((-2147483648), (-1), none), .inl (3, 2147483647, none)], ([], [], [(3, 0, 0, ck_one 3)]), ([], []), [(.inl 3, 245, ([], [], []))])
set_option maxRecDepth 100000 in
theorem p16x_152_e : ck_ok p1_O none [] [(132, [p16x_134])] 167 [] 76 p16x_152 = true := by decide +kernel
theorem p16x_152_s {X : Int → Int} {LX : Nat} : ck_Ok p1_O X LX 167 p16x_152 := ck_ok_s (ck_E1 (ck_S1 p16x_134_s ck_S0) ck_E0) ck_X0 ck_l0 p16x_152_e
set_option maxRecDepth 100000 in
def p16x_153 : ck_Sum := ((9, 1, 6), 245, [.inr (.inr (.inl 1)), .inl ((-2147483648), (-1), none), .inl ((-2147483648), (-1), none), .inl ((-2147483648), (-1), none), .inl (3, 2147483647, none), .inr (.inr (.inl 245))], ([], [], [(3, 0, 0, ck_one 3)]), ([], []), [(.inr (some (.inl (ck_one 1))), 245, ([], [], []))])
set_option maxRecDepth 100000 in
theorem p16x_153_e : ck_ok p1_O none [] [(167, [p16x_152])] 166 [] 92 p16x_153 = true := by decide +kernel
theorem p16x_153_s {X : Int → Int} {LX : Nat} : ck_Ok p1_O X LX 166 p16x_153 := ck_ok_s (ck_E1 (ck_S1 p16x_152_s ck_S0) ck_E0) ck_X0 ck_l0 p16x_153_e
set_option maxRecDepth 100000 in
def p16x_155 : ck_Sum := ((8, 1, 6), 245, [.inr (.inr (.inl 1)), .inl ((-2147483648), (-1), none), .inl ((-2147483648), (-1), none), .inl (0, 299, none), .inl ((-2147483648), (-1), none)], ([], [], [(3, 0, 0, ck_one 3)]), ([], []), [(.inl 3, 245, ([], [], []))])
set_option maxRecDepth 100000 in
theorem p16x_155_e : ck_ok p1_O none [] [(132, [p16x_134])] 167 [] 76 p16x_155 = true := by decide +kernel
theorem p16x_155_s {X : Int → Int} {LX : Nat} : ck_Ok p1_O X LX 167 p16x_155 := ck_ok_s (ck_E1 (ck_S1 p16x_134_s ck_S0) ck_E0) ck_X0 ck_l0 p16x_155_e
set_option maxRecDepth 100000 in
def p16x_156 : ck_Sum := ((9, 1, 6), 245, [.inr (.inr (.inl 1)), .inl ((-2147483648), (-1), none), .inl ((-2147483648), (-1), none), .inl (0, 299, none), .inl ((-2147483648), (-1), none), .inr (.inr (.inl 245))], ([], [], [(3, 0, 0, ck_one 3)]), ([], []), [(.inr (some (.inl (ck_one 1))), 245, ([], [], []))])
set_option maxRecDepth 100000 in
theorem p16x_156_e : ck_ok p1_O none [] [(167, [p16x_155])] 166 [] 92 p16x_156 = true := by decide +kernel
theorem p16x_156_s {X : Int → Int} {LX : Nat} : ck_Ok p1_O X LX 166 p16x_156 := ck_ok_s (ck_E1 (ck_S1 p16x_155_s ck_S0) ck_E0) ck_X0 ck_l0 p16x_156_e
set_option maxRecDepth 100000 in
def p16x_158 : ck_Sum := ((8, 1, 6), 245, [.inr (.inr (.inl 1)), .inl ((-2147483648), (-1), none), .inl ((-2147483648), (-1), none), .inl (0, 299, none), .inl (ck_one 0)], ([], [], [(3, 0, 0, ck_one 3)]), ([], []), [(.inl 3, 245, ([], [], []))])
set_option maxRecDepth 100000 in
theorem p16x_158_e : ck_ok p1_O none [] [(132, [p16x_134])] 167 [] 76 p16x_158 = true := by decide +kernel
theorem p16x_158_s {X : Int → Int} {LX : Nat} : ck_Ok p1_O X LX 167 p16x_158 := ck_ok_s (ck_E1 (ck_S1 p16x_134_s ck_S0) ck_E0) ck_X0 ck_l0 p16x_158_e
set_option maxRecDepth 100000 in
def p16x_159 : ck_Sum := ((9, 1, 6), 245, [.inr (.inr (.inl 1)), .inl ((-2147483648), (-1), none), .inl ((-2147483648), (-1), none), .inl (0, 299, none), .inl (ck_one 0), .inr (.inr (.inl 245))], ([], [], [(3, 0, 0, ck_one 3)]), ([], []), [(.inr (some (.inl (ck_one 1))), 245, ([], [], []))])
set_option maxRecDepth 100000 in
theorem p16x_159_e : ck_ok p1_O none [] [(167, [p16x_158])] 166 [] 92 p16x_159 = true := by decide +kernel
theorem p16x_159_s {X : Int → Int} {LX : Nat} : ck_Ok p1_O X LX 166 p16x_159 := ck_ok_s (ck_E1 (ck_S1 p16x_158_s ck_S0) ck_E0) ck_X0 ck_l0 p16x_159_e
set_option maxRecDepth 100000 in
def p16x_161 : ck_Sum := ((8, 1, 6), 245, [.inr (.inr (.inl 1)), .inl ((-2147483648), (-1), none), .inl ((-2147483648), (-1), none), .inl (0, 299, none), .inl (ck_one 1)], ([], [], [(3, 0, 0, ck_one 3)]), ([], []), [(.inl 3, 245, ([], [], []))])
set_option maxRecDepth 100000 in
theorem p16x_161_e : ck_ok p1_O none [] [(132, [p16x_134])] 167 [] 76 p16x_161 = true := by decide +kernel
theorem p16x_161_s {X : Int → Int} {LX : Nat} : ck_Ok p1_O X LX 167 p16x_161 := ck_ok_s (ck_E1 (ck_S1 p16x_134_s ck_S0) ck_E0) ck_X0 ck_l0 p16x_161_e
set_option maxRecDepth 100000 in
def p16x_162 : ck_Sum := ((9, 1, 6), 245, [.inr (.inr (.inl 1)), .inl ((-2147483648), (-1), none), .inl ((-2147483648), (-1), none), .inl (0, 299, none), .inl (ck_one 1), .inr (.inr (.inl 245))], ([], [], [(3, 0, 0, ck_one 3)]), ([], []), [(.inr (some (.inl (ck_one 1))), 245, ([], [], []))])
set_option maxRecDepth 100000 in
theorem p16x_162_e : ck_ok p1_O none [] [(167, [p16x_161])] 166 [] 92 p16x_162 = true := by decide +kernel
theorem p16x_162_s {X : Int → Int} {LX : Nat} : ck_Ok p1_O X LX 166 p16x_162 := ck_ok_s (ck_E1 (ck_S1 p16x_161_s ck_S0) ck_E0) ck_X0 ck_l0 p16x_162_e
set_option maxRecDepth 100000 in
def p16x_164 : ck_Sum := ((8, 1, 6), 245, [.inr (.inr (.inl 1)), .inl ((-2147483648), (-1), none), .inl ((-2147483648), (-1), none), .inl (0, 299, none), .inl (ck_one 2)], ([], [], [(3, 0, 0, ck_one 3)]), ([], []), [(.inl 3, 245, ([], [], []))])
set_option maxRecDepth 100000 in
theorem p16x_164_e : ck_ok p1_O none [] [(132, [p16x_134])] 167 [] 76 p16x_164 = true := by decide +kernel
theorem p16x_164_s {X : Int → Int} {LX : Nat} : ck_Ok p1_O X LX 167 p16x_164 := ck_ok_s (ck_E1 (ck_S1 p16x_134_s ck_S0) ck_E0) ck_X0 ck_l0 p16x_164_e
set_option maxRecDepth 100000 in
def p16x_165 : ck_Sum := ((9, 1, 6), 245, [.inr (.inr (.inl 1)), .inl ((-2147483648), (-1), none), .inl ((-2147483648), (-1), none), .inl (0, 299, none), .inl (ck_one 2), .inr (.inr (.inl 245))], ([], [], [(3, 0, 0, ck_one 3)]), ([], []), [(.inr (some (.inl (ck_one 1))), 245, ([], [], []))])
set_option maxRecDepth 100000 in
theorem p16x_165_e : ck_ok p1_O none [] [(167, [p16x_164])] 166 [] 92 p16x_165 = true := by decide +kernel
theorem p16x_165_s {X : Int → Int} {LX : Nat} : ck_Ok p1_O X LX 166 p16x_165 := ck_ok_s (ck_E1 (ck_S1 p16x_164_s ck_S0) ck_E0) ck_X0 ck_l0 p16x_165_e
set_option maxRecDepth 100000 in
def p16x_167 : ck_Sum := ((8, 1, 6), 245, [.inr (.inr (.inl 1)), .inl ((-2147483648), (-1), none), .inl ((-2147483648), (-1), none), .inl (0, 299, none), .inl (3, 2147483647, none)], ([], [], [(3, 0, 0, ck_one 3)]), ([], []), [(.inl 3, 245, ([], [], []))])
set_option maxRecDepth 100000 in
theorem p16x_167_e : ck_ok p1_O none [] [(132, [p16x_134])] 167 [] 76 p16x_167 = true := by decide +kernel
theorem p16x_167_s {X : Int → Int} {LX : Nat} : ck_Ok p1_O X LX 167 p16x_167 := ck_ok_s (ck_E1 (ck_S1 p16x_134_s ck_S0) ck_E0) ck_X0 ck_l0 p16x_167_e
set_option maxRecDepth 100000 in
def p16x_168 : ck_Sum := ((9, 1, 6), 245, [.inr (.inr (.inl 1)), .inl ((-2147483648), (-1), none), .inl ((-2147483648), (-1), none), .inl (0, 299, none), .inl (3, 2147483647, none), .inr (.inr (.inl 245))], ([], [], [(3, 0, 0, ck_one 3)]), ([], []), [(.inr (some (.inl (ck_one 1))), 245, ([], [], []))])
set_option maxRecDepth 100000 in
theorem p16x_168_e : ck_ok p1_O none [] [(167, [p16x_167])] 166 [] 92 p16x_168 = true := by decide +kernel
theorem p16x_168_s {X : Int → Int} {LX : Nat} : ck_Ok p1_O X LX 166 p16x_168 := ck_ok_s (ck_E1 (ck_S1 p16x_167_s ck_S0) ck_E0) ck_X0 ck_l0 p16x_168_e
set_option maxRecDepth 100000 in
def p16x_170 : ck_Sum := ((8, 1, 6), 245, [.inr (.inr (.inl 1)), .inl ((-2147483648), (-1), none), .inl ((-2147483648), (-1), none), .inl (300, 2147483647, none), .inl ((-2147483648), (-1), none)], ([], [], [(3, 0, 0, ck_one 3)]), ([], []), [(.inl 3, 245, ([], [], []))])
set_option maxRecDepth 100000 in
theorem p16x_170_e : ck_ok p1_O none [] [(132, [p16x_134])] 167 [] 76 p16x_170 = true := by decide +kernel
theorem p16x_170_s {X : Int → Int} {LX : Nat} : ck_Ok p1_O X LX 167 p16x_170 := ck_ok_s (ck_E1 (ck_S1 p16x_134_s ck_S0) ck_E0) ck_X0 ck_l0 p16x_170_e
set_option maxRecDepth 100000 in
def p16x_171 : ck_Sum := ((9, 1, 6), 245, [.inr (.inr (.inl 1)), .inl ((-2147483648), (-1), none), .inl ((-2147483648), (-1), none), .inl (300, 2147483647, none), .inl ((-2147483648), (-1), none), .inr (.inr (.inl 245))], ([], [], [(3, 0, 0, ck_one 3)]), ([], []), [(.inr (some (.inl (ck_one 1))), 245, ([], [], []))])
set_option maxRecDepth 100000 in
theorem p16x_171_e : ck_ok p1_O none [] [(167, [p16x_170])] 166 [] 92 p16x_171 = true := by decide +kernel
theorem p16x_171_s {X : Int → Int} {LX : Nat} : ck_Ok p1_O X LX 166 p16x_171 := ck_ok_s (ck_E1 (ck_S1 p16x_170_s ck_S0) ck_E0) ck_X0 ck_l0 p16x_171_e
set_option maxRecDepth 100000 in
def p16x_173 : ck_Sum := ((8, 1, 6), 245, [.inr (.inr (.inl 1)), .inl ((-2147483648), (-1), none), .inl ((-2147483648), (-1), none), .inl (300, 2147483647, none), .inl (ck_one 0)], ([], [], [(3, 0, 0, ck_one 3)]), ([], []), [(.inl 3, 245, ([], [], []))])
set_option maxRecDepth 100000 in
theorem p16x_173_e : ck_ok p1_O none [] [(132, [p16x_134])] 167 [] 76 p16x_173 = true := by decide +kernel
theorem p16x_173_s {X : Int → Int} {LX : Nat} : ck_Ok p1_O X LX 167 p16x_173 := ck_ok_s (ck_E1 (ck_S1 p16x_134_s ck_S0) ck_E0) ck_X0 ck_l0 p16x_173_e
set_option maxRecDepth 100000 in
def p16x_174 : ck_Sum := ((9, 1, 6), 245, [.inr (.inr (.inl 1)), .inl ((-2147483648), (-1), none), .inl ((-2147483648), (-1), none), .inl (300, 2147483647, none), .inl (ck_one 0), .inr (.inr (.inl 245))], ([], [], [(3, 0, 0, ck_one 3)]), ([], []), [(.inr (some (.inl (ck_one 1))), 245, ([], [], []))])
set_option maxRecDepth 100000 in
theorem p16x_174_e : ck_ok p1_O none [] [(167, [p16x_173])] 166 [] 92 p16x_174 = true := by decide +kernel
theorem p16x_174_s {X : Int → Int} {LX : Nat} : ck_Ok p1_O X LX 166 p16x_174 := ck_ok_s (ck_E1 (ck_S1 p16x_173_s ck_S0) ck_E0) ck_X0 ck_l0 p16x_174_e
set_option maxRecDepth 100000 in
def p16x_176 : ck_Sum := ((8, 1, 6), 245, [.inr (.inr (.inl 1)), .inl ((-2147483648), (-1), none), .inl ((-2147483648), (-1), none), .inl (300, 2147483647, none), .inl (ck_one 1)], ([], [], [(3, 0, 0, ck_one 3)]), ([], []), [(.inl 3, 245, ([], [], []))])
set_option maxRecDepth 100000 in
theorem p16x_176_e : ck_ok p1_O none [] [(132, [p16x_134])] 167 [] 76 p16x_176 = true := by decide +kernel
theorem p16x_176_s {X : Int → Int} {LX : Nat} : ck_Ok p1_O X LX 167 p16x_176 := ck_ok_s (ck_E1 (ck_S1 p16x_134_s ck_S0) ck_E0) ck_X0 ck_l0 p16x_176_e
set_option maxRecDepth 100000 in
def p16x_177 : ck_Sum := ((9, 1, 6), 245, [.inr (.inr (.inl 1)), .inl ((-2147483648), (-1), none), .inl ((-2147483648), (-1), none), .inl (300, 2147483647, none), .inl (ck_one 1), .inr (.inr (.inl 245))], ([], [], [(3, 0, 0, ck_one 3)]), ([], []), [(.inr (some (.inl (ck_one 1))), 245, ([], [], []))])
set_option maxRecDepth 100000 in
theorem p16x_177_e : ck_ok p1_O none [] [(167, [p16x_176])] 166 [] 92 p16x_177 = true := by decide +kernel
theorem p16x_177_s {X : Int → Int} {LX : Nat} : ck_Ok p1_O X LX 166 p16x_177 := ck_ok_s (ck_E1 (ck_S1 p16x_176_s ck_S0) ck_E0) ck_X0 ck_l0 p16x_177_e
set_option maxRecDepth 100000 in
def p16x_179 : ck_Sum := ((8, 1, 6), 245, [.inr (.inr (.inl 1)), .inl ((-2147483648), (-1), none), .inl ((-2147483648), (-1), none), .inl (300, 2147483647, none), .inl (ck_one 2)], ([], [], [(3, 0, 0, ck_one 3)]), ([], []), [(.inl 3, 245, ([], [], []))])
set_option maxRecDepth 100000 in
theorem p16x_179_e : ck_ok p1_O none [] [(132, [p16x_134])] 167 [] 76 p16x_179 = true := by decide +kernel
theorem p16x_179_s {X : Int → Int} {LX : Nat} : ck_Ok p1_O X LX 167 p16x_179 := ck_ok_s (ck_E1 (ck_S1 p16x_134_s ck_S0) ck_E0) ck_X0 ck_l0 p16x_179_e
set_option maxRecDepth 100000 in
def p16x_180 : ck_Sum := ((9, 1, 6), 245, [.inr (.inr (.inl 1)), .inl ((-2147483648), (-1), none), .inl ((-2147483648), (-1), none), .inl (300, 2147483647, none), .inl (ck_one 2), .inr (.inr (.inl 245))], ([], [], [(3, 0, 0, ck_one 3)]), ([], []), [(.inr (some (.inl (ck_one 1))), 245, ([], [], []))])
set_option maxRecDepth 100000 in
theorem p16x_180_e : ck_ok p1_O none [] [(167, [p16x_179])] 166 [] 92 p16x_180 = true := by decide +kernel
theorem p16x_180_s {X : Int → Int} {LX : Nat} : ck_Ok p1_O X LX 166 p16x_180 := ck_ok_s (ck_E1 (ck_S1 p16x_179_s ck_S0) ck_E0) ck_X0 ck_l0 p16x_180_e
set_option maxRecDepth 100000 in
def p16x_182 : ck_Sum := ((8, 1, 6), 245, [.inr (.inr (.inl 1)), .inl ((-2147483648), (-1), none), .inl ((-2147483648), (-1), none), .inl (300, 2147483647, none), .inl (3, 2147483647, none)], ([], [], [(3, 0, 0, ck_one 3)]), ([], []), [(.inl 3, 245, ([], [], []))])
set_option maxRecDepth 100000 in
theorem p16x_182_e : ck_ok p1_O none [] [(132, [p16x_134])] 167 [] 76 p16x_182 = true := by decide +kernel
theorem p16x_182_s {X : Int → Int} {LX : Nat} : ck_Ok p1_O X LX 167 p16x_182 := ck_ok_s (ck_E1 (ck_S1 p16x_134_s ck_S0) ck_E0) ck_X0 ck_l0 p16x_182_e
set_option maxRecDepth 100000 in
def p16x_183 : ck_Sum := ((9, 1, 6), 245, [.inr (.inr (.inl 1)), .inl ((-2147483648), (-1), none), .inl ((-2147483648), (-1), none), .inl (300, 2147483647, none), .inl (3, 2147483647, none), .inr (.inr (.inl 245))], ([], [], [(3, 0, 0, ck_one 3)]), ([], []), [(.inr (some (.inl (ck_one 1))), 245, ([], [], []))])
set_option maxRecDepth 100000 in
theorem p16x_183_e : ck_ok p1_O none [] [(167, [p16x_182])] 166 [] 92 p16x_183 = true := by decide +kernel
theorem p16x_183_s {X : Int → Int} {LX : Nat} : ck_Ok p1_O X LX 166 p16x_183 := ck_ok_s (ck_E1 (ck_S1 p16x_182_s ck_S0) ck_E0) ck_X0 ck_l0 p16x_183_e
set_option maxRecDepth 100000 in
def p16x_185 : ck_Sum := ((8, 1, 6), 245, [.inr (.inr (.inl 1)), .inl ((-2147483648), (-1), none), .inl (0, 299, none), .inl ((-2147483648), (-1), none), .inl ((-2147483648), (-1), none)], ([], [], [(3, 0, 0, ck_one 3)]), ([], []), [(.inl 3, 245, ([], [], []))])
set_option maxRecDepth 100000 in
theorem p16x_185_e : ck_ok p1_O none [] [(132, [p16x_134])] 167 [] 76 p16x_185 = true := by decide +kernel
theorem p16x_185_s {X : Int → Int} {LX : Nat} : ck_Ok p1_O X LX 167 p16x_185 := ck_ok_s (ck_E1 (ck_S1 p16x_134_s ck_S0) ck_E0) ck_X0 ck_l0 p16x_185_e
set_option maxRecDepth 100000 in
def p16x_186 : ck_Sum := ((9, 1, 6), 245, [.inr (.inr (.inl 1)), .inl ((-2147483648), (-1), none), .inl (0, 299, none), .inl ((-2147483648), (-1), none), .inl ((-2147483648), (-1), none), .inr (.inr (.inl 245))], ([], [], [(3, 0, 0, ck_one 3)]), ([], []), [(.inr (some (.inl (ck_one 1))), 245, ([], [], []))])
set_option maxRecDepth 100000 in
theorem p16x_186_e : ck_ok p1_O none [] [(167, [p16x_185])] 166 [] 92 p16x_186 = true := by decide +kernel
theorem p16x_186_s {X : Int → Int} {LX : Nat} : ck_Ok p1_O X LX 166 p16x_186 := ck_ok_s (ck_E1 (ck_S1 p16x_185_s ck_S0) ck_E0) ck_X0 ck_l0 p16x_186_e
set_option maxRecDepth 100000 in
def p16x_188 : ck_Sum := ((8, 1, 6), 245, [.inr (.inr (.inl 1)), .inl ((-2147483648), (-1), none), .inl (0, 299, none), .inl ((-2147483648), (-1), none), .inl (ck_one 0)], ([], [], [(3, 0, 0, ck_one 3)]), ([], []), [(.inl 3, 245, ([], [], []))])
set_option maxRecDepth 100000 in
theorem p16x_188_e : ck_ok p1_O none [] [(132, [p16x_134])] 167 [] 76 p16x_188 = true := by decide +kernel
theorem p16x_188_s {X : Int → Int} {LX : Nat} : ck_Ok p1_O X LX 167 p16x_188 := ck_ok_s (ck_E1 (ck_S1 p16x_134_s ck_S0) ck_E0) ck_X0 ck_l0 p16x_188_e
set_option maxRecDepth 100000 in
def p16x_189 : ck_Sum := ((9, 1, 6), 245, [.inr (.inr (.inl 1)), .inl ((-2147483648), (-1), none), .inl (0, 299, none), .inl ((-2147483648), (-1), none), .inl (ck_one 0), .inr (.inr (.inl 245))], ([], [], [(3, 0, 0, ck_one 3)]), ([], []), [(.inr (some (.inl (ck_one 1))), 245, ([], [], []))])
set_option maxRecDepth 100000 in
theorem p16x_189_e : ck_ok p1_O none [] [(167, [p16x_188])] 166 [] 92 p16x_189 = true := by decide +kernel
theorem p16x_189_s {X : Int → Int} {LX : Nat} : ck_Ok p1_O X LX 166 p16x_189 := ck_ok_s (ck_E1 (ck_S1 p16x_188_s ck_S0) ck_E0) ck_X0 ck_l0 p16x_189_e
set_option maxRecDepth 100000 in
def p16x_191 : ck_Sum := ((8, 1, 6), 245, [.inr (.inr (.inl 1)), .inl ((-2147483648), (-1), none), .inl (0, 299, none), .inl ((-2147483648), (-1), none), .inl (ck_one 1)], ([], [], [(3, 0, 0, ck_one 3)]), ([], []), [(.inl 3, 245, ([], [], []))])
set_option maxRecDepth 100000 in
theorem p16x_191_e : ck_ok p1_O none [] [(132, [p16x_134])] 167 [] 76 p16x_191 = true := by decide +kernel
theorem p16x_191_s {X : Int → Int} {LX : Nat} : ck_Ok p1_O X LX 167 p16x_191 := ck_ok_s (ck_E1 (ck_S1 p16x_134_s ck_S0) ck_E0) ck_X0 ck_l0 p16x_191_e
set_option maxRecDepth 100000 in
def p16x_192 : ck_Sum := ((9, 1, 6), 245, [.inr (.inr (.inl 1)), .inl ((-2147483648), (-1), none), .inl (0, 299, none), .inl ((-2147483648), (-1), none), .inl (ck_one 1), .inr (.inr (.inl 245))], ([], [], [(3, 0, 0, ck_one 3)]), ([], []), [(.inr (some (.inl (ck_one 1))), 245, ([], [], []))])
set_option maxRecDepth 100000 in
theorem p16x_192_e : ck_ok p1_O none [] [(167, [p16x_191])] 166 [] 92 p16x_192 = true := by decide +kernel
theorem p16x_192_s {X : Int → Int} {LX : Nat} : ck_Ok p1_O X LX 166 p16x_192 := ck_ok_s (ck_E1 (ck_S1 p16x_191_s ck_S0) ck_E0) ck_X0 ck_l0 p16x_192_e
set_option maxRecDepth 100000 in
def p16x_194 : ck_Sum := ((8, 1, 6), 245, [.inr (.inr (.inl 1)), .inl ((-2147483648), (-1), none), .inl (0, 299, none), .inl ((-2147483648), (-1), none), .inl (ck_one 2)], ([], [], [(3, 0, 0, ck_one 3)]), ([], []), [(.inl 3, 245, ([], [], []))])
set_option maxRecDepth 100000 in
theorem p16x_194_e : ck_ok p1_O none [] [(132, [p16x_134])] 167 [] 76 p16x_194 = true := by decide +kernel
theorem p16x_194_s {X : Int → Int} {LX : Nat} : ck_Ok p1_O X LX 167 p16x_194 := ck_ok_s (ck_E1 (ck_S1 p16x_134_s ck_S0) ck_E0) ck_X0 ck_l0 p16x_194_e
set_option maxRecDepth 100000 in
def p16x_195 : ck_Sum := ((9, 1, 6), 245, [.inr (.inr (.inl 1)), .inl ((-2147483648), (-1), none), .inl (0, 299, none), .inl ((-2147483648), (-1), none), .inl (ck_one 2), .inr (.inr (.inl 245))], ([], [], [(3, 0, 0, ck_one 3)]), ([], []), [(.inr (some (.inl (ck_one 1))), 245, ([], [], []))])
set_option maxRecDepth 100000 in
theorem p16x_195_e : ck_ok p1_O none [] [(167, [p16x_194])] 166 [] 92 p16x_195 = true := by decide +kernel
theorem p16x_195_s {X : Int → Int} {LX : Nat} : ck_Ok p1_O X LX 166 p16x_195 := ck_ok_s (ck_E1 (ck_S1 p16x_194_s ck_S0) ck_E0) ck_X0 ck_l0 p16x_195_e
set_option maxRecDepth 100000 in
def p16x_197 : ck_Sum := ((8, 1, 6), 245, [.inr (.inr (.inl 1)), .inl ((-2147483648), (-1), none), .inl (0, 299, none), .inl ((-2147483648), (-1), none), .inl (3, 2147483647, none)], ([], [], [(3, 0, 0, ck_one 3)]), ([], []), [(.inl 3, 245, ([], [], []))])
set_option maxRecDepth 100000 in
theorem p16x_197_e : ck_ok p1_O none [] [(132, [p16x_134])] 167 [] 76 p16x_197 = true := by decide +kernel
theorem p16x_197_s {X : Int → Int} {LX : Nat} : ck_Ok p1_O X LX 167 p16x_197 := ck_ok_s (ck_E1 (ck_S1 p16x_134_s ck_S0) ck_E0) ck_X0 ck_l0 p16x_197_e
set_option maxRecDepth 100000 in
def p16x_198 : ck_Sum := ((9, 1, 6), 245, [.inr (.inr (.inl 1)), .inl ((-2147483648), (-1), none), .inl (0, 299, none), .inl ((-2147483648), (-1), none), .inl (3, 2147483647, none), .inr (.inr (.inl 245))], ([], [], [(3, 0, 0, ck_one 3)]), ([], []), [(.inr (some (.inl (ck_one 1))), 245, ([], [], []))])
set_option maxRecDepth 100000 in
theorem p16x_198_e : ck_ok p1_O none [] [(167, [p16x_197])] 166 [] 92 p16x_198 = true := by decide +kernel
theorem p16x_198_s {X : Int → Int} {LX : Nat} : ck_Ok p1_O X LX 166 p16x_198 := ck_ok_s (ck_E1 (ck_S1 p16x_197_s ck_S0) ck_E0) ck_X0 ck_l0 p16x_198_e
set_option maxRecDepth 100000 in
def p16x_200 : ck_Sum := ((8, 1, 6), 245, [.inr (.inr (.inl 1)), .inl ((-2147483648), (-1), none), .inl (0, 299, none), .inl (0, 299, none), .inl ((-2147483648), (-1), none)], ([], [], [(3, 0, 0, ck_one 3)]), ([], []), [(.inl 3, 245, ([], [], []))])
set_option maxRecDepth 100000 in
theorem p16x_200_e : ck_ok p1_O none [] [(132, [p16x_134])] 167 [] 76 p16x_200 = true := by decide +kernel
theorem p16x_200_s {X : Int → Int} {LX : Nat} : ck_Ok p1_O X LX 167 p16x_200 := ck_ok_s (ck_E1 (ck_S1 p16x_134_s ck_S0) ck_E0) ck_X0 ck_l0 p16x_200_e
set_option maxRecDepth 100000 in
def p16x_201 : ck_Sum := ((9, 1, 6), 245, [.inr (.inr (.inl 1)), .inl ((-2147483648), (-1), none), .inl (0, 299, none), .inl (0, 299, none), .inl ((-2147483648), (-1), none), .inr (.inr (.inl 245))], ([], [], [(3, 0, 0, ck_one 3)]), ([], []), [(.inr (some (.inl (ck_one 1))), 245, ([], [], []))])
set_option maxRecDepth 100000 in
theorem p16x_201_e : ck_ok p1_O none [] [(167, [p16x_200])] 166 [] 92 p16x_201 = true := by decide +kernel
theorem p16x_201_s {X : Int → Int} {LX : Nat} : ck_Ok p1_O X LX 166 p16x_201 := ck_ok_s (ck_E1 (ck_S1 p16x_200_s ck_S0) ck_E0) ck_X0 ck_l0 p16x_201_e
set_option maxRecDepth 100000 in
def p16x_203 : ck_Sum := ((8, 1, 6), 245, [.inr (.inr (.inl 1)), .inl ((-2147483648), (-1), none), .inl (0, 299, none), .inl (0, 299, none), .inl (ck_one 0)], ([], [], [(3, 0, 0, ck_one 3)]), ([], []), [(.inl 3, 245, ([], [], []))])
set_option maxRecDepth 100000 in
theorem p16x_203_e : ck_ok p1_O none [] [(132, [p16x_134])] 167 [] 76 p16x_203 = true := by decide +kernel
theorem p16x_203_s {X : Int → Int} {LX : Nat} : ck_Ok p1_O X LX 167 p16x_203 := ck_ok_s (ck_E1 (ck_S1 p16x_134_s ck_S0) ck_E0) ck_X0 ck_l0 p16x_203_e
set_option maxRecDepth 100000 in
def p16x_204 : ck_Sum := ((9, 1, 6), 245, [.inr (.inr (.inl 1)), .inl ((-2147483648), (-1), none), .inl (0, 299, none), .inl (0, 299, none), .inl (ck_one 0), .inr (.inr (.inl 245))], ([], [], [(3, 0, 0, ck_one 3)]), ([], []), [(.inr (some (.inl (ck_one 1))), 245, ([], [], []))])
set_option maxRecDepth 100000 in
theorem p16x_204_e : ck_ok p1_O none [] [(167, [p16x_203])] 166 [] 92 p16x_204 = true := by decide +kernel
theorem p16x_204_s {X : Int → Int} {LX : Nat} : ck_Ok p1_O X LX 166 p16x_204 := ck_ok_s (ck_E1 (ck_S1 p16x_203_s ck_S0) ck_E0) ck_X0 ck_l0 p16x_204_e
set_option maxRecDepth 100000 in
def p16x_206 : ck_Sum := ((8, 1, 6), 245, [.inr (.inr (.inl 1)), .inl ((-2147483648), (-1), none), .inl (0, 299, none), .inl (0, 299, none), .inl (ck_one 1)], ([], [], [(3, 0, 0, ck_one 3)]), ([], []), [(.inl 3, 245, ([], [], []))])
set_option maxRecDepth 100000 in
theorem p16x_206_e : ck_ok p1_O none [] [(132, [p16x_134])] 167 [] 76 p16x_206 = true := by decide +kernel
theorem p16x_206_s {X : Int → Int} {LX : Nat} : ck_Ok p1_O X LX 167 p16x_206 := ck_ok_s (ck_E1 (ck_S1 p16x_134_s ck_S0) ck_E0) ck_X0 ck_l0 p16x_206_e
set_option maxRecDepth 100000 in
def p16x_207 : ck_Sum := ((9, 1, 6), 245, [.inr (.inr (.inl 1)), .inl ((-2147483648), (-1), none), .inl (0, 299, none), .inl (0, 299, none), .inl (ck_one 1), .inr (.inr (.inl 245))], ([], [], [(3, 0, 0, ck_one 3)]), ([], []), [(.inr (some (.inl (ck_one 1))), 245, ([], [], []))])
set_option maxRecDepth 100000 in
theorem p16x_207_e : ck_ok p1_O none [] [(167, [p16x_206])] 166 [] 92 p16x_207 = true := by decide +kernel
theorem p16x_207_s {X : Int → Int} {LX : Nat} : ck_Ok p1_O X LX 166 p16x_207 := ck_ok_s (ck_E1 (ck_S1 p16x_206_s ck_S0) ck_E0) ck_X0 ck_l0 p16x_207_e
set_option maxRecDepth 100000 in
def p16x_209 : ck_Sum := ((8, 1, 6), 245, [.inr (.inr (.inl 1)), .inl ((-2147483648), (-1), none), .inl (0, 299, none), .inl (0, 299, none), .inl (ck_one 2)], ([], [], [(3, 0, 0, ck_one 3)]), ([], []), [(.inl 3, 245, ([], [], []))])
set_option maxRecDepth 100000 in
theorem p16x_209_e : ck_ok p1_O none [] [(132, [p16x_134])] 167 [] 76 p16x_209 = true := by decide +kernel
theorem p16x_209_s {X : Int → Int} {LX : Nat} : ck_Ok p1_O X LX 167 p16x_209 := ck_ok_s (ck_E1 (ck_S1 p16x_134_s ck_S0) ck_E0) ck_X0 ck_l0 p16x_209_e
set_option maxRecDepth 100000 in
def p16x_210 : ck_Sum := ((9, 1, 6), 245, [.inr (.inr (.inl 1)), .inl ((-2147483648), (-1), none), .inl (0, 299, none), .inl (0, 299, none), .inl (ck_one 2), .inr (.inr (.inl 245))], ([], [], [(3, 0, 0, ck_one 3)]), ([], []), [(.inr (some (.inl (ck_one 1))), 245, ([], [], []))])
set_option maxRecDepth 100000 in
theorem p16x_210_e : ck_ok p1_O none [] [(167, [p16x_209])] 166 [] 92 p16x_210 = true := by decide +kernel
theorem p16x_210_s {X : Int → Int} {LX : Nat} : ck_Ok p1_O X LX 166 p16x_210 := ck_ok_s (ck_E1 (ck_S1 p16x_209_s ck_S0) ck_E0) ck_X0 ck_l0 p16x_210_e
set_option maxRecDepth 100000 in
def p16x_212 : ck_Sum := ((8, 1, 6), 245, [.inr (.inr (.inl 1)), .inl ((-2147483648), (-1), none), .inl (0, 299, none), .inl (0, 299, none), .inl (3, 2147483647, none)], ([], [], [(3, 0, 0, ck_one 3)]), ([], []), [(.inl 3, 245, ([], [], []))])
set_option maxRecDepth 100000 in
theorem p16x_212_e : ck_ok p1_O none [] [(132, [p16x_134])] 167 [] 76 p16x_212 = true := by decide +kernel
theorem p16x_212_s {X : Int → Int} {LX : Nat} : ck_Ok p1_O X LX 167 p16x_212 := ck_ok_s (ck_E1 (ck_S1 p16x_134_s ck_S0) ck_E0) ck_X0 ck_l0 p16x_212_e
set_option maxRecDepth 100000 in
def p16x_213 : ck_Sum := ((9, 1, 6), 245, [.inr (.inr (.inl 1)), .inl ((-2147483648), (-1), none), .inl (0, 299, none), .inl (0, 299, none), .inl (3, 2147483647, none), .inr (.inr (.inl 245))], ([], [], [(3, 0, 0, ck_one 3)]), ([], []), [(.inr (some (.inl (ck_one 1))), 245, ([], [], []))])
set_option maxRecDepth 100000 in
theorem p16x_213_e : ck_ok p1_O none [] [(167, [p16x_212])] 166 [] 92 p16x_213 = true := by decide +kernel
theorem p16x_213_s {X : Int → Int} {LX : Nat} : ck_Ok p1_O X LX 166 p16x_213 := ck_ok_s (ck_E1 (ck_S1 p16x_212_s ck_S0) ck_E0) ck_X0 ck_l0 p16x_213_e
set_option maxRecDepth 100000 in
def p16x_215 : ck_Sum := ((8, 1, 6), 245, [.inr (.inr (.inl 1)), .inl ((-2147483648), (-1), none), .inl (0, 299, none), .inl (300, 2147483647, none), .inl ((-2147483648), (-1), none)], ([], [], [(3, 0, 0, ck_one 3)]), ([], []), [(.inl 3, 245, ([], [], []))])
set_option maxRecDepth 100000 in
theorem p16x_215_e : ck_ok p1_O none [] [(132, [p16x_134])] 167 [] 76 p16x_215 = true := by decide +kernel
theorem p16x_215_s {X : Int → Int} {LX : Nat} : ck_Ok p1_O X LX 167 p16x_215 := ck_ok_s (ck_E1 (ck_S1 p16x_134_s ck_S0) ck_E0) ck_X0 ck_l0 p16x_215_e
set_option maxRecDepth 100000 in
def p16x_216 : ck_Sum := ((9, 1, 6), 245, [.inr (.inr (.inl 1)), .inl ((-2147483648), (-1), none), .inl (0, 299, none), .inl (300, 2147483647, none), .inl ((-2147483648), (-1), none), .inr (.inr (.inl 245))], ([], [], [(3, 0, 0, ck_one 3)]), ([], []), [(.inr (some (.inl (ck_one 1))), 245, ([], [], []))])
set_option maxRecDepth 100000 in
theorem p16x_216_e : ck_ok p1_O none [] [(167, [p16x_215])] 166 [] 92 p16x_216 = true := by decide +kernel
theorem p16x_216_s {X : Int → Int} {LX : Nat} : ck_Ok p1_O X LX 166 p16x_216 := ck_ok_s (ck_E1 (ck_S1 p16x_215_s ck_S0) ck_E0) ck_X0 ck_l0 p16x_216_e
set_option maxRecDepth 100000 in
def p16x_218 : ck_Sum := ((8, 1, 6), 245, [.inr (.inr (.inl 1)), .inl ((-2147483648), (-1), none), .inl (0, 299, none), .inl (300, 2147483647, none), .inl (ck_one 0)], ([], [], [(3, 0, 0, ck_one 3)]), ([], []), [(.inl 3, 245, ([], [], []))])
set_option maxRecDepth 100000 in
theorem p16x_218_e : ck_ok p1_O none [] [(132, [p16x_134])] 167 [] 76 p16x_218 = true := by decide +kernel
theorem p16x_218_s {X : Int → Int} {LX : Nat} : ck_Ok p1_O X LX 167 p16x_218 := ck_ok_s (ck_E1 (ck_S1 p16x_134_s ck_S0) ck_E0) ck_X0 ck_l0 p16x_218_e
set_option maxRecDepth 100000 in
def p16x_219 : ck_Sum := ((9, 1, 6), 245, [.inr (.inr (.inl 1)), .inl ((-2147483648), (-1), none), .inl (0, 299, none), .inl (300, 2147483647, none), .inl (ck_one 0), .inr (.inr (.inl 245))], ([], [], [(3, 0, 0, ck_one 3)]), ([], []), [(.inr (some (.inl (ck_one 1))), 245, ([], [], []))])
set_option maxRecDepth 100000 in
theorem p16x_219_e : ck_ok p1_O none [] [(167, [p16x_218])] 166 [] 92 p16x_219 = true := by decide +kernel
theorem p16x_219_s {X : Int → Int} {LX : Nat} : ck_Ok p1_O X LX 166 p16x_219 := ck_ok_s (ck_E1 (ck_S1 p16x_218_s ck_S0) ck_E0) ck_X0 ck_l0 p16x_219_e
set_option maxRecDepth 100000 in
def p16x_221 : ck_Sum := ((8, 1, 6), 245, [.inr (.inr (.inl 1)), .inl ((-2147483648), (-1), none), .inl (0, 299, none), .inl (300, 2147483647, none), .inl (ck_one 1)], ([], [], [(3, 0, 0, ck_one 3)]), ([], []), [(.inl 3, 245, ([], [], []))])
set_option maxRecDepth 100000 in
theorem p16x_221_e : ck_ok p1_O none [] [(132, [p16x_134])] 167 [] 76 p16x_221 = true := by decide +kernel
theorem p16x_221_s {X : Int → Int} {LX : Nat} : ck_Ok p1_O X LX 167 p16x_221 := ck_ok_s (ck_E1 (ck_S1 p16x_134_s ck_S0) ck_E0) ck_X0 ck_l0 p16x_221_e
set_option maxRecDepth 100000 in
def p16x_222 : ck_Sum := ((9, 1, 6), 245, [.inr (.inr (.inl 1)), .inl ((-2147483648), (-1), none), .inl (0, 299, none), .inl (300, 2147483647, none), .inl (ck_one 1), .inr (.inr (.inl 245))], ([], [], [(3, 0, 0, ck_one 3)]), ([], []), [(.inr (some (.inl (ck_one 1))), 245, ([], [], []))])
set_option maxRecDepth 100000 in
theorem p16x_222_e : ck_ok p1_O none [] [(167, [p16x_221])] 166 [] 92 p16x_222 = true := by decide +kernel
theorem p16x_222_s {X : Int → Int} {LX : Nat} : ck_Ok p1_O X LX 166 p16x_222 := ck_ok_s (ck_E1 (ck_S1 p16x_221_s ck_S0) ck_E0) ck_X0 ck_l0 p16x_222_e
set_option maxRecDepth 100000 in
def p16x_224 : ck_Sum := ((8, 1, 6), 245, [.inr (.inr (.inl 1)), .inl ((-2147483648), (-1), none), .inl (0, 299, none), .inl (300, 2147483647, none), .inl (ck_one 2)], ([], [], [(3, 0, 0, ck_one 3)]), ([], []), [(.inl 3, 245, ([], [], []))])
set_option maxRecDepth 100000 in
theorem p16x_224_e : ck_ok p1_O none [] [(132, [p16x_134])] 167 [] 76 p16x_224 = true := by decide +kernel
theorem p16x_224_s {X : Int → Int} {LX : Nat} : ck_Ok p1_O X LX 167 p16x_224 := ck_ok_s (ck_E1 (ck_S1 p16x_134_s ck_S0) ck_E0) ck_X0 ck_l0 p16x_224_e
set_option maxRecDepth 100000 in
def p16x_225 : ck_Sum := ((9, 1, 6), 245, [.inr (.inr (.inl 1)), .inl ((-2147483648), (-1), none), .inl (0, 299, none), .inl (300, 2147483647, none), .inl (ck_one 2), .inr (.inr (.inl 245))], ([], [], [(3, 0, 0, ck_one 3)]), ([], []), [(.inr (some (.inl (ck_one 1))), 245, ([], [], []))])
set_option maxRecDepth 100000 in
theorem p16x_225_e : ck_ok p1_O none [] [(167, [p16x_224])] 166 [] 92 p16x_225 = true := by decide +kernel
theorem p16x_225_s {X : Int → Int} {LX : Nat} : ck_Ok p1_O X LX 166 p16x_225 := ck_ok_s (ck_E1 (ck_S1 p16x_224_s ck_S0) ck_E0) ck_X0 ck_l0 p16x_225_e
set_option maxRecDepth 100000 in
def p16x_227 : ck_Sum := ((8, 1, 6), 245, [.inr (.inr (.inl 1)), .inl ((-2147483648), (-1), none), .inl (0, 299, none), .inl (300, 2147483647, none), .inl (3, 2147483647, none)], ([], [], [(3, 0, 0, ck_one 3)]), ([], []), [(.inl 3, 245, ([], [], []))])
set_option maxRecDepth 100000 in
theorem p16x_227_e : ck_ok p1_O none [] [(132, [p16x_134])] 167 [] 76 p16x_227 = true := by decide +kernel
theorem p16x_227_s {X : Int → Int} {LX : Nat} : ck_Ok p1_O X LX 167 p16x_227 := ck_ok_s (ck_E1 (ck_S1 p16x_134_s ck_S0) ck_E0) ck_X0 ck_l0 p16x_227_e
set_option maxRecDepth 100000 in
def p16x_228 : ck_Sum := ((9, 1, 6), 245, [.inr (.inr (.inl 1)), .inl ((-2147483648), (-1), none), .inl (0, 299, none), .inl (300, 2147483647, none), .inl (3, 2147483647, none), .inr (.inr (.inl 245))], ([], [], [(3, 0, 0, ck_one 3)]), ([], []), [(.inr (some (.inl (ck_one 1))), 245, ([], [], []))])
set_option maxRecDepth 100000 in
theorem p16x_228_e : ck_ok p1_O none [] [(167, [p16x_227])] 166 [] 92 p16x_228 = true := by decide +kernel
theorem p16x_228_s {X : Int → Int} {LX : Nat} : ck_Ok p1_O X LX 166 p16x_228 := ck_ok_s (ck_E1 (ck_S1 p16x_227_s ck_S0) ck_E0) ck_X0 ck_l0 p16x_228_e
set_option maxRecDepth 100000 in
def p16x_230 : ck_Sum := ((8, 1, 6), 245, [.inr (.inr (.inl 1)), .inl ((-2147483648), (-1), none), .inl (300, 2147483647, none), .inl ((-2147483648), (-1), none), .inl ((-2147483648), (-1), none)], ([], [], [(3, 0, 0, ck_one 3)]), ([], []), [(.inl 3, 245, ([], [], []))])
set_option maxRecDepth 100000 in
theorem p16x_230_e : ck_ok p1_O none [] [(132, [p16x_134])] 167 [] 76 p16x_230 = true := by decide +kernel
theorem p16x_230_s {X : Int → Int} {LX : Nat} : ck_Ok p1_O X LX 167 p16x_230 := ck_ok_s (ck_E1 (ck_S1 p16x_134_s ck_S0) ck_E0) ck_X0 ck_l0 p16x_230_e
set_option maxRecDepth 100000 in
def p16x_231 : ck_Sum := ((9, 1, 6), 245, [.inr (.inr (.inl 1)), .inl ((-2147483648), (-1), none), .inl (300, 2147483647, none), .inl ((-2147483648), (-1), none), .inl ((-2147483648), (-1), none), .inr (.inr (.inl 245))], ([], [], [(3, 0, 0, ck_one 3)]), ([], []), [(.inr (some (.inl (ck_one 1))), 245, ([], [], []))])
set_option maxRecDepth 100000 in
theorem p16x_231_e : ck_ok p1_O none [] [(167, [p16x_230])] 166 [] 92 p16x_231 = true := by decide +kernel
theorem p16x_231_s {X : Int → Int} {LX : Nat} : ck_Ok p1_O X LX 166 p16x_231 := ck_ok_s (ck_E1 (ck_S1 p16x_230_s ck_S0) ck_E0) ck_X0 ck_l0 p16x_231_e
set_option maxRecDepth 100000 in
def p16x_233 : ck_Sum := ((8, 1, 6), 245, [.inr (.inr (.inl 1)), .inl ((-2147483648), (-1), none), .inl (300, 2147483647, none), .inl ((-2147483648), (-1), none), .inl (ck_one 0)], ([], [], [(3, 0, 0, ck_one 3)]), ([], []), [(.inl 3, 245, ([], [], []))])
set_option maxRecDepth 100000 in
theorem p16x_233_e : ck_ok p1_O none [] [(132, [p16x_134])] 167 [] 76 p16x_233 = true := by decide +kernel
theorem p16x_233_s {X : Int → Int} {LX : Nat} : ck_Ok p1_O X LX 167 p16x_233 := ck_ok_s (ck_E1 (ck_S1 p16x_134_s ck_S0) ck_E0) ck_X0 ck_l0 p16x_233_e
set_option maxRecDepth 100000 in
def p16x_234 : ck_Sum := ((9, 1, 6), 245, [.inr (.inr (.inl 1)), .inl ((-2147483648), (-1), none), .inl (300, 2147483647, none), .inl ((-2147483648), (-1), none), .inl (ck_one 0), .inr (.inr (.inl 245))], ([], [], [(3, 0, 0, ck_one 3)]), ([], []), [(.inr (some (.inl (ck_one 1))), 245, ([], [], []))])
set_option maxRecDepth 100000 in
theorem p16x_234_e : ck_ok p1_O none [] [(167, [p16x_233])] 166 [] 92 p16x_234 = true := by decide +kernel
theorem p16x_234_s {X : Int → Int} {LX : Nat} : ck_Ok p1_O X LX 166 p16x_234 := ck_ok_s (ck_E1 (ck_S1 p16x_233_s ck_S0) ck_E0) ck_X0 ck_l0 p16x_234_e
set_option maxRecDepth 100000 in
def p16x_236 : ck_Sum := ((8, 1, 6), 245, [.inr (.inr (.inl 1)), .inl ((-2147483648), (-1), none), .inl (300, 2147483647, none), .inl ((-2147483648), (-1), none), .inl (ck_one 1)], ([], [], [(3, 0, 0, ck_one 3)]), ([], []), [(.inl 3, 245, ([], [], []))])
set_option maxRecDepth 100000 in
theorem p16x_236_e : ck_ok p1_O none [] [(132, [p16x_134])] 167 [] 76 p16x_236 = true := by decide +kernel
theorem p16x_236_s {X : Int → Int} {LX : Nat} : ck_Ok p1_O X LX 167 p16x_236 := ck_ok_s (ck_E1 (ck_S1 p16x_134_s ck_S0) ck_E0) ck_X0 ck_l0 p16x_236_e
set_option maxRecDepth 100000 in
def p16x_237 : ck_Sum := ((9, 1, 6), 245, [.inr (.inr (.inl 1)), .inl ((-2147483648), (-1), none), .inl (300, 2147483647, none), .inl ((-2147483648), (-1), none), .inl (ck_one 1), .inr (.inr (.inl 245))], ([], [], [(3, 0, 0, ck_one 3)]), ([], []), [(.inr (some (.inl (ck_one 1))), 245, ([], [], []))])
set_option maxRecDepth 100000 in
theorem p16x_237_e : ck_ok p1_O none [] [(167, [p16x_236])] 166 [] 92 p16x_237 = true := by decide +kernel
theorem p16x_237_s {X : Int → Int} {LX : Nat} : ck_Ok p1_O X LX 166 p16x_237 := ck_ok_s (ck_E1 (ck_S1 p16x_236_s ck_S0) ck_E0) ck_X0 ck_l0 p16x_237_e
set_option maxRecDepth 100000 in
def p16x_239 : ck_Sum := ((8, 1, 6), 245, [.inr (.inr (.inl 1)), .inl ((-2147483648), (-1), none), .inl (300, 2147483647, none), .inl ((-2147483648), (-1), none), .inl (ck_one 2)], ([], [], [(3, 0, 0, ck_one 3)]), ([], []), [(.inl 3, 245, ([], [], []))])
set_option maxRecDepth 100000 in
theorem p16x_239_e : ck_ok p1_O none [] [(132, [p16x_134])] 167 [] 76 p16x_239 = true := by decide +kernel
theorem p16x_239_s {X : Int → Int} {LX : Nat} : ck_Ok p1_O X LX 167 p16x_239 := ck_ok_s (ck_E1 (ck_S1 p16x_134_s ck_S0) ck_E0) ck_X0 ck_l0 p16x_239_e
set_option maxRecDepth 100000 in
def p16x_240 : ck_Sum := ((9, 1, 6), 245, [.inr (.inr (.inl 1)), .inl ((-2147483648), (-1), none), .inl (300, 2147483647, none), .inl ((-2147483648), (-1), none), .inl (ck_one 2), .inr (.inr (.inl 245))], ([], [], [(3, 0, 0, ck_one 3)]), ([], []), [(.inr (some (.inl (ck_one 1))), 245, ([], [], []))])
set_option maxRecDepth 100000 in
theorem p16x_240_e : ck_ok p1_O none [] [(167, [p16x_239])] 166 [] 92 p16x_240 = true := by decide +kernel
theorem p16x_240_s {X : Int → Int} {LX : Nat} : ck_Ok p1_O X LX 166 p16x_240 := ck_ok_s (ck_E1 (ck_S1 p16x_239_s ck_S0) ck_E0) ck_X0 ck_l0 p16x_240_e
set_option maxRecDepth 100000 in
def p16x_242 : ck_Sum := ((8, 1, 6), 245, [.inr (.inr (.inl 1)), .inl ((-2147483648), (-1), none), .inl (300, 2147483647, none), .inl ((-2147483648), (-1), none), .inl (3, 2147483647, none)], ([], [], [(3, 0, 0, ck_one 3)]), ([], []), [(.inl 3, 245, ([], [], []))])
set_option maxRecDepth 100000 in
theorem p16x_242_e : ck_ok p1_O none [] [(132, [p16x_134])] 167 [] 76 p16x_242 = true := by decide +kernel
theorem p16x_242_s {X : Int → Int} {LX : Nat} : ck_Ok p1_O X LX 167 p16x_242 := ck_ok_s (ck_E1 (ck_S1 p16x_134_s ck_S0) ck_E0) ck_X0 ck_l0 p16x_242_e
set_option maxRecDepth 100000 in
def p16x_243 : ck_Sum := ((9, 1, 6), 245, [.inr (.inr (.inl 1)), .inl ((-2147483648), (-1), none), .inl (300, 2147483647, none), .inl ((-2147483648), (-1), none), .inl (3, 2147483647, none), .inr (.inr (.inl 245))], ([], [], [(3, 0, 0, ck_one 3)]), ([], []), [(.inr (some (.inl (ck_one 1))), 245, ([], [], []))])
set_option maxRecDepth 100000 in
theorem p16x_243_e : ck_ok p1_O none [] [(167, [p16x_242])] 166 [] 92 p16x_243 = true := by decide +kernel
theorem p16x_243_s {X : Int → Int} {LX : Nat} : ck_Ok p1_O X LX 166 p16x_243 := ck_ok_s (ck_E1 (ck_S1 p16x_242_s ck_S0) ck_E0) ck_X0 ck_l0 p16x_243_e
set_option maxRecDepth 100000 in
def p16x_245 : ck_Sum := ((8, 1, 6), 245, [.inr (.inr (.inl 1)), .inl ((-2147483648), (-1), none), .inl (300, 2147483647, none), .inl (0, 299, none), .inl ((-2147483648), (-1), none)], ([], [], [(3, 0, 0, ck_one 3)]), ([], []), [(.inl 3, 245, ([], [], []))])
set_option maxRecDepth 100000 in
theorem p16x_245_e : ck_ok p1_O none [] [(132, [p16x_134])] 167 [] 76 p16x_245 = true := by decide +kernel
theorem p16x_245_s {X : Int → Int} {LX : Nat} : ck_Ok p1_O X LX 167 p16x_245 := ck_ok_s (ck_E1 (ck_S1 p16x_134_s ck_S0) ck_E0) ck_X0 ck_l0 p16x_245_e
set_option maxRecDepth 100000 in
def p16x_246 : ck_Sum := ((9, 1, 6), 245, [.inr (.inr (.inl 1)), .inl ((-2147483648), (-1), none), .inl (300, 2147483647, none), .inl (0, 299, none), .inl ((-2147483648), (-1), none), .inr (.inr (.inl 245))], ([], [], [(3, 0, 0, ck_one 3)]), ([], []), [(.inr (some (.inl (ck_one 1))), 245, ([], [], []))])
set_option maxRecDepth 100000 in
theorem p16x_246_e : ck_ok p1_O none [] [(167, [p16x_245])] 166 [] 92 p16x_246 = true := by decide +kernel
theorem p16x_246_s {X : Int → Int} {LX : Nat} : ck_Ok p1_O X LX 166 p16x_246 := ck_ok_s (ck_E1 (ck_S1 p16x_245_s ck_S0) ck_E0) ck_X0 ck_l0 p16x_246_e
set_option maxRecDepth 100000 in
def p16x_248 : ck_Sum := ((8, 1, 6), 245, [.inr (.inr (.inl 1)), .inl ((-2147483648), (-1), none), .inl (300, 2147483647, none), .inl (0, 299, none), .inl (ck_one 0)], ([], [], [(3, 0, 0, ck_one 3)]), ([], []), [(.inl 3, 245, ([], [], []))])
set_option maxRecDepth 100000 in
theorem p16x_248_e : ck_ok p1_O none [] [(132, [p16x_134])] 167 [] 76 p16x_248 = true := by decide +kernel
theorem p16x_248_s {X : Int → Int} {LX : Nat} : ck_Ok p1_O X LX 167 p16x_248 := ck_ok_s (ck_E1 (ck_S1 p16x_134_s ck_S0) ck_E0) ck_X0 ck_l0 p16x_248_e
set_option maxRecDepth 100000 in
def p16x_249 : ck_Sum := ((9, 1, 6), 245, [.inr (.inr (.inl 1)), .inl ((-2147483648), (-1), none), .inl (300, 2147483647, none), .inl (0, 299, none), .inl (ck_one 0), .inr (.inr (.inl 245))], ([], [], [(3, 0, 0, ck_one 3)]), ([], []), [(.inr (some (.inl (ck_one 1))), 245, ([], [], []))])
set_option maxRecDepth 100000 in
theorem p16x_249_e : ck_ok p1_O none [] [(167, [p16x_248])] 166 [] 92 p16x_249 = true := by decide +kernel
theorem p16x_249_s {X : Int → Int} {LX : Nat} : ck_Ok p1_O X LX 166 p16x_249 := ck_ok_s (ck_E1 (ck_S1 p16x_248_s ck_S0) ck_E0) ck_X0 ck_l0 p16x_249_e
set_option maxRecDepth 100000 in
def p16x_251 : ck_Sum := ((8, 1, 6), 245, [.inr (.inr (.inl 1)), .inl ((-2147483648), (-1), none), .inl (300, 2147483647, none), .inl (0, 299, none), .inl (ck_one 1)], ([], [], [(3, 0, 0, ck_one 3)]), ([], []), [(.inl 3, 245, ([], [], []))])
set_option maxRecDepth 100000 in
theorem p16x_251_e : ck_ok p1_O none [] [(132, [p16x_134])] 167 [] 76 p16x_251 = true := by decide +kernel
theorem p16x_251_s {X : Int → Int} {LX : Nat} : ck_Ok p1_O X LX 167 p16x_251 := ck_ok_s (ck_E1 (ck_S1 p16x_134_s ck_S0) ck_E0) ck_X0 ck_l0 p16x_251_e
set_option maxRecDepth 100000 in
def p16x_252 : ck_Sum := ((9, 1, 6), 245, [.inr (.inr (.inl 1)), .inl ((-2147483648), (-1), none), .inl (300, 2147483647, none), .inl (0, 299, none), .inl (ck_one 1), .inr (.inr (.inl 245))], ([], [], [(3, 0, 0, ck_one 3)]), ([], []), [(.inr (some (.inl (ck_one 1))), 245, ([], [], []))])
set_option maxRecDepth 100000 in
theorem p16x_252_e : ck_ok p1_O none [] [(167, [p16x_251])] 166 [] 92 p16x_252 = true := by decide +kernel
theorem p16x_252_s {X : Int → Int} {LX : Nat} : ck_Ok p1_O X LX 166 p16x_252 := ck_ok_s (ck_E1 (ck_S1 p16x_251_s ck_S0) ck_E0) ck_X0 ck_l0 p16x_252_e
set_option maxRecDepth 100000 in
def p16x_254 : ck_Sum := ((8, 1, 6), 245, [.inr (.inr (.inl 1)), .inl ((-2147483648), (-1), none), .inl (300, 2147483647, none), .inl (0, 299, none), .inl (ck_one 2)], ([], [], [(3, 0, 0, ck_one 3)]), ([], []), [(.inl 3, 245, ([], [], []))])
set_option maxRecDepth 100000 in
theorem p16x_254_e : ck_ok p1_O none [] [(132, [p16x_134])] 167 [] 76 p16x_254 = true := by decide +kernel
theorem p16x_254_s {X : Int → Int} {LX : Nat} : ck_Ok p1_O X LX 167 p16x_254 := ck_ok_s (ck_E1 (ck_S1 p16x_134_s ck_S0) ck_E0) ck_X0 ck_l0 p16x_254_e
set_option maxRecDepth 100000 in
def p16x_255 : ck_Sum := ((9, 1, 6), 245, [.inr (.inr (.inl 1)), .inl ((-2147483648), (-1), none), .inl (300, 2147483647, none), .inl (0, 299, none), .inl (ck_one 2), .inr (.inr (.inl 245))], ([], [], [(3, 0, 0, ck_one 3)]), ([], []), [(.inr (some (.inl (ck_one 1))), 245, ([], [], []))])
set_option maxRecDepth 100000 in
theorem p16x_255_e : ck_ok p1_O none [] [(167, [p16x_254])] 166 [] 92 p16x_255 = true := by decide +kernel
theorem p16x_255_s {X : Int → Int} {LX : Nat} : ck_Ok p1_O X LX 166 p16x_255 := ck_ok_s (ck_E1 (ck_S1 p16x_254_s ck_S0) ck_E0) ck_X0 ck_l0 p16x_255_e
set_option maxRecDepth 100000 in
def p16x_257 : ck_Sum := ((8, 1, 6), 245, [.inr (.inr (.inl 1)), .inl ((-2147483648), (-1), none), .inl (300, 2147483647, none), .inl (0, 299, none), .inl (3, 2147483647, none)], ([], [], [(3, 0, 0, ck_one 3)]), ([], []), [(.inl 3, 245, ([], [], []))])
set_option maxRecDepth 100000 in
theorem p16x_257_e : ck_ok p1_O none [] [(132, [p16x_134])] 167 [] 76 p16x_257 = true := by decide +kernel
theorem p16x_257_s {X : Int → Int} {LX : Nat} : ck_Ok p1_O X LX 167 p16x_257 := ck_ok_s (ck_E1 (ck_S1 p16x_134_s ck_S0) ck_E0) ck_X0 ck_l0 p16x_257_e
set_option maxRecDepth 100000 in
def p16x_258 : ck_Sum := ((9, 1, 6), 245, [.inr (.inr (.inl 1)), .inl ((-2147483648), (-1), none), .inl (300, 2147483647, none), .inl (0, 299, none), .inl (3, 2147483647, none), .inr (.inr (.inl 245))], ([], [], [(3, 0, 0, ck_one 3)]), ([], []), [(.inr (some (.inl (ck_one 1))), 245, ([], [], []))])
set_option maxRecDepth 100000 in
theorem p16x_258_e : ck_ok p1_O none [] [(167, [p16x_257])] 166 [] 92 p16x_258 = true := by decide +kernel
theorem p16x_258_s {X : Int → Int} {LX : Nat} : ck_Ok p1_O X LX 166 p16x_258 := ck_ok_s (ck_E1 (ck_S1 p16x_257_s ck_S0) ck_E0) ck_X0 ck_l0 p16x_258_e
set_option maxRecDepth 100000 in
def p16x_260 : ck_Sum := ((8, 1, 6), 245, [.inr (.inr (.inl 1)), .inl ((-2147483648), (-1), none), .inl (300, 2147483647, none), .inl (300, 2147483647, none), .inl ((-2147483648), (-1), none)], ([], [], [(3, 0, 0, ck_one 3)]), ([], []), [(.inl 3, 245, ([], [], []))])
set_option maxRecDepth 100000 in
theorem p16x_260_e : ck_ok p1_O none [] [(132, [p16x_134])] 167 [] 76 p16x_260 = true := by decide +kernel
theorem p16x_260_s {X : Int → Int} {LX : Nat} : ck_Ok p1_O X LX 167 p16x_260 := ck_ok_s (ck_E1 (ck_S1 p16x_134_s ck_S0) ck_E0) ck_X0 ck_l0 p16x_260_e
set_option maxRecDepth 100000 in
def p16x_261 : ck_Sum := ((9, 1, 6), 245, [.inr (.inr (.inl 1)), .inl ((-2147483648), (-1), none), .inl (300, 2147483647, none), .inl (300, 2147483647, none), .inl ((-2147483648), (-1), none), .inr (.inr (.inl 245))], ([], [], [(3, 0, 0, ck_one 3)]), ([], []), [(.inr (some (.inl (ck_one 1))), 245, ([], [], []))])
set_option maxRecDepth 100000 in
theorem p16x_261_e : ck_ok p1_O none [] [(167, [p16x_260])] 166 [] 92 p16x_261 = true := by decide +kernel
theorem p16x_261_s {X : Int → Int} {LX : Nat} : ck_Ok p1_O X LX 166 p16x_261 := ck_ok_s (ck_E1 (ck_S1 p16x_260_s ck_S0) ck_E0) ck_X0 ck_l0 p16x_261_e
set_option maxRecDepth 100000 in
def p16x_263 : ck_Sum := ((8, 1, 6), 245, [.inr (.inr (.inl 1)), .inl ((-2147483648), (-1), none), .inl (300, 2147483647, none), .inl (300, 2147483647, none), .inl (ck_one 0)], ([], [], [(3, 0, 0, ck_one 3)]), ([], []), [(.inl 3, 245, ([], [], []))])
set_option maxRecDepth 100000 in
theorem p16x_263_e : ck_ok p1_O none [] [(132, [p16x_134])] 167 [] 76 p16x_263 = true := by decide +kernel
theorem p16x_263_s {X : Int → Int} {LX : Nat} : ck_Ok p1_O X LX 167 p16x_263 := ck_ok_s (ck_E1 (ck_S1 p16x_134_s ck_S0) ck_E0) ck_X0 ck_l0 p16x_263_e
set_option maxRecDepth 100000 in
def p16x_264 : ck_Sum := ((9, 1, 6), 245, [.inr (.inr (.inl 1)), .inl ((-2147483648), (-1), none), .inl (300, 2147483647, none), .inl (300, 2147483647, none), .inl (ck_one 0), .inr (.inr (.inl 245))], ([], [], [(3, 0, 0, ck_one 3)]), ([], []), [(.inr (some (.inl (ck_one 1))), 245, ([], [], []))])
set_option maxRecDepth 100000 in
theorem p16x_264_e : ck_ok p1_O none [] [(167, [p16x_263])] 166 [] 92 p16x_264 = true := by decide +kernel
theorem p16x_264_s {X : Int → Int} {LX : Nat} : ck_Ok p1_O X LX 166 p16x_264 := ck_ok_s (ck_E1 (ck_S1 p16x_263_s ck_S0) ck_E0) ck_X0 ck_l0 p16x_264_e
set_option maxRecDepth 100000 in
def p16x_266 : ck_Sum := ((8, 1, 6), 245, [.inr (.inr (.inl 1)), .inl ((-2147483648), (-1), none), .inl (300, 2147483647, none), .inl (300, 2147483647, none), .inl (ck_one 1)], ([], [], [(3, 0, 0, ck_one 3)]), ([], []), [(.inl 3, 245, ([], [], []))])
set_option maxRecDepth 100000 in
theorem p16x_266_e : ck_ok p1_O none [] [(132, [p16x_134])] 167 [] 76 p16x_266 = true := by decide +kernel
theorem p16x_266_s {X : Int → Int} {LX : Nat} : ck_Ok p1_O X LX 167 p16x_266 := ck_ok_s (ck_E1 (ck_S1 p16x_134_s ck_S0) ck_E0) ck_X0 ck_l0 p16x_266_e
set_option maxRecDepth 100000 in
def p16x_267 : ck_Sum := ((9, 1, 6), 245, [.inr (.inr (.inl 1)), .inl ((-2147483648), (-1), none), .inl (300, 2147483647, none), .inl (300, 2147483647, none), .inl (ck_one 1), .inr (.inr (.inl 245))], ([], [], [(3, 0, 0, ck_one 3)]), ([], []), [(.inr (some (.inl (ck_one 1))), 245, ([], [], []))])
set_option maxRecDepth 100000 in
theorem p16x_267_e : ck_ok p1_O none [] [(167, [p16x_266])] 166 [] 92 p16x_267 = true := by decide +kernel
theorem p16x_267_s {X : Int → Int} {LX : Nat} : ck_Ok p1_O X LX 166 p16x_267 := ck_ok_s (ck_E1 (ck_S1 p16x_266_s ck_S0) ck_E0) ck_X0 ck_l0 p16x_267_e
set_option maxRecDepth 100000 in
def p16x_269 : ck_Sum := ((8, 1, 6), 245, [.inr (.inr (.inl 1)), .inl ((-2147483648), (-1), none), .inl (300, 2147483647, none), .inl (300, 2147483647, none), .inl (ck_one 2)], ([], [], [(3, 0, 0, ck_one 3)]), ([], []), [(.inl 3, 245, ([], [], []))])
set_option maxRecDepth 100000 in
theorem p16x_269_e : ck_ok p1_O none [] [(132, [p16x_134])] 167 [] 76 p16x_269 = true := by decide +kernel
theorem p16x_269_s {X : Int → Int} {LX : Nat} : ck_Ok p1_O X LX 167 p16x_269 := ck_ok_s (ck_E1 (ck_S1 p16x_134_s ck_S0) ck_E0) ck_X0 ck_l0 p16x_269_e
set_option maxRecDepth 100000 in
def p16x_270 : ck_Sum := ((9, 1, 6), 245, [.inr (.inr (.inl 1)), .inl ((-2147483648), (-1), none), .inl (300, 2147483647, none), .inl (300, 2147483647, none), .inl (ck_one 2), .inr (.inr (.inl 245))], ([], [], [(3, 0, 0, ck_one 3)]), ([], []), [(.inr (some (.inl (ck_one 1))), 245, ([], [], []))])
set_option maxRecDepth 100000 in
theorem p16x_270_e : ck_ok p1_O none [] [(167, [p16x_269])] 166 [] 92 p16x_270 = true := by decide +kernel
theorem p16x_270_s {X : Int → Int} {LX : Nat} : ck_Ok p1_O X LX 166 p16x_270 := ck_ok_s (ck_E1 (ck_S1 p16x_269_s ck_S0) ck_E0) ck_X0 ck_l0 p16x_270_e
set_option maxRecDepth 100000 in
def p16x_272 : ck_Sum := ((8, 1, 6), 245, [.inr (.inr (.inl 1)), .inl ((-2147483648), (-1), none), .inl (300, 2147483647, none), .inl (300, 2147483647, none), .inl (3, 2147483647, none)], ([], [], [(3, 0, 0, ck_one 3)]), ([], []), [(.inl 3, 245, ([], [], []))])
set_option maxRecDepth 100000 in
theorem p16x_272_e : ck_ok p1_O none [] [(132, [p16x_134])] 167 [] 76 p16x_272 = true := by decide +kernel
theorem p16x_272_s {X : Int → Int} {LX : Nat} : ck_Ok p1_O X LX 167 p16x_272 := ck_ok_s (ck_E1 (ck_S1 p16x_134_s ck_S0) ck_E0) ck_X0 ck_l0 p16x_272_e
set_option maxRecDepth 100000 in
def p16x_273 : ck_Sum := ((9, 1, 6), 245, [.inr (.inr (.inl 1)), .inl ((-2147483648), (-1), none), .inl (300, 2147483647, none), .inl (300, 2147483647, none), .inl (3, 2147483647, none), .inr (.inr (.inl 245))], ([], [], [(3, 0, 0, ck_one 3)]), ([], []), [(.inr (some (.inl (ck_one 1))), 245, ([], [], []))])
set_option maxRecDepth 100000 in
theorem p16x_273_e : ck_ok p1_O none [] [(167, [p16x_272])] 166 [] 92 p16x_273 = true := by decide +kernel
theorem p16x_273_s {X : Int → Int} {LX : Nat} : ck_Ok p1_O X LX 166 p16x_273 := ck_ok_s (ck_E1 (ck_S1 p16x_272_s ck_S0) ck_E0) ck_X0 ck_l0 p16x_273_e
set_option maxRecDepth 100000 in
def p16x_275 : ck_Sum := ((0, 0, 0), 245, [.inr (.inr (.inl 1)), .inl (0, 2, none), .inl (ck_one 3)], ([], [], []), ([], []), [(.inr none, 245, ([], [], []))])
set_option maxRecDepth 100000 in
theorem p16x_275_e : ck_ok p1_O none [] [] 133 [] 82 p16x_275 = true := by decide +kernel
theorem p16x_275_s {X : Int → Int} {LX : Nat} : ck_Ok p1_O X LX 133 p16x_275 := ck_ok_s (ck_E0) ck_X0 ck_l0 p16x_275_e
set_option maxRecDepth 100000 in
def p16x_276 : ck_Sum := ((1, 0, 0), 245, [.inr (.inr (.inl 1)), .inl (0, 2, none)], ([], [], [(3, 0, 0, ck_one 3)]), ([], []), [(.inr none, 245, ([], [], []))])
set_option maxRecDepth 100000 in
theorem p16x_276_e : ck_ok p1_O none [] [(133, [p16x_275])] 132 [] 84 p16x_276 = true := by decide +kernel
theorem p16x_276_s {X : Int → Int} {LX : Nat} : ck_Ok p1_O X LX 132 p16x_276 := ck_ok_s (ck_E1 (ck_S1 p16x_275_s ck_S0) ck_E0) ck_X0 ck_l0 p16x_276_e
set_option maxRecDepth 100000 in
def p16x_277 : ck_Sum := ((6, 1, 6), 245, [.inr (.inr (.inl 1)), .inl ((-2147483648), (-1), none)], ([], [], []), ([], []), [(.inl 0, 245, ([], [], []))])
set_option maxRecDepth 100000 in
theorem p16x_277_e : ck_ok p1_O none [] [] 129 [] 76 p16x_277 = true := by decide +kernel
theorem p16x_277_s {X : Int → Int} {LX : Nat} : ck_Ok p1_O X LX 129 p16x_277 := ck_ok_s (ck_E0) ck_X0 ck_l0 p16x_277_e
set_option maxRecDepth 100000 in
def p16x_278 : ck_Sum := ((7, 1, 6), 245, [.inr (.inr (.inl 1)), .inl (0, 2, none), .inl ((-2147483648), (-1), none), .inl ((-2147483648), (-1), none), .inl ((-2147483648), (-1), none)], ([], [], [(3, 0, 0, ck_one 3)]), ([], []), [(.inl 0, 245, ([], [], []))])
set_option maxRecDepth 100000 in
theorem p16x_278_e : ck_ok p1_O none [] [(132, [p16x_276]), (129, [p16x_277])] 167 [] 82 p16x_278 = true := by decide +kernel
theorem p16x_278_s {X : Int → Int} {LX : Nat} : ck_Ok p1_O X LX 167 p16x_278 := ck_ok_s (ck_E1 (ck_S1 p16x_276_s ck_S0) (ck_E1 (ck_S1 p16x_277_s ck_S0) ck_E0)) ck_X0 ck_l0 p16x_278_e
set_option maxRecDepth 100000 in
def p16x_279 : ck_Sum := ((8, 1, 6), 245, [.inr (.inr (.inl 1)), .inl (0, 2, none), .inl ((-2147483648), (-1), none), .inl ((-2147483648), (-1), none), .inl ((-2147483648), (-1), none), .inr (.inr (.inl 245))], ([], [], [(3, 0, 0, ck_one 3)]), ([], []), [(.inr (some (.inl (ck_one 2))), 245, ([], [], []))])
set_option maxRecDepth 100000 in
theorem p16x_279_e : ck_ok p1_O none [] [(167, [p16x_278])] 166 [] 92 p16x_279 = true := by decide +kernel
theorem p16x_279_s {X : Int → Int} {LX : Nat} : ck_Ok p1_O X LX 166 p16x_279 := ck_ok_s (ck_E1 (ck_S1 p16x_278_s ck_S0) ck_E0) ck_X0 ck_l0 p16x_279_e
set_option maxRecDepth 100000 in
def p16x_288 : ck_Sum := ((7, 1, 6), 245, [.inr (.inr (.inl 1)), .inl (0, 2, none), .inl ((-2147483648), (-1), none), .inl ((-2147483648), (-1), none), .inl (ck_one 0)], ([], [], [(3, 0, 0, ck_one 3)]), ([], []), [(.inl 0, 245, ([], [], []))])
set_option maxRecDepth 100000 in
theorem p16x_288_e : ck_ok p1_O none [] [(132, [p16x_276]), (129, [p16x_277])] 167 [] 82 p16x_288 = true := by decide +kernel
theorem p16x_288_s {X : Int → Int} {LX : Nat} : ck_Ok p1_O X LX 167 p16x_288 := ck_ok_s (ck_E1 (ck_S1 p16x_276_s ck_S0) (ck_E1 (ck_S1 p16x_277_s ck_S0) ck_E0)) ck_X0 ck_l0 p16x_288_e
set_option maxRecDepth 100000 in
def p16x_289 : ck_Sum := ((8, 1, 6), 245, [.inr (.inr (.inl 1)), .inl (0, 2, none), .inl ((-2147483648), (-1), none), .inl ((-2147483648), (-1), none), .inl (ck_one 0), .inr (.inr (.inl 245))], ([], [], [(3, 0, 0, ck_one 3)]), ([], []), [(.inr (some (.inl (ck_one 2))), 245, ([], [], []))])
set_option maxRecDepth 100000 in
theorem p16x_289_e : ck_ok p1_O none [] [(167, [p16x_288])] 166 [] 92 p16x_289 = true := by decide +kernel
theorem p16x_289_s {X : Int → Int} {LX : Nat} : ck_Ok p1_O X LX 166 p16x_289 := ck_ok_s (ck_E1 (ck_S1 p16x_288_s ck_S0) ck_E0) ck_X0 ck_l0 p16x_289_e
set_option maxRecDepth 100000 in
def p16x_291 : ck_Sum := ((7, 1, 6), 245, [.inr (.inr (.inl 1)), .inl (0, 2, none), .inl ((-2147483648), (-1), none), .inl ((-2147483648), (-1), none), .inl (ck_one 1)], ([], [], [(3, 0, 0, ck_one 3)]), ([], []), [(.inl 0, 245, ([], [], []))])
set_option maxRecDepth 100000 in
theorem p16x_291_e : ck_ok p1_O none [] [(132, [p16x_276]), (129, [p16x_277])] 167 [] 82 p16x_291 = true := by decide +kernel
theorem p16x_291_s {X : Int → Int} {LX : Nat} : ck_Ok p1_O X LX 167 p16x_291 := ck_ok_s (ck_E1 (ck_S1 p16x_276_s ck_S0) (ck_E1 (ck_S1 p16x_277_s ck_S0) ck_E0)) ck_X0 ck_l0 p16x_291_e
set_option maxRecDepth 100000 in
def p16x_292 : ck_Sum := ((8, 1, 6), 245, [.inr (.inr (.inl 1)), .inl (0, 2, none), .inl ((-2147483648), (-1), none), .inl ((-2147483648), (-1), none), .inl (ck_one 1), .inr (.inr (.inl 245))], ([], [], [(3, 0, 0, ck_one 3)]), ([], []), [(.inr (some (.inl (ck_one 2))), 245, ([], [], []))])
set_option maxRecDepth 100000 in
theorem p16x_292_e : ck_ok p1_O none [] [(167, [p16x_291])] 166 [] 92 p16x_292 = true := by decide +kernel
theorem p16x_292_s {X : Int → Int} {LX : Nat} : ck_Ok p1_O X LX 166 p16x_292 := ck_ok_s (ck_E1 (ck_S1 p16x_291_s ck_S0) ck_E0) ck_X0 ck_l0 p16x_292_e
set_option maxRecDepth 100000 in
def p16x_294 : ck_Sum := ((7, 1, 6), 245, [.inr (.inr (.inl 1)), .inl (0, 2, none), .inl ((-2147483648), (-1), none), .inl ((-2147483648), (-1), none), .inl (ck_one 2)], ([], [], [(3, 0, 0, ck_one 3)]), ([], []), [(.inl 0, 245, ([], [], []))])
set_option maxRecDepth 100000 in
theorem p16x_294_e : ck_ok p1_O none [] [(132, [p16x_276]), (129, [p16x_277])] 167 [] 82 p16x_294 = true := by decide +kernel
theorem p16x_294_s {X : Int → Int} {LX : Nat} : ck_Ok p1_O X LX 167 p16x_294 := ck_ok_s (ck_E1 (ck_S1 p16x_276_s ck_S0) (ck_E1 (ck_S1 p16x_277_s ck_S0) ck_E0)) ck_X0 ck_l0 p16x_294_e
set_option maxRecDepth 100000 in
def p16x_295 : ck_Sum := ((8, 1, 6), 245, [.inr (.inr (.inl 1)), .inl (0, 2, none), .inl ((-2147483648), (-1), none), .inl ((-2147483648), (-1), none), .inl (ck_one 2), .inr (.inr (.inl 245))], ([], [], [(3, 0, 0, ck_one 3)]), ([], []), [(.inr (some (.inl (ck_one 2))), 245, ([], [], []))])
set_option maxRecDepth 100000 in
theorem p16x_295_e : ck_ok p1_O none [] [(167, [p16x_294])] 166 [] 92 p16x_295 = true := by decide +kernel
theorem p16x_295_s {X : Int → Int} {LX : Nat} : ck_Ok p1_O X LX 166 p16x_295 := ck_ok_s (ck_E1 (ck_S1 p16x_294_s ck_S0) ck_E0) ck_X0 ck_l0 p16x_295_e
set_option maxRecDepth 100000 in
def p16x_297 : ck_Sum := ((7, 1, 6), 245, [.inr (.inr (.inl 1)), .inl (0, 2, none), .inl ((-2147483648), (-1), none), .inl ((-2147483648), (-1), none), .inl (3, 2147483647, none)], ([], [], [(3, 0, 0, ck_one 3)]), ([], []), [(.inl 0, 245, ([], [], []))])
set_option maxRecDepth 100000 in
theorem p16x_297_e : ck_ok p1_O none [] [(132, [p16x_276]), (129, [p16x_277])] 167 [] 82 p16x_297 = true := by decide +kernel
theorem p16x_297_s {X : Int → Int} {LX : Nat} : ck_Ok p1_O X LX 167 p16x_297 := ck_ok_s (ck_E1 (ck_S1 p16x_276_s ck_S0) (ck_E1 (ck_S1 p16x_277_s ck_S0) ck_E0)) ck_X0 ck_l0 p16x_297_e
set_option maxRecDepth 100000 in
def p16x_298 : ck_Sum := ((8, 1, 6), 245, [.inr (.inr (.inl 1)), .inl (0, 2, none), .inl ((-2147483648), (-1), none), .inl ((-2147483648), (-1), none), .inl (3, 2147483647, none), .inr (.inr (.inl 245))], ([], [], [(3, 0, 0, ck_one 3)]), ([], []), [(.inr (some (.inl (ck_one 2))), 245, ([], [], []))])
set_option maxRecDepth 100000 in
theorem p16x_298_e : ck_ok p1_O none [] [(167, [p16x_297])] 166 [] 92 p16x_298 = true := by decide +kernel
theorem p16x_298_s {X : Int → Int} {LX : Nat} : ck_Ok p1_O X LX 166 p16x_298 := ck_ok_s (ck_E1 (ck_S1 p16x_297_s ck_S0) ck_E0) ck_X0 ck_l0 p16x_298_e
set_option maxRecDepth 100000 in
def p16x_300 : ck_Sum := ((7, 1, 6), 245, [.inr (.inr (.inl 1)), .inl (0, 2, none), .inl ((-2147483648), (-1), none), .inl (0, 299, none), .inl ((-2147483648), (-1), none)], ([], [], [(3, 0, 0, ck_one 3)]), ([], []), [(.inl 0, 245, ([], [], []))])
set_option maxRecDepth 100000 in
theorem p16x_300_e : ck_ok p1_O none [] [(132, [p16x_276]), (129, [p16x_277])] 167 [] 82 p16x_300 = true := by decide +kernel
theorem p16x_300_s {X : Int → Int} {LX : Nat} : ck_Ok p1_O X LX 167 p16x_300 := ck_ok_s (ck_E1 (ck_S1 p16x_276_s ck_S0) (ck_E1 (ck_S1 p16x_277_s ck_S0) ck_E0)) ck_X0 ck_l0 p16x_300_e
set_option maxRecDepth 100000 in
def p16x_301 : ck_Sum := ((8, 1, 6), 245, [.inr (.inr (.inl 1)), .inl (0, 2, none), .inl ((-2147483648), (-1), none), .inl (0, 299, none), .inl ((-2147483648), (-1), none), .inr (.inr (.inl 245))], ([], [], [(3, 0, 0, ck_one 3)]), ([], []), [(.inr (some (.inl (ck_one 2))), 245, ([], [], []))])
set_option maxRecDepth 100000 in
theorem p16x_301_e : ck_ok p1_O none [] [(167, [p16x_300])] 166 [] 92 p16x_301 = true := by decide +kernel
theorem p16x_301_s {X : Int → Int} {LX : Nat} : ck_Ok p1_O X LX 166 p16x_301 := ck_ok_s (ck_E1 (ck_S1 p16x_300_s ck_S0) ck_E0) ck_X0 ck_l0 p16x_301_e
set_option maxRecDepth 100000 in
def p16x_303 : ck_Sum := ((7, 1, 6), 245, [.inr (.inr (.inl 1)), .inl (0, 2, none), .inl ((-2147483648), (-1), none), .inl (0, 299, none), .inl (ck_one 0)], ([], [], [(3, 0, 0, ck_one 3)]), ([], []), [(.inl 0, 245, ([], [], []))])
set_option maxRecDepth 100000 in
theorem p16x_303_e : ck_ok p1_O none [] [(132, [p16x_276]), (129, [p16x_277])] 167 [] 82 p16x_303 = true := by decide +kernel
theorem p16x_303_s {X : Int → Int} {LX : Nat} : ck_Ok p1_O X LX 167 p16x_303 := ck_ok_s (ck_E1 (ck_S1 p16x_276_s ck_S0) (ck_E1 (ck_S1 p16x_277_s ck_S0) ck_E0)) ck_X0 ck_l0 p16x_303_e
set_option maxRecDepth 100000 in
def p16x_304 : ck_Sum := ((8, 1, 6), 245, [.inr (.inr (.inl 1)), .inl (0, 2, none), .inl ((-2147483648), (-1), none), .inl (0, 299, none), .inl (ck_one 0), .inr (.inr (.inl 245))], ([], [], [(3, 0, 0, ck_one 3)]), ([], []), [(.inr (some (.inl (ck_one 2))), 245, ([], [], []))])
set_option maxRecDepth 100000 in
theorem p16x_304_e : ck_ok p1_O none [] [(167, [p16x_303])] 166 [] 92 p16x_304 = true := by decide +kernel
theorem p16x_304_s {X : Int → Int} {LX : Nat} : ck_Ok p1_O X LX 166 p16x_304 := ck_ok_s (ck_E1 (ck_S1 p16x_303_s ck_S0) ck_E0) ck_X0 ck_l0 p16x_304_e
set_option maxRecDepth 100000 in
def p16x_306 : ck_Sum := ((7, 1, 6), 245, [.inr (.inr (.inl 1)), .inl (0, 2, none), .inl ((-2147483648), (-1), none), .inl (0, 299, none), .inl (ck_one 1)], ([], [], [(3, 0, 0, ck_one 3)]), ([], []), [(.inl 0, 245, ([], [], []))])
set_option maxRecDepth 100000 in
theorem p16x_306_e : ck_ok p1_O none [] [(132, [p16x_276]), (129, [p16x_277])] 167 [] 82 p16x_306 = true := by decide +kernel
theorem p16x_306_s {X : Int → Int} {LX : Nat} : ck_Ok p1_O X LX 167 p16x_306 := ck_ok_s (ck_E1 (ck_S1 p16x_276_s ck_S0) (ck_E1 (ck_S1 p16x_277_s ck_S0) ck_E0)) ck_X0 ck_l0 p16x_306_e
set_option maxRecDepth 100000 in
def p16x_307 : ck_Sum := ((8, 1, 6), 245, [.inr (.inr (.inl 1)), .inl (0, 2, none), .inl ((-2147483648), (-1), none), .inl (0, 299, none), .inl (ck_one 1), .inr (.inr (.inl 245))], ([], [], [(3, 0, 0, ck_one 3)]), ([], []), [(.inr (some (.inl (ck_one 2))), 245, ([], [], []))])
set_option maxRecDepth 100000 in
theorem p16x_307_e : ck_ok p1_O none [] [(167, [p16x_306])] 166 [] 92 p16x_307 = true := by decide +kernel
theorem p16x_307_s {X : Int → Int} {LX : Nat} : ck_Ok p1_O X LX 166 p16x_307 := ck_ok_s (ck_E1 (ck_S1 p16x_306_s ck_S0) ck_E0) ck_X0 ck_l0 p16x_307_e
set_option maxRecDepth 100000 in
def p16x_309 : ck_Sum := ((7, 1, 6), 245, [.inr (.inr (.inl 1)), .inl (0, 2, none), .inl ((-2147483648), (-1), none), .inl (0, 299, none), .inl (ck_one 2)], ([], [], [(3, 0, 0, ck_one 3)]), ([], []), [(.inl 0, 245, ([], [], []))])
set_option maxRecDepth 100000 in
theorem p16x_309_e : ck_ok p1_O none [] [(132, [p16x_276]), (129, [p16x_277])] 167 [] 82 p16x_309 = true := by decide +kernel
theorem p16x_309_s {X : Int → Int} {LX : Nat} : ck_Ok p1_O X LX 167 p16x_309 := ck_ok_s (ck_E1 (ck_S1 p16x_276_s ck_S0) (ck_E1 (ck_S1 p16x_277_s ck_S0) ck_E0)) ck_X0 ck_l0 p16x_309_e
set_option maxRecDepth 100000 in
def p16x_310 : ck_Sum := ((8, 1, 6), 245, [.inr (.inr (.inl 1)), .inl (0, 2, none), .inl ((-2147483648), (-1), none), .inl (0, 299, none), .inl (ck_one 2), .inr (.inr (.inl 245))], ([], [], [(3, 0, 0, ck_one 3)]), ([], []), [(.inr (some (.inl (ck_one 2))), 245, ([], [], []))])
set_option maxRecDepth 100000 in
theorem p16x_310_e : ck_ok p1_O none [] [(167, [p16x_309])] 166 [] 92 p16x_310 = true := by decide +kernel
theorem p16x_310_s {X : Int → Int} {LX : Nat} : ck_Ok p1_O X LX 166 p16x_310 := ck_ok_s (ck_E1 (ck_S1 p16x_309_s ck_S0) ck_E0) ck_X0 ck_l0 p16x_310_e
set_option maxRecDepth 100000 in
def p16x_312 : ck_Sum := ((7, 1, 6), 245, [.inr (.inr (.inl 1)), .inl (0, 2, none), .inl ((-2147483648), (-1), none), .inl (0, 299, none), .inl (3, 2147483647, none)], ([], [], [(3, 0, 0, ck_one 3)]), ([], []), [(.inl 0, 245, ([], [], []))])
set_option maxRecDepth 100000 in
theorem p16x_312_e : ck_ok p1_O none [] [(132, [p16x_276]), (129, [p16x_277])] 167 [] 82 p16x_312 = true := by decide +kernel
theorem p16x_312_s {X : Int → Int} {LX : Nat} : ck_Ok p1_O X LX 167 p16x_312 := ck_ok_s (ck_E1 (ck_S1 p16x_276_s ck_S0) (ck_E1 (ck_S1 p16x_277_s ck_S0) ck_E0)) ck_X0 ck_l0 p16x_312_e
set_option maxRecDepth 100000 in
def p16x_313 : ck_Sum := ((8, 1, 6), 245, [.inr (.inr (.inl 1)), .inl (0, 2, none), .inl ((-2147483648), (-1), none), .inl (0, 299, none), .inl (3, 2147483647, none), .inr (.inr (.inl 245))], ([], [], [(3, 0, 0, ck_one 3)]), ([], []), [(.inr (some (.inl (ck_one 2))), 245, ([], [], []))])
set_option maxRecDepth 100000 in
theorem p16x_313_e : ck_ok p1_O none [] [(167, [p16x_312])] 166 [] 92 p16x_313 = true := by decide +kernel
theorem p16x_313_s {X : Int → Int} {LX : Nat} : ck_Ok p1_O X LX 166 p16x_313 := ck_ok_s (ck_E1 (ck_S1 p16x_312_s ck_S0) ck_E0) ck_X0 ck_l0 p16x_313_e
set_option maxRecDepth 100000 in
def p16x_315 : ck_Sum := ((7, 1, 6), 245, [.inr (.inr (.inl 1)), .inl (0, 2, none), .inl ((-2147483648), (-1), none), .inl (300, 2147483647, none), .inl ((-2147483648), (-1), none)], ([], [], [(3, 0, 0, ck_one 3)]), ([], []), [(.inl 0, 245, ([], [], []))])
set_option maxRecDepth 100000 in
theorem p16x_315_e : ck_ok p1_O none [] [(132, [p16x_276]), (129, [p16x_277])] 167 [] 82 p16x_315 = true := by decide +kernel
theorem p16x_315_s {X : Int → Int} {LX : Nat} : ck_Ok p1_O X LX 167 p16x_315 := ck_ok_s (ck_E1 (ck_S1 p16x_276_s ck_S0) (ck_E1 (ck_S1 p16x_277_s ck_S0) ck_E0)) ck_X0 ck_l0 p16x_315_e
set_option maxRecDepth 100000 in
def p16x_316 : ck_Sum := ((8, 1, 6), 245, [.inr (.inr (.inl 1)), .inl (0, 2, none), .inl ((-2147483648), (-1), none), .inl (300, 2147483647, none), .inl ((-2147483648), (-1), none), .inr (.inr (.inl 245))], ([], [], [(3, 0, 0, ck_one 3)]), ([], []), [(.inr (some (.inl (ck_one 2))), 245, ([], [], []))])
set_option maxRecDepth 100000 in
theorem p16x_316_e : ck_ok p1_O none [] [(167, [p16x_315])] 166 [] 92 p16x_316 = true := by decide +kernel
theorem p16x_316_s {X : Int → Int} {LX : Nat} : ck_Ok p1_O X LX 166 p16x_316 := ck_ok_s (ck_E1 (ck_S1 p16x_315_s ck_S0) ck_E0) ck_X0 ck_l0 p16x_316_e
set_option maxRecDepth 100000 in
def p16x_318 : ck_Sum := ((7, 1, 6), 245, [.inr (.inr (.inl 1)), .inl (0, 2, none), .inl ((-2147483648), (-1), none), .inl (300, 2147483647, none), .inl (ck_one 0)], ([], [], [(3, 0, 0, ck_one 3)]), ([], []), [(.inl 0, 245, ([], [], []))])
set_option maxRecDepth 100000 in
theorem p16x_318_e : ck_ok p1_O none [] [(132, [p16x_276]), (129, [p16x_277])] 167 [] 82 p16x_318 = true := by decide +kernel
theorem p16x_318_s {X : Int → Int} {LX : Nat} : ck_Ok p1_O X LX 167 p16x_318 := ck_ok_s (ck_E1 (ck_S1 p16x_276_s ck_S0) (ck_E1 (ck_S1 p16x_277_s ck_S0) ck_E0)) ck_X0 ck_l0 p16x_318_e
set_option maxRecDepth 100000 in
def p16x_319 : ck_Sum := ((8, 1, 6), 245, [.inr (.inr (.inl 1)), .inl (0, 2, none), .inl ((-2147483648), (-1), none), .inl (300, 2147483647, none), .inl (ck_one 0), .inr (.inr (.inl 245))], ([], [], [(3, 0, 0, ck_one 3)]), ([], []), [(.inr (some (.inl (ck_one 2))), 245, ([], [], []))])
set_option maxRecDepth 100000 in
theorem p16x_319_e : ck_ok p1_O none [] [(167, [p16x_318])] 166 [] 92 p16x_319 = true := by decide +kernel
theorem p16x_319_s {X : Int → Int} {LX : Nat} : ck_Ok p1_O X LX 166 p16x_319 := ck_ok_s (ck_E1 (ck_S1 p16x_318_s ck_S0) ck_E0) ck_X0 ck_l0 p16x_319_e
set_option maxRecDepth 100000 in
def p16x_321 : ck_Sum := ((7, 1, 6), 245, [.inr (.inr (.inl 1)), .inl (0, 2, none), .inl ((-2147483648), (-1), none), .inl (300, 2147483647, none), .inl (ck_one 1)], ([], [], [(3, 0, 0, ck_one 3)]), ([], []), [(.inl 0, 245, ([], [], []))])
set_option maxRecDepth 100000 in
theorem p16x_321_e : ck_ok p1_O none [] [(132, [p16x_276]), (129, [p16x_277])] 167 [] 82 p16x_321 = true := by decide +kernel
theorem p16x_321_s {X : Int → Int} {LX : Nat} : ck_Ok p1_O X LX 167 p16x_321 := ck_ok_s (ck_E1 (ck_S1 p16x_276_s ck_S0) (ck_E1 (ck_S1 p16x_277_s ck_S0) ck_E0)) ck_X0 ck_l0 p16x_321_e
set_option maxRecDepth 100000 in
def p16x_322 : ck_Sum := ((8, 1, 6), 245, [.inr (.inr (.inl 1)), .inl (0, 2, none), .inl ((-2147483648), (-1), none), .inl (300, 2147483647, none), .inl (ck_one 1), .inr (.inr (.inl 245))], ([], [], [(3, 0, 0, ck_one 3)]), ([], []), [(.inr (some (.inl (ck_one 2))), 245, ([], [], []))])
set_option maxRecDepth 100000 in
theorem p16x_322_e : ck_ok p1_O none [] [(167, [p16x_321])] 166 [] 92 p16x_322 = true := by decide +kernel
theorem p16x_322_s {X : Int → Int} {LX : Nat} : ck_Ok p1_O X LX 166 p16x_322 := ck_ok_s (ck_E1 (ck_S1 p16x_321_s ck_S0) ck_E0) ck_X0 ck_l0 p16x_322_e
set_option maxRecDepth 100000 in
def p16x_324 : ck_Sum := ((7, 1, 6), 245, [.inr (.inr (.inl 1)), .inl (0, 2, none), .inl ((-2147483648), (-1), none), .inl (300, 2147483647, none), .inl (ck_one 2)], ([], [], [(3, 0, 0, ck_one 3)]), ([], []), [(.inl 0, 245, ([], [], []))])
set_option maxRecDepth 100000 in
theorem p16x_324_e : ck_ok p1_O none [] [(132, [p16x_276]), (129, [p16x_277])] 167 [] 82 p16x_324 = true := by decide +kernel
theorem p16x_324_s {X : Int → Int} {LX : Nat} : ck_Ok p1_O X LX 167 p16x_324 := ck_ok_s (ck_E1 (ck_S1 p16x_276_s ck_S0) (ck_E1 (ck_S1 p16x_277_s ck_S0) ck_E0)) ck_X0 ck_l0 p16x_324_e
set_option maxRecDepth 100000 in
def p16x_325 : ck_Sum := ((8, 1, 6), 245, [.inr (.inr (.inl 1)), .inl (0, 2, none), .inl ((-2147483648), (-1), none), .inl (300, 2147483647, none), .inl (ck_one 2), .inr (.inr (.inl 245))], ([], [], [(3, 0, 0, ck_one 3)]), ([], []), [(.inr (some (.inl (ck_one 2))), 245, ([], [], []))])
set_option maxRecDepth 100000 in
theorem p16x_325_e : ck_ok p1_O none [] [(167, [p16x_324])] 166 [] 92 p16x_325 = true := by decide +kernel
theorem p16x_325_s {X : Int → Int} {LX : Nat} : ck_Ok p1_O X LX 166 p16x_325 := ck_ok_s (ck_E1 (ck_S1 p16x_324_s ck_S0) ck_E0) ck_X0 ck_l0 p16x_325_e
set_option maxRecDepth 100000 in
def p16x_327 : ck_Sum := ((7, 1, 6), 245, [.inr (.inr (.inl 1)), .inl (0, 2, none), .inl ((-2147483648), (-1), none), .inl (300, 2147483647, none), .inl (3, 2147483647, none)], ([], [], [(3, 0, 0, ck_one 3)]), ([], []), [(.inl 0, 245, ([], [], []))])
set_option maxRecDepth 100000 in
theorem p16x_327_e : ck_ok p1_O none [] [(132, [p16x_276]), (129, [p16x_277])] 167 [] 82 p16x_327 = true := by decide +kernel
theorem p16x_327_s {X : Int → Int} {LX : Nat} : ck_Ok p1_O X LX 167 p16x_327 := ck_ok_s (ck_E1 (ck_S1 p16x_276_s ck_S0) (ck_E1 (ck_S1 p16x_277_s ck_S0) ck_E0)) ck_X0 ck_l0 p16x_327_e
set_option maxRecDepth 100000 in
def p16x_328 : ck_Sum := ((8, 1, 6), 245, [.inr (.inr (.inl 1)), .inl (0, 2, none), .inl ((-2147483648), (-1), none), .inl (300, 2147483647, none), .inl (3, 2147483647, none), .inr (.inr (.inl 245))], ([], [], [(3, 0, 0, ck_one 3)]), ([], []), [(.inr (some (.inl (ck_one 2))), 245, ([], [], []))])
set_option maxRecDepth 100000 in
theorem p16x_328_e : ck_ok p1_O none [] [(167, [p16x_327])] 166 [] 92 p16x_328 = true := by decide +kernel
theorem p16x_328_s {X : Int → Int} {LX : Nat} : ck_Ok p1_O X LX 166 p16x_328 := ck_ok_s (ck_E1 (ck_S1 p16x_327_s ck_S0) ck_E0) ck_X0 ck_l0 p16x_328_e
set_option maxRecDepth 100000 in
def p16x_330 : ck_Sum := ((0, 0, 0), 245, [.inr (.inr (.inl 1)), .inl (0, 299, none)], ([], [], []), ([], []), [(.inr none, 245, ([], [], []))])
set_option maxRecDepth 100000 in
theorem p16x_330_e : ck_ok p1_O none [] [] 129 [] 82 p16x_330 = true := by decide +kernel
theorem p16x_330_s {X : Int → Int} {LX : Nat} : ck_Ok p1_O X LX 129 p16x_330 := ck_ok_s (ck_E0) ck_X0 ck_l0 p16x_330_e
set_option maxRecDepth 100000 in
def p16x_331 : ck_Sum := ((7, 1, 6), 245, [.inr (.inr (.inl 1)), .inl (0, 2, none), .inl (0, 299, none), .inl ((-2147483648), (-1), none), .inl ((-2147483648), (-1), none)], ([], [], [(3, 0, 0, ck_one 3)]), ([], []), [(.inl 0, 245, ([], [], []))])
set_option maxRecDepth 100000 in
theorem p16x_331_e : ck_ok p1_O none [] [(132, [p16x_276]), (129, [p16x_330, p16x_277])] 167 [] 88 p16x_331 = true := by decide +kernel
theorem p16x_331_s {X : Int → Int} {LX : Nat} : ck_Ok p1_O X LX 167 p16x_331 := ck_ok_s (ck_E1 (ck_S1 p16x_276_s ck_S0) (ck_E1 (ck_S1 p16x_330_s (ck_S1 p16x_277_s ck_S0)) ck_E0)) ck_X0 ck_l0 p16x_331_e
set_option maxRecDepth 100000 in
def p16x_332 : ck_Sum := ((8, 1, 6), 245, [.inr (.inr (.inl 1)), .inl (0, 2, none), .inl (0, 299, none), .inl ((-2147483648), (-1), none), .inl ((-2147483648), (-1), none), .inr (.inr (.inl 245))], ([], [], [(3, 0, 0, ck_one 3)]), ([], []), [(.inr (some (.inl (ck_one 2))), 245, ([], [], []))])
set_option maxRecDepth 100000 in
theorem p16x_332_e : ck_ok p1_O none [] [(167, [p16x_331])] 166 [] 92 p16x_332 = true := by decide +kernel
theorem p16x_332_s {X : Int → Int} {LX : Nat} : ck_Ok p1_O X LX 166 p16x_332 := ck_ok_s (ck_E1 (ck_S1 p16x_331_s ck_S0) ck_E0) ck_X0 ck_l0 p16x_332_e
set_option maxRecDepth 100000 in
def p16x_336 : ck_Sum := ((7, 1, 6), 245, [.inr (.inr (.inl 1)), .inl (0, 2, none), .inl (0, 299, none), .inl ((-2147483648), (-1), none), .inl (ck_one 0)], ([], [], [(3, 0, 0, ck_one 3)]), ([], []), [(.inl 0, 245, ([], [], []))])
set_option maxRecDepth 100000 in
theorem p16x_336_e : ck_ok p1_O none [] [(132, [p16x_276]), (129, [p16x_330, p16x_277])] 167 [] 88 p16x_336 = true := by decide +kernel
theorem p16x_336_s {X : Int → Int} {LX : Nat} : ck_Ok p1_O X LX 167 p16x_336 := ck_ok_s (ck_E1 (ck_S1 p16x_276_s ck_S0) (ck_E1 (ck_S1 p16x_330_s (ck_S1 p16x_277_s ck_S0)) ck_E0)) ck_X0 ck_l0 p16x_336_e
set_option maxRecDepth 100000 in
def p16x_337 : ck_Sum := ((8, 1, 6), 245, [.inr (.inr (.inl 1)), .inl (0, 2, none), .inl (0, 299, none), .inl ((-2147483648), (-1), none), .inl (ck_one 0), .inr (.inr (.inl 245))], ([], [], [(3, 0, 0, ck_one 3)]), ([], []), [(.inr (some (.inl (ck_one 2))), 245, ([], [], []))])
set_option maxRecDepth 100000 in
theorem p16x_337_e : ck_ok p1_O none [] [(167, [p16x_336])] 166 [] 92 p16x_337 = true := by decide +kernel
theorem p16x_337_s {X : Int → Int} {LX : Nat} : ck_Ok p1_O X LX 166 p16x_337 := ck_ok_s (ck_E1 (ck_S1 p16x_336_s ck_S0) ck_E0) ck_X0 ck_l0 p16x_337_e
set_option maxRecDepth 100000 in
def p16x_339 : ck_Sum := ((7, 1, 6), 245, [.inr (.inr (.inl 1)), .inl (0, 2, none), .inl (0, 299, none), .inl ((-2147483648), (-1), none), .inl (ck_one 1)], ([], [], [(3, 0, 0, ck_one 3)]), ([], []), [(.inl 0, 245, ([], [], []))])
set_option maxRecDepth 100000 in
theorem p16x_339_e : ck_ok p1_O none [] [(132, [p16x_276]), (129, [p16x_330, p16x_277])] 167 [] 88 p16x_339 = true := by decide +kernel
theorem p16x_339_s {X : Int → Int} {LX : Nat} : ck_Ok p1_O X LX 167 p16x_339 := ck_ok_s (ck_E1 (ck_S1 p16x_276_s ck_S0) (ck_E1 (ck_S1 p16x_330_s (ck_S1 p16x_277_s ck_S0)) ck_E0)) ck_X0 ck_l0 p16x_339_e
set_option maxRecDepth 100000 in
def p16x_340 : ck_Sum := ((8, 1, 6), 245, [.inr (.inr (.inl 1)), .inl (0, 2, none), .inl (0, 299, none), .inl ((-2147483648), (-1), none), .inl (ck_one 1), .inr (.inr (.inl 245))], ([], [], [(3, 0, 0, ck_one 3)]), ([], []), [(.inr (some (.inl (ck_one 2))), 245, ([], [], []))])
set_option maxRecDepth 100000 in
theorem p16x_340_e : ck_ok p1_O none [] [(167, [p16x_339])] 166 [] 92 p16x_340 = true := by decide +kernel
theorem p16x_340_s {X : Int → Int} {LX : Nat} : ck_Ok p1_O X LX 166 p16x_340 := ck_ok_s (ck_E1 (ck_S1 p16x_339_s ck_S0) ck_E0) ck_X0 ck_l0 p16x_340_e
set_option maxRecDepth 100000 in
def p16x_342 : ck_Sum := ((7, 1, 6), 245, [.inr (.inr (.inl 1)), .inl (0, 2, none), .inl (0, 299, none), .inl ((-2147483648), (-1), none), .inl (ck_one 2)], ([], [], [(3, 0, 0, ck_one 3)]), ([], []), [(.inl 0, 245, ([], [], []))])
set_option maxRecDepth 100000 in
theorem p16x_342_e : ck_ok p1_O none [] [(132, [p16x_276]), (129, [p16x_330, p16x_277])] 167 [] 88 p16x_342 = true := by decide +kernel
theorem p16x_342_s {X : Int → Int} {LX : Nat} : ck_Ok p1_O X LX 167 p16x_342 := ck_ok_s (ck_E1 (ck_S1 p16x_276_s ck_S0) (ck_E1 (ck_S1 p16x_330_s (ck_S1 p16x_277_s ck_S0)) ck_E0)) ck_X0 ck_l0 p16x_342_e
set_option maxRecDepth 100000 in
def p16x_343 : ck_Sum := ((8, 1, 6), 245, [.inr (.inr (.inl 1)), .inl (0, 2, none), .inl (0, 299, none), .inl ((-2147483648), (-1), none), .inl (ck_one 2), .inr (.inr (.inl 245))], ([], [], [(3, 0, 0, ck_one 3)]), ([], []), [(.inr (some (.inl (ck_one 2))), 245, ([], [], []))])
set_option maxRecDepth 100000 in
theorem p16x_343_e : ck_ok p1_O none [] [(167, [p16x_342])] 166 [] 92 p16x_343 = true := by decide +kernel
theorem p16x_343_s {X : Int → Int} {LX : Nat} : ck_Ok p1_O X LX 166 p16x_343 := ck_ok_s (ck_E1 (ck_S1 p16x_342_s ck_S0) ck_E0) ck_X0 ck_l0 p16x_343_e
set_option maxRecDepth 100000 in
def p16x_345 : ck_Sum := ((7, 1, 6), 245, [.inr (.inr (.inl 1)), .inl (0, 2, none), .inl (0, 299, none), .inl ((-2147483648), (-1), none), .inl (3, 2147483647, none)], ([], [], [(3, 0, 0, ck_one 3)]), ([], []), [(.inl 0, 245, ([], [], []))])
set_option maxRecDepth 100000 in
theorem p16x_345_e : ck_ok p1_O none [] [(132, [p16x_276]), (129, [p16x_330, p16x_277])] 167 [] 88 p16x_345 = true := by decide +kernel
theorem p16x_345_s {X : Int → Int} {LX : Nat} : ck_Ok p1_O X LX 167 p16x_345 := ck_ok_s (ck_E1 (ck_S1 p16x_276_s ck_S0) (ck_E1 (ck_S1 p16x_330_s (ck_S1 p16x_277_s ck_S0)) ck_E0)) ck_X0 ck_l0 p16x_345_e
set_option maxRecDepth 100000 in
def p16x_346 : ck_Sum := ((8, 1, 6), 245, [.inr (.inr (.inl 1)), .inl (0, 2, none), .inl (0, 299, none), .inl ((-2147483648), (-1), none), .inl (3, 2147483647, none), .inr (.inr (.inl 245))], ([], [], [(3, 0, 0, ck_one 3)]), ([], []), [(.inr (some (.inl (ck_one 2))), 245, ([], [], []))])
set_option maxRecDepth 100000 in
theorem p16x_346_e : ck_ok p1_O none [] [(167, [p16x_345])] 166 [] 92 p16x_346 = true := by decide +kernel
theorem p16x_346_s {X : Int → Int} {LX : Nat} : ck_Ok p1_O X LX 166 p16x_346 := ck_ok_s (ck_E1 (ck_S1 p16x_345_s ck_S0) ck_E0) ck_X0 ck_l0 p16x_346_e
set_option maxRecDepth 100000 in
def p16x_348 : ck_Sum := ((6, 1, 6), 245, [.inr (.inr (.inl 1)), .inl (0, 2, none), .inl (0, 299, none), .inl (0, 299, none), .inl ((-2147483648), (-1), none)], ([], [], [(3, 6, 6, ck_one 0), (3, 0, 0, ck_one 3)]), ([], []), [(.inl 4, 245, ([], [], []))])
set_option maxRecDepth 100000 in
theorem p16x_348_e : ck_ok p1_O none [] [(132, [p16x_276]), (129, [p16x_330])] 167 [] 104 p16x_348 = true := by decide +kernel
theorem p16x_348_s {X : Int → Int} {LX : Nat} : ck_Ok p1_O X LX 167 p16x_348 := ck_ok_s (ck_E1 (ck_S1 p16x_276_s ck_S0) (ck_E1 (ck_S1 p16x_330_s ck_S0) ck_E0)) ck_X0 ck_l0 p16x_348_e
set_option maxRecDepth 100000 in
def p16x_349 : ck_Sum := ((7, 1, 6), 245, [.inr (.inr (.inl 1)), .inl (0, 2, none), .inl (0, 299, none), .inl (0, 299, none), .inl ((-2147483648), (-1), none), .inr (.inr (.inl 245))], ([], [], [(3, 6, 6, ck_one 0), (3, 0, 0, ck_one 3)]), ([], []), [(.inr (some (.inl (ck_one 3))), 245, ([], [], []))])
set_option maxRecDepth 100000 in
theorem p16x_349_e : ck_ok p1_O none [] [(167, [p16x_348])] 166 [] 92 p16x_349 = true := by decide +kernel
theorem p16x_349_s {X : Int → Int} {LX : Nat} : ck_Ok p1_O X LX 166 p16x_349 := ck_ok_s (ck_E1 (ck_S1 p16x_348_s ck_S0) ck_E0) ck_X0 ck_l0 p16x_349_e
set_option maxRecDepth 100000 in
def p16x_3288 : ck_Sum := ((0, 0, 0), 245, [.inr (.inr (.inl 206)), .inl (0, 2, none), .inl (0, 39, none), .inl (0, 299, none), .inl (ck_one 0)], ([], [], []), ([(206, 2, 8)], []), [(.inr none, 245, ([], [], [(206, 8, 8, ck_one 0), (206, 6, 6, ck_one 0), (206, 4, 4, ck_one (-1)), (206, 3, 3, ck_one 0), (206, 7, 7, (0, 299, none)), (206, 5, 5, (0, 39, none)), (206, 2, 2, (0, 2, none))]))])
set_option maxRecDepth 100000 in
theorem p16x_3288_e : ck_ok p1_O none [] [] 29 [] 114 p16x_3288 = true := by decide +kernel
theorem p16x_3288_s {X : Int → Int} {LX : Nat} : ck_Ok p1_O X LX 29 p16x_3288 := ck_ok_s (ck_E0) ck_X0 ck_l0 p16x_3288_e
set_option maxRecDepth 100000 in
def p16x_3289 : ck_Sum := ((0, 0, 0), 245, [.inr (.inr (.inl 206))], ([], [], [(206, 5, 5, (0, 39, none)), (3, 1, 1, ck_one 40)]), ([], []), [(.inr (some (.inl (ck_one 0))), 245, ([], [], []))])
set_option maxRecDepth 100000 in
theorem p16x_3289_e : ck_ok p1_O none [] [] 31 [] 86 p16x_3289 = true := by decide +kernel
theorem p16x_3289_s {X : Int → Int} {LX : Nat} : ck_Ok p1_O X LX 31 p16x_3289 := ck_ok_s (ck_E0) ck_X0 ck_l0 p16x_3289_e
set_option maxRecDepth 100000 in
def p16x_1674 : ck_Sum := ((0, 0, 0), 245, [.inr (.inr (.inl 200)), .inl ((-2147483648), 2147483647, none)], ([], [], []), ([], []), [(.inr (some (.inl ((-2147483648), 2147483647, none))), 245, ([], [], []))])
set_option maxRecDepth 100000 in
theorem p16x_1674_e : ck_ok p1_O none [] [] 34 [] 92 p16x_1674 = true := by decide +kernel
theorem p16x_1674_s {X : Int → Int} {LX : Nat} : ck_Ok p1_O X LX 34 p16x_1674 := ck_ok_s (ck_E0) ck_X0 ck_l0 p16x_1674_e
set_option maxRecDepth 100000 in
def p16x_3387 : ck_Sum := ((1, 0, 0), 245, [.inr (.inr (.inl 206))], ([], [], [(206, 3, 3, ck_one 0), (206, 5, 5, (0, 39, none)), (3, 3, 3, ck_one 2), (3, 2, 2, ck_one 10)]), ([], []), [(.inr (some (.inl ((-2147483648), 2147483647, none))), 245, ([], [], []))])
set_option maxRecDepth 100000 in
theorem p16x_3387_e : ck_ok p1_O none [] [(34, [p16x_1674])] 33 [] 110 p16x_3387 = true := by decide +kernel
theorem p16x_3387_s {X : Int → Int} {LX : Nat} : ck_Ok p1_O X LX 33 p16x_3387 := ck_ok_s (ck_E1 (ck_S1 p16x_1674_s ck_S0) ck_E0) ck_X0 ck_l0 p16x_3387_e
set_option maxRecDepth 100000 in
def p16x_3291 : ck_Sum := ((0, 0, 0), 245, [.inr (.inr (.inl 200)), .inl (0, 2, none), .inl (0, 39, none)], ([], [], [(202, 0, 593, ck_one 0)]), ([], []), [(.inr (some (.inl (ck_one 0))), 245, ([], [], []))])
set_option maxRecDepth 100000 in
theorem p16x_3291_e : ck_ok p1_O none [] [] 36 [] 108 p16x_3291 = true := by decide +kernel
theorem p16x_3291_s {X : Int → Int} {LX : Nat} : ck_Ok p1_O X LX 36 p16x_3291 := ck_ok_s (ck_E0) ck_X0 ck_l0 p16x_3291_e
set_option maxRecDepth 100000 in
def p16x_3388 : ck_Sum := ((1, 0, 0), 245, [.inr (.inr (.inl 200)), .inl (0, 2, none), .inl (0, 39, none), .inl ((-2147483648), 2147483647, none)], ([], [(3, 8, 0)], [(202, 0, 593, ck_one 0)]), ([], []), [(.inr (some (.inl (ck_one 0))), 245, ([], [], []))])
set_option maxRecDepth 100000 in
theorem p16x_3388_e : ck_ok p1_O none [] [(36, [p16x_3291])] 35 [] 92 p16x_3388 = true := by decide +kernel
theorem p16x_3388_s {X : Int → Int} {LX : Nat} : ck_Ok p1_O X LX 35 p16x_3388 := ck_ok_s (ck_E1 (ck_S1 p16x_3291_s ck_S0) ck_E0) ck_X0 ck_l0 p16x_3388_e
set_option maxRecDepth 100000 in
def p16x_510 : ck_Sum := ((0, 0, 0), 245, [.inr (.inr (.inl 200)), .inl ((-2147483648), 2147483647, none)], ([], [], [(203, 0, 299, ck_one 0)]), ([], []), [(.inr (some (.inl (ck_one 0))), 245, ([], [], []))])
set_option maxRecDepth 100000 in
theorem p16x_510_e : ck_ok p1_O none [] [] 44 [] 92 p16x_510 = true := by decide +kernel
theorem p16x_510_s {X : Int → Int} {LX : Nat} : ck_Ok p1_O X LX 44 p16x_510 := ck_ok_s (ck_E0) ck_X0 ck_l0 p16x_510_e
set_option maxRecDepth 100000 in
def p16x_511 : ck_Sum := ((1, 0, 0), 245, [.inr (.inr (.inl 206))], ([], [], [(203, 0, 299, ck_one 0)]), ([], []), [(.inr none, 245, ([], [], []))])
set_option maxRecDepth 100000 in
theorem p16x_511_e : ck_ok p1_O none [] [(44, [p16x_510])] 43 [(22, [some (.inr (.inr (.inl 206))), some (.inr (.inr (.inl 6))), some (.inl (ck_one 0)), some (.inl (ck_one 0)), none], ([], [], [(203, 0, 299, ck_one 0)]), 100, .inl 3, true)] 142 p16x_511 = true := by decide +kernel
theorem p16x_511_s {X : Int → Int} {LX : Nat} : ck_Ok p1_O X LX 43 p16x_511 := ck_ok_s (ck_E1 (ck_S1 p16x_510_s ck_S0) ck_E0) ck_X0 ck_l0 p16x_511_e
set_option maxRecDepth 100000 in
def p16x_3389 : ck_Sum := ((2, 0, 0), 245, [.inr (.inr (.inl 206))], ([], [(3, 8, 0)], [(206, 3, 3, ck_one 0), (206, 5, 5, (0, 39, none)), (206, 2, 2, (0, 2, none)), (3, 3, 3, ck_one 2), (3, 2, 2, ck_one 10), (3, 1, 1, ck_one 40), (203, 0, 299, ck_one 0), (202, 0, 593, ck_one 0)]), ([(206, 5, 7)], []), [(.inr none, 245, ([], [], [(206, 5, 5, (0, 39, none))]))])
set_option maxRecDepth 100000 in
theorem p16x_3389_e : ck_ok p1_O none [] [(31, [p16x_3289]), (33, [p16x_3387]), (35, [p16x_3388]), (43, [p16x_511])] 32 [] 134 p16x_3389 = true := by decide +kernel
theorem p16x_3389_s {X : Int → Int} {LX : Nat} : ck_Ok p1_O X LX 32 p16x_3389 := ck_ok_s (ck_E1 (ck_S1 p16x_3289_s ck_S0) (ck_E1 (ck_S1 p16x_3387_s ck_S0) (ck_E1 (ck_S1 p16x_3388_s ck_S0) (ck_E1 (ck_S1 p16x_511_s ck_S0) ck_E0)))) ck_X0 ck_l0 p16x_3389_e
set_option maxRecDepth 100000 in
def p16x_3394 : ck_Sum := ((3, 0, 0), 245, [.inr (.inr (.inl 206)), .inl (0, 299, none)], ([], [(3, 8, 0)], [(206, 3, 3, ck_one 0), (206, 7, 7, (0, 299, none)), (206, 5, 5, (0, 39, none)), (206, 2, 2, (0, 2, none)), (3, 3, 3, ck_one 2), (3, 2, 2, ck_one 10), (3, 1, 1, ck_one 40), (203, 0, 299, ck_one 0), (202, 0, 593, ck_one 0)]), ([(206, 5, 7)], []), [(.inr (some (.inl (ck_one (-1)))), 245, ([], [], [(206, 5, 5, (0, 39, none))]))])
set_option maxRecDepth 100000 in
theorem p16x_3394_e : ck_ok p1_O none [] [(31, [p16x_3289]), (32, [p16x_3389])] 30 [(5, [some (.inr (.inr (.inl 206))), some (.inl (0, 299, none)), some (.inl (0, 300, none))], ([], [(3, 8, 0)], [(206, 3, 3, ck_one 0), (206, 5, 5, (0, 39, none)), (206, 2, 2, (0, 2, none)), (3, 3, 3, ck_one 2), (3, 2, 2, ck_one 10), (3, 1, 1, ck_one 40), (203, 0, 299, ck_one 0), (202, 0, 593, ck_one 0)]), 100, .inl 2, true)] 134 p16x_3394 = true := by decide +kernel
theorem p16x_3394_s {X : Int → Int} {LX : Nat} : ck_Ok p1_O X LX 30 p16x_3394 := ck_ok_s (ck_E1 (ck_S1 p16x_3289_s ck_S0) (ck_E1 (ck_S1 p16x_3389_s ck_S0) ck_E0)) ck_X0 ck_l0 p16x_3394_e
set_option maxRecDepth 100000 in
def p16x_3395 : ck_Sum := ((4, 0, 0), 245, [.inr (.inr (.inl 1)), .inl (0, 2, none), .inl (0, 299, none), .inl (0, 299, none), .inl (ck_one 0)], ([], [(3, 8, 0)], [(206, 8, 8, ck_one 0), (206, 7, 7, ck_one 0), (206, 5, 5, ck_one 0), (206, 4, 4, ck_one (-1)), (206, 3, 3, ck_one 0), (206, 2, 2, ck_one 0), (3, 6, 6, ck_one 0), (3, 3, 3, ck_one 2), (3, 2, 2, ck_one 10), (3, 1, 1, ck_one 40), (3, 0, 0, ck_one 3), (203, 0, 299, ck_one 0), (202, 0, 593, ck_one 0)]), ([(206, 2, 8)], []), [(.inr (some (.inl (ck_one 0))), 245, ([], [], [(206, 8, 8, ck_one 0), (206, 5, 5, (0, 39, none)), (206, 4, 4, ck_one (-1)), (206, 3, 3, ck_one 0), (206, 2, 2, (0, 2, none))]))])
set_option maxRecDepth 100000 in
theorem p16x_3395_e : ck_ok p1_O none [] [(132, [p16x_276]), (129, [p16x_330]), (29, [p16x_3288]), (30, [p16x_3394])] 167 [(71, [some (.inr (.inr (.inl 1))), some (.inl (0, 2, none)), some (.inl (0, 299, none)), some (.inl (0, 299, none)), some (.inl (ck_one 0)), some (.inl (ck_one 0)), some (.inl (ck_one (-1))), some (.inl (ck_one (-1))), some (.inl (0, 40, none))], ([], [(3, 8, 0)], [(206, 8, 8, ck_one 0), (206, 5, 5, (0, 39, none)), (206, 4, 4, ck_one (-1)), (206, 3, 3, ck_one 0), (206, 2, 2, (0, 2, none)), (3, 6, 6, ck_one 0), (3, 3, 3, ck_one 2), (3, 2, 2, ck_one 10), (3, 1, 1, ck_one 40), (3, 0, 0, ck_one 3), (203, 0, 299, ck_one 0), (202, 0, 593, ck_one 0)]), 100, .inl 8, true)] 202 p16x_3395 = true := by decide +kernel
theorem p16x_3395_s {X : Int → Int} {LX : Nat} : ck_Ok p1_O X LX 167 p16x_3395 := ck_ok_s (ck_E1 (ck_S1 p16x_276_s ck_S0) (ck_E1 (ck_S1 p16x_330_s ck_S0) (ck_E1 (ck_S1 p16x_3288_s ck_S0) (ck_E1 (ck_S1 p16x_3394_s ck_S0) ck_E0)))) ck_X0 ck_l0 p16x_3395_e
set_option maxRecDepth 100000 in
def p16x_3396 : ck_Sum := ((5, 0, 0), 245, [.inr (.inr (.inl 1)), .inl (0, 2, none), .inl (0, 299, none), .inl (0, 299, none), .inl (ck_one 0), .inr (.inr (.inl 245))], ([], [(3, 8, 0)], [(206, 8, 8, ck_one 0), (206, 7, 7, ck_one 0), (206, 5, 5, ck_one 0), (206, 4, 4, ck_one (-1)), (206, 3, 3, ck_one 0), (206, 2, 2, ck_one 0), (3, 6, 6, ck_one 0), (3, 3, 3, ck_one 2), (3, 2, 2, ck_one 10), (3, 1, 1, ck_one 40), (3, 0, 0, ck_one 3), (203, 0, 299, ck_one 0), (202, 0, 593, ck_one 0)]), ([(206, 2, 8), (245, 0, 0)], []), [(.inr (some (.inl (ck_one 0))), 245, ([], [], [(245, 0, 0, ck_one 0), (206, 8, 8, ck_one 0), (206, 5, 5, (0, 39, none)), (206, 4, 4, ck_one (-1)), (206, 3, 3, ck_one 0), (206, 2, 2, (0, 2, none))]))])
set_option maxRecDepth 100000 in
theorem p16x_3396_e : ck_ok p1_O none [] [(167, [p16x_3395])] 166 [] 96 p16x_3396 = true := by decide +kernel
theorem p16x_3396_s {X : Int → Int} {LX : Nat} : ck_Ok p1_O X LX 166 p16x_3396 := ck_ok_s (ck_E1 (ck_S1 p16x_3395_s ck_S0) ck_E0) ck_X0 ck_l0 p16x_3396_e
set_option maxRecDepth 100000 in
def p16x_5050 : ck_Sum := ((4, 0, 0), 245, [.inr (.inr (.inl 1)), .inl (0, 2, none), .inl (0, 299, none), .inl (0, 299, none), .inl (ck_one 1)], ([], [(3, 8, 0)], [(206, 8, 8, ck_one 0), (206, 7, 7, ck_one 0), (206, 5, 5, ck_one 0), (206, 4, 4, ck_one (-1)), (206, 3, 3, ck_one 0), (206, 2, 2, ck_one 0), (3, 6, 6, ck_one 0), (3, 3, 3, ck_one 2), (3, 2, 2, ck_one 10), (3, 1, 1, ck_one 40), (3, 0, 0, ck_one 3), (203, 0, 299, ck_one 0), (202, 0, 593, ck_one 0)]), ([(206, 2, 8)], []), [(.inr (some (.inl (ck_one (-1)))), 245, ([], [], [(206, 8, 8, ck_one 0), (206, 5, 5, (0, 39, none)), (206, 4, 4, ck_one (-1)), (206, 3, 3, ck_one 0), (206, 2, 2, (0, 2, none))]))])
set_option maxRecDepth 100000 in
theorem p16x_5050_e : ck_ok p1_O none [] [(132, [p16x_276]), (129, [p16x_330]), (29, [p16x_3288]), (30, [p16x_3394])] 167 [(71, [some (.inr (.inr (.inl 1))), some (.inl (0, 2, none)), some (.inl (0, 299, none)), some (.inl (0, 299, none)), some (.inl (ck_one 1)), some (.inl (ck_one 0)), some (.inl (ck_one (-1))), some (.inl (ck_one (-1))), some (.inl (0, 40, none))], ([], [(3, 8, 0)], [(206, 8, 8, ck_one 0), (206, 5, 5, (0, 39, none)), (206, 4, 4, ck_one (-1)), (206, 3, 3, ck_one 0), (206, 2, 2, (0, 2, none)), (3, 6, 6, ck_one 0), (3, 3, 3, ck_one 2), (3, 2, 2, ck_one 10), (3, 1, 1, ck_one 40), (3, 0, 0, ck_one 3), (203, 0, 299, ck_one 0), (202, 0, 593, ck_one 0)]), 100, .inl 8, true)] 202 p16x_5050 = true := by decide +kernel
theorem p16x_5050_s {X : Int → Int} {LX : Nat} : ck_Ok p1_O X LX 167 p16x_5050 := ck_ok_s (ck_E1 (ck_S1 p16x_276_s ck_S0) (ck_E1 (ck_S1 p16x_330_s ck_S0) (ck_E1 (ck_S1 p16x_3288_s ck_S0) (ck_E1 (ck_S1 p16x_3394_s ck_S0) ck_E0)))) ck_X0 ck_l0 p16x_5050_e
set_option maxRecDepth 100000 in
def p16x_5051 : ck_Sum := ((5, 0, 0), 245, [.inr (.inr (.inl 1)), .inl (0, 2, none), .inl (0, 299, none), .inl (0, 299, none), .inl (ck_one 1), .inr (.inr (.inl 245))], ([], [(3, 8, 0)], [(206, 8, 8, ck_one 0), (206, 7, 7, ck_one 0), (206, 5, 5, ck_one 0), (206, 4, 4, ck_one (-1)), (206, 3, 3, ck_one 0), (206, 2, 2, ck_one 0), (3, 6, 6, ck_one 0), (3, 3, 3, ck_one 2), (3, 2, 2, ck_one 10), (3, 1, 1, ck_one 40), (3, 0, 0, ck_one 3), (203, 0, 299, ck_one 0), (202, 0, 593, ck_one 0)]), ([(206, 2, 8), (245, 0, 0)], []), [(.inr (some (.inl (ck_one 0))), 245, ([], [], [(245, 0, 0, ck_one (-1)), (206, 8, 8, ck_one 0), (206, 5, 5, (0, 39, none)), (206, 4, 4, ck_one (-1)), (206, 3, 3, ck_one 0), (206, 2, 2, (0, 2, none))]))])
set_option maxRecDepth 100000 in
theorem p16x_5051_e : ck_ok p1_O none [] [(167, [p16x_5050])] 166 [] 96 p16x_5051 = true := by decide +kernel
theorem p16x_5051_s {X : Int → Int} {LX : Nat} : ck_Ok p1_O X LX 166 p16x_5051 := ck_ok_s (ck_E1 (ck_S1 p16x_5050_s ck_S0) ck_E0) ck_X0 ck_l0 p16x_5051_e
set_option maxRecDepth 100000 in
def p16x_5054 : ck_Sum := ((4, 0, 0), 245, [.inr (.inr (.inl 1)), .inl (0, 2, none), .inl (0, 299, none), .inl (0, 299, none), .inl (ck_one 2)], ([], [(3, 8, 0)], [(206, 8, 8, ck_one 0), (206, 7, 7, ck_one 0), (206, 5, 5, ck_one 0), (206, 4, 4, ck_one (-1)), (206, 3, 3, ck_one 0), (206, 2, 2, ck_one 0), (3, 6, 6, ck_one 0), (3, 3, 3, ck_one 2), (3, 2, 2, ck_one 10), (3, 1, 1, ck_one 40), (3, 0, 0, ck_one 3), (203, 0, 299, ck_one 0), (202, 0, 593, ck_one 0)]), ([(206, 2, 8)], []), [(.inr (some (.inl (ck_one (-1)))), 245, ([], [], [(206, 8, 8, ck_one 0), (206, 5, 5, (0, 39, none)), (206, 4, 4, ck_one (-1)), (206, 3, 3, ck_one 0), (206, 2, 2, (0, 2, none))]))])
set_option maxRecDepth 100000 in
theorem p16x_5054_e : ck_ok p1_O none [] [(132, [p16x_276]), (129, [p16x_330]), (29, [p16x_3288]), (30, [p16x_3394])] 167 [(71, [some (.inr (.inr (.inl 1))), some (.inl (0, 2, none)), some (.inl (0, 299, none)), some (.inl (0, 299, none)), some (.inl (ck_one 2)), some (.inl (ck_one 0)), some (.inl (ck_one (-1))), some (.inl (ck_one (-1))), some (.inl (0, 40, none))], ([], [(3, 8, 0)], [(206, 8, 8, ck_one 0), (206, 5, 5, (0, 39, none)), (206, 4, 4, ck_one (-1)), (206, 3, 3, ck_one 0), (206, 2, 2, (0, 2, none)), (3, 6, 6, ck_one 0), (3, 3, 3, ck_one 2), (3, 2, 2, ck_one 10), (3, 1, 1, ck_one 40), (3, 0, 0, ck_one 3), (203, 0, 299, ck_one 0), (202, 0, 593, ck_one 0)]), 100, .inl 8, true)] 202 p16x_5054 = true := by decide +kernel
theorem p16x_5054_s {X : Int → Int} {LX : Nat} : ck_Ok p1_O X LX 167 p16x_5054 := ck_ok_s (ck_E1 (ck_S1 p16x_276_s ck_S0) (ck_E1 (ck_S1 p16x_330_s ck_S0) (ck_E1 (ck_S1 p16x_3288_s ck_S0) (ck_E1 (ck_S1 p16x_3394_s ck_S0) ck_E0)))) ck_X0 ck_l0 p16x_5054_e
set_option maxRecDepth 100000 in
def p16x_5055 : ck_Sum := ((5, 0, 0), 245, [.inr (.inr (.inl 1)), .inl (0, 2, none), .inl (0, 299, none), .inl (0, 299, none), .inl (ck_one 2), .inr (.inr (.inl 245))], ([], [(3, 8, 0)], [(206, 8, 8, ck_one 0), (206, 7, 7, ck_one 0), (206, 5, 5, ck_one 0), (206, 4, 4, ck_one (-1)), (206, 3, 3, ck_one 0), (206, 2, 2, ck_one 0), (3, 6, 6, ck_one 0), (3, 3, 3, ck_one 2), (3, 2, 2, ck_one 10), (3, 1, 1, ck_one 40), (3, 0, 0, ck_one 3), (203, 0, 299, ck_one 0), (202, 0, 593, ck_one 0)]), ([(206, 2, 8), (245, 0, 0)], []), [(.inr (some (.inl (ck_one 0))), 245, ([], [], [(245, 0, 0, ck_one (-1)), (206, 8, 8, ck_one 0), (206, 5, 5, (0, 39, none)), (206, 4, 4, ck_one (-1)), (206, 3, 3, ck_one 0), (206, 2, 2, (0, 2, none))]))])
set_option maxRecDepth 100000 in
theorem p16x_5055_e : ck_ok p1_O none [] [(167, [p16x_5054])] 166 [] 96 p16x_5055 = true := by decide +kernel
theorem p16x_5055_s {X : Int → Int} {LX : Nat} : ck_Ok p1_O X LX 166 p16x_5055 := ck_ok_s (ck_E1 (ck_S1 p16x_5054_s ck_S0) ck_E0) ck_X0 ck_l0 p16x_5055_e
set_option maxRecDepth 100000 in
def p16x_5058 : ck_Sum := ((6, 1, 6), 245, [.inr (.inr (.inl 1)), .inl (0, 2, none), .inl (0, 299, none), .inl (0, 299, none), .inl (3, 2147483647, none)], ([], [], [(3, 6, 6, ck_one 0), (3, 0, 0, ck_one 3)]), ([], []), [(.inl 4, 245, ([], [], []))])
set_option maxRecDepth 100000 in
theorem p16x_5058_e : ck_ok p1_O none [] [(132, [p16x_276]), (129, [p16x_330])] 167 [] 110 p16x_5058 = true := by decide +kernel
theorem p16x_5058_s {X : Int → Int} {LX : Nat} : ck_Ok p1_O X LX 167 p16x_5058 := ck_ok_s (ck_E1 (ck_S1 p16x_276_s ck_S0) (ck_E1 (ck_S1 p16x_330_s ck_S0) ck_E0)) ck_X0 ck_l0 p16x_5058_e
set_option maxRecDepth 100000 in
def p16x_5059 : ck_Sum := ((7, 1, 6), 245, [.inr (.inr (.inl 1)), .inl (0, 2, none), .inl (0, 299, none), .inl (0, 299, none), .inl (3, 2147483647, none), .inr (.inr (.inl 245))], ([], [], [(3, 6, 6, ck_one 0), (3, 0, 0, ck_one 3)]), ([], []), [(.inr (some (.inl (ck_one 3))), 245, ([], [], []))])
set_option maxRecDepth 100000 in
theorem p16x_5059_e : ck_ok p1_O none [] [(167, [p16x_5058])] 166 [] 92 p16x_5059 = true := by decide +kernel
theorem p16x_5059_s {X : Int → Int} {LX : Nat} : ck_Ok p1_O X LX 166 p16x_5059 := ck_ok_s (ck_E1 (ck_S1 p16x_5058_s ck_S0) ck_E0) ck_X0 ck_l0 p16x_5059_e
set_option maxRecDepth 100000 in
def p16x_5062 : ck_Sum := ((6, 1, 6), 245, [.inr (.inr (.inl 1)), .inl (300, 2147483647, none)], ([], [], []), ([], []), [(.inl 0, 245, ([], [], []))])
set_option maxRecDepth 100000 in
theorem p16x_5062_e : ck_ok p1_O none [] [] 129 [] 82 p16x_5062 = true := by decide +kernel
theorem p16x_5062_s {X : Int → Int} {LX : Nat} : ck_Ok p1_O X LX 129 p16x_5062 := ck_ok_s (ck_E0) ck_X0 ck_l0 p16x_5062_e
set_option maxRecDepth 100000 in
def p16x_5063 : ck_Sum := ((7, 1, 6), 245, [.inr (.inr (.inl 1)), .inl (0, 2, none), .inl (0, 299, none), .inl (300, 2147483647, none), .inl ((-2147483648), (-1), none)], ([], [], [(3, 0, 0, ck_one 3)]), ([], []), [(.inl 0, 245, ([], [], []))])
set_option maxRecDepth 100000 in
theorem p16x_5063_e : ck_ok p1_O none [] [(132, [p16x_276]), (129, [p16x_330, p16x_5062])] 167 [] 88 p16x_5063 = true := by decide +kernel
theorem p16x_5063_s {X : Int → Int} {LX : Nat} : ck_Ok p1_O X LX 167 p16x_5063 := ck_ok_s (ck_E1 (ck_S1 p16x_276_s ck_S0) (ck_E1 (ck_S1 p16x_330_s (ck_S1 p16x_5062_s ck_S0)) ck_E0)) ck_X0 ck_l0 p16x_5063_e
set_option maxRecDepth 100000 in
def p16x_5064 : ck_Sum := ((8, 1, 6), 245, [.inr (.inr (.inl 1)), .inl (0, 2, none), .inl (0, 299, none), .inl (300, 2147483647, none), .inl ((-2147483648), (-1), none), .inr (.inr (.inl 245))], ([], [], [(3, 0, 0, ck_one 3)]), ([], []), [(.inr (some (.inl (ck_one 2))), 245, ([], [], []))])
set_option maxRecDepth 100000 in
theorem p16x_5064_e : ck_ok p1_O none [] [(167, [p16x_5063])] 166 [] 92 p16x_5064 = true := by decide +kernel
theorem p16x_5064_s {X : Int → Int} {LX : Nat} : ck_Ok p1_O X LX 166 p16x_5064 := ck_ok_s (ck_E1 (ck_S1 p16x_5063_s ck_S0) ck_E0) ck_X0 ck_l0 p16x_5064_e
set_option maxRecDepth 100000 in
def p16x_5068 : ck_Sum := ((7, 1, 6), 245, [.inr (.inr (.inl 1)), .inl (0, 2, none), .inl (0, 299, none), .inl (300, 2147483647, none), .inl (ck_one 0)], ([], [], [(3, 0, 0, ck_one 3)]), ([], []), [(.inl 0, 245, ([], [], []))])
set_option maxRecDepth 100000 in
theorem p16x_5068_e : ck_ok p1_O none [] [(132, [p16x_276]), (129, [p16x_330, p16x_5062])] 167 [] 88 p16x_5068 = true := by decide +kernel
theorem p16x_5068_s {X : Int → Int} {LX : Nat} : ck_Ok p1_O X LX 167 p16x_5068 := ck_ok_s (ck_E1 (ck_S1 p16x_276_s ck_S0) (ck_E1 (ck_S1 p16x_330_s (ck_S1 p16x_5062_s ck_S0)) ck_E0)) ck_X0 ck_l0 p16x_5068_e
set_option maxRecDepth 100000 in
def p16x_5069 : ck_Sum := ((8, 1, 6), 245, [.inr (.inr (.inl 1)), .inl (0, 2, none), .inl (0, 299, none), .inl (300, 2147483647, none), .inl (ck_one 0), .inr (.inr (.inl 245))], ([], [], [(3, 0, 0, ck_one 3)]), ([], []), [(.inr (some (.inl (ck_one 2))), 245, ([], [], []))])
set_option maxRecDepth 100000 in
theorem p16x_5069_e : ck_ok p1_O none [] [(167, [p16x_5068])] 166 [] 92 p16x_5069 = true := by decide +kernel
theorem p16x_5069_s {X : Int → Int} {LX : Nat} : ck_Ok p1_O X LX 166 p16x_5069 := ck_ok_s (ck_E1 (ck_S1 p16x_5068_s ck_S0) ck_E0) ck_X0 ck_l0 p16x_5069_e
set_option maxRecDepth 100000 in
def p16x_5071 : ck_Sum := ((7, 1, 6), 245, [.inr (.inr (.inl 1)), .inl (0, 2, none), .inl (0, 299, none), .inl (300, 2147483647, none), .inl (ck_one 1)], ([], [], [(3, 0, 0, ck_one 3)]), ([], []), [(.inl 0, 245, ([], [], []))])
set_option maxRecDepth 100000 in
theorem p16x_5071_e : ck_ok p1_O none [] [(132, [p16x_276]), (129, [p16x_330, p16x_5062])] 167 [] 88 p16x_5071 = true := by decide +kernel
theorem p16x_5071_s {X : Int → Int} {LX : Nat} : ck_Ok p1_O X LX 167 p16x_5071 := ck_ok_s (ck_E1 (ck_S1 p16x_276_s ck_S0) (ck_E1 (ck_S1 p16x_330_s (ck_S1 p16x_5062_s ck_S0)) ck_E0)) ck_X0 ck_l0 p16x_5071_e
set_option maxRecDepth 100000 in
def p16x_5072 : ck_Sum := ((8, 1, 6), 245, [.inr (.inr (.inl 1)), .inl (0, 2, none), .inl (0, 299, none), .inl (300, 2147483647, none), .inl (ck_one 1), .inr (.inr (.inl 245))], ([], [], [(3, 0, 0, ck_one 3)]), ([], []), [(.inr (some (.inl (ck_one 2))), 245, ([], [], []))])
set_option maxRecDepth 100000 in
theorem p16x_5072_e : ck_ok p1_O none [] [(167, [p16x_5071])] 166 [] 92 p16x_5072 = true := by decide +kernel
theorem p16x_5072_s {X : Int → Int} {LX : Nat} : ck_Ok p1_O X LX 166 p16x_5072 := ck_ok_s (ck_E1 (ck_S1 p16x_5071_s ck_S0) ck_E0) ck_X0 ck_l0 p16x_5072_e
set_option maxRecDepth 100000 in
def p16x_5074 : ck_Sum := ((7, 1, 6), 245, [.inr (.inr (.inl 1)), .inl (0, 2, none), .inl (0, 299, none), .inl (300, 2147483647, none), .inl (ck_one 2)], ([], [], [(3, 0, 0, ck_one 3)]), ([], []), [(.inl 0, 245, ([], [], []))])
set_option maxRecDepth 100000 in
theorem p16x_5074_e : ck_ok p1_O none [] [(132, [p16x_276]), (129, [p16x_330, p16x_5062])] 167 [] 88 p16x_5074 = true := by decide +kernel
theorem p16x_5074_s {X : Int → Int} {LX : Nat} : ck_Ok p1_O X LX 167 p16x_5074 := ck_ok_s (ck_E1 (ck_S1 p16x_276_s ck_S0) (ck_E1 (ck_S1 p16x_330_s (ck_S1 p16x_5062_s ck_S0)) ck_E0)) ck_X0 ck_l0 p16x_5074_e
set_option maxRecDepth 100000 in
def p16x_5075 : ck_Sum := ((8, 1, 6), 245, [.inr (.inr (.inl 1)), .inl (0, 2, none), .inl (0, 299, none), .inl (300, 2147483647, none), .inl (ck_one 2), .inr (.inr (.inl 245))], ([], [], [(3, 0, 0, ck_one 3)]), ([], []), [(.inr (some (.inl (ck_one 2))), 245, ([], [], []))])
set_option maxRecDepth 100000 in
theorem p16x_5075_e : ck_ok p1_O none [] [(167, [p16x_5074])] 166 [] 92 p16x_5075 = true := by decide +kernel
theorem p16x_5075_s {X : Int → Int} {LX : Nat} : ck_Ok p1_O X LX 166 p16x_5075 := ck_ok_s (ck_E1 (ck_S1 p16x_5074_s ck_S0) ck_E0) ck_X0 ck_l0 p16x_5075_e
set_option maxRecDepth 100000 in
def p16x_5077 : ck_Sum := ((7, 1, 6), 245, [.inr (.inr (.inl 1)), .inl (0, 2, none), .inl (0, 299, none), .inl (300, 2147483647, none), .inl (3, 2147483647, none)], ([], [], [(3, 0, 0, ck_one 3)]), ([], []), [(.inl 0, 245, ([], [], []))])
set_option maxRecDepth 100000 in
theorem p16x_5077_e : ck_ok p1_O none [] [(132, [p16x_276]), (129, [p16x_330, p16x_5062])] 167 [] 88 p16x_5077 = true := by decide +kernel
theorem p16x_5077_s {X : Int → Int} {LX : Nat} : ck_Ok p1_O X LX 167 p16x_5077 := ck_ok_s (ck_E1 (ck_S1 p16x_276_s ck_S0) (ck_E1 (ck_S1 p16x_330_s (ck_S1 p16x_5062_s ck_S0)) ck_E0)) ck_X0 ck_l0 p16x_5077_e
set_option maxRecDepth 100000 in
def p16x_5078 : ck_Sum := ((8, 1, 6), 245, [.inr (.inr (.inl 1)), .inl (0, 2, none), .inl (0, 299, none), .inl (300, 2147483647, none), .inl (3, 2147483647, none), .inr (.inr (.inl 245))], ([], [], [(3, 0, 0, ck_one 3)]), ([], []), [(.inr (some (.inl (ck_one 2))), 245, ([], [], []))])
set_option maxRecDepth 100000 in
theorem p16x_5078_e : ck_ok p1_O none [] [(167, [p16x_5077])] 166 [] 92 p16x_5078 = true := by decide +kernel
theorem p16x_5078_s {X : Int → Int} {LX : Nat} : ck_Ok p1_O X LX 166 p16x_5078 := ck_ok_s (ck_E1 (ck_S1 p16x_5077_s ck_S0) ck_E0) ck_X0 ck_l0 p16x_5078_e
set_option maxRecDepth 100000 in
def p16x_5080 : ck_Sum := ((7, 1, 6), 245, [.inr (.inr (.inl 1)), .inl (0, 2, none), .inl (300, 2147483647, none), .inl ((-2147483648), (-1), none), .inl ((-2147483648), (-1), none)], ([], [], [(3, 0, 0, ck_one 3)]), ([], []), [(.inl 0, 245, ([], [], []))])
set_option maxRecDepth 100000 in
theorem p16x_5080_e : ck_ok p1_O none [] [(132, [p16x_276]), (129, [p16x_5062])] 167 [] 82 p16x_5080 = true := by decide +kernel
theorem p16x_5080_s {X : Int → Int} {LX : Nat} : ck_Ok p1_O X LX 167 p16x_5080 := ck_ok_s (ck_E1 (ck_S1 p16x_276_s ck_S0) (ck_E1 (ck_S1 p16x_5062_s ck_S0) ck_E0)) ck_X0 ck_l0 p16x_5080_e
set_option maxRecDepth 100000 in
def p16x_5081 : ck_Sum := ((8, 1, 6), 245, [.inr (.inr (.inl 1)), .inl (0, 2, none), .inl (300, 2147483647, none), .inl ((-2147483648), (-1), none), .inl ((-2147483648), (-1), none), .inr (.inr (.inl 245))], ([], [], [(3, 0, 0, ck_one 3)]), ([], []), [(.inr (some (.inl (ck_one 2))), 245, ([], [], []))])
set_option maxRecDepth 100000 in
theorem p16x_5081_e : ck_ok p1_O none [] [(167, [p16x_5080])] 166 [] 92 p16x_5081 = true := by decide +kernel
theorem p16x_5081_s {X : Int → Int} {LX : Nat} : ck_Ok p1_O X LX 166 p16x_5081 := ck_ok_s (ck_E1 (ck_S1 p16x_5080_s ck_S0) ck_E0) ck_X0 ck_l0 p16x_5081_e
set_option maxRecDepth 100000 in
def p16x_5083 : ck_Sum := ((7, 1, 6), 245, [.inr (.inr (.inl 1)), .inl (0, 2, none), .inl (300, 2147483647, none), .inl ((-2147483648), (-1), none), .inl (ck_one 0)], ([], [], [(3, 0, 0, ck_one 3)]), ([], []), [(.inl 0, 245, ([], [], []))])
set_option maxRecDepth 100000 in
theorem p16x_5083_e : ck_ok p1_O none [] [(132, [p16x_276]), (129, [p16x_5062])] 167 [] 82 p16x_5083 = true := by decide +kernel
theorem p16x_5083_s {X : Int → Int} {LX : Nat} : ck_Ok p1_O X LX 167 p16x_5083 := ck_ok_s (ck_E1 (ck_S1 p16x_276_s ck_S0) (ck_E1 (ck_S1 p16x_5062_s ck_S0) ck_E0)) ck_X0 ck_l0 p16x_5083_e
set_option maxRecDepth 100000 in
def p16x_5084 : ck_Sum := ((8, 1, 6), 245, [.inr (.inr (.inl 1)), .inl (0, 2, none), .inl (300, 2147483647, none), .inl ((-2147483648), (-1), none), .inl (ck_one 0), .inr (.inr (.inl 245))], ([], [], [(3, 0, 0, ck_one 3)]), ([], []), [(.inr (some (.inl (ck_one 2))), 245, ([], [], []))])
set_option maxRecDepth 100000 in
theorem p16x_5084_e : ck_ok p1_O none [] [(167, [p16x_5083])] 166 [] 92 p16x_5084 = true := by decide +kernel
theorem p16x_5084_s {X : Int → Int} {LX : Nat} : ck_Ok p1_O X LX 166 p16x_5084 := ck_ok_s (ck_E1 (ck_S1 p16x_5083_s ck_S0) ck_E0) ck_X0 ck_l0 p16x_5084_e
set_option maxRecDepth 100000 in
def p16x_5086 : ck_Sum := ((7, 1, 6), 245, [.inr (.inr (.inl 1)), .inl (0, 2, none), .inl (300, 2147483647, none), .inl ((-2147483648), (-1), none), .inl (ck_one 1)], ([], [], [(3, 0, 0, ck_one 3)]), ([], []), [(.inl 0, 245, ([], [], []))])
set_option maxRecDepth 100000 in
theorem p16x_5086_e : ck_ok p1_O none [] [(132, [p16x_276]), (129, [p16x_5062])] 167 [] 82 p16x_5086 = true := by decide +kernel
theorem p16x_5086_s {X : Int → Int} {LX : Nat} : ck_Ok p1_O X LX 167 p16x_5086 := ck_ok_s (ck_E1 (ck_S1 p16x_276_s ck_S0) (ck_E1 (ck_S1 p16x_5062_s ck_S0) ck_E0)) ck_X0 ck_l0 p16x_5086_e
set_option maxRecDepth 100000 in
def p16x_5087 : ck_Sum := ((8, 1, 6), 245, [.inr (.inr (.inl 1)), .inl (0, 2, none), .inl (300, 2147483647, none), .inl ((-2147483648), (-1), none), .inl (ck_one 1), .inr (.inr (.inl 245))], ([], [], [(3, 0, 0, ck_one 3)]), ([], []), [(.inr (some (.inl (ck_one 2))), 245, ([], [], []))])
set_option maxRecDepth 100000 in
theorem p16x_5087_e : ck_ok p1_O none [] [(167, [p16x_5086])] 166 [] 92 p16x_5087 = true := by decide +kernel
theorem p16x_5087_s {X : Int → Int} {LX : Nat} : ck_Ok p1_O X LX 166 p16x_5087 := ck_ok_s (ck_E1 (ck_S1 p16x_5086_s ck_S0) ck_E0) ck_X0 ck_l0 p16x_5087_e
set_option maxRecDepth 100000 in
def p16x_5089 : ck_Sum := ((7, 1, 6), 245, [.inr (.inr (.inl 1)), .inl (0, 2, none), .inl (300, 2147483647, none), .inl ((-2147483648), (-1), none), .inl (ck_one 2)], ([], [], [(3, 0, 0, ck_one 3)]), ([], []), [(.inl 0, 245, ([], [], []))])
set_option maxRecDepth 100000 in
theorem p16x_5089_e : ck_ok p1_O none [] [(132, [p16x_276]), (129, [p16x_5062])] 167 [] 82 p16x_5089 = true := by decide +kernel
theorem p16x_5089_s {X : Int → Int} {LX : Nat} : ck_Ok p1_O X LX 167 p16x_5089 := ck_ok_s (ck_E1 (ck_S1 p16x_276_s ck_S0) (ck_E1 (ck_S1 p16x_5062_s ck_S0) ck_E0)) ck_X0 ck_l0 p16x_5089_e
set_option maxRecDepth 100000 in
def p16x_5090 : ck_Sum := ((8, 1, 6), 245, [.inr (.inr (.inl 1)), .inl (0, 2, none), .inl (300, 2147483647, none), .inl ((-2147483648), (-1), none), .inl (ck_one 2), .inr (.inr (.inl 245))], ([], [], [(3, 0, 0, ck_one 3)]), ([], []), [(.inr (some (.inl (ck_one 2))), 245, ([], [], []))])
set_option maxRecDepth 100000 in
theorem p16x_5090_e : ck_ok p1_O none [] [(167, [p16x_5089])] 166 [] 92 p16x_5090 = true := by decide +kernel
theorem p16x_5090_s {X : Int → Int} {LX : Nat} : ck_Ok p1_O X LX 166 p16x_5090 := ck_ok_s (ck_E1 (ck_S1 p16x_5089_s ck_S0) ck_E0) ck_X0 ck_l0 p16x_5090_e
set_option maxRecDepth 100000 in
def p16x_5092 : ck_Sum := ((7, 1, 6), 245, [.inr (.inr (.inl 1)), .inl (0, 2, none), .inl (300, 2147483647, none), .inl ((-2147483648), (-1), none), .inl (3, 2147483647, none)], ([], [], [(3, 0, 0, ck_one 3)]), ([], []), [(.inl 0, 245, ([], [], []))])
set_option maxRecDepth 100000 in
theorem p16x_5092_e : ck_ok p1_O none [] [(132, [p16x_276]), (129, [p16x_5062])] 167 [] 82 p16x_5092 = true := by decide +kernel
theorem p16x_5092_s {X : Int → Int} {LX : Nat} : ck_Ok p1_O X LX 167 p16x_5092 := ck_ok_s (ck_E1 (ck_S1 p16x_276_s ck_S0) (ck_E1 (ck_S1 p16x_5062_s ck_S0) ck_E0)) ck_X0 ck_l0 p16x_5092_e
set_option maxRecDepth 100000 in
def p16x_5093 : ck_Sum := ((8, 1, 6), 245, [.inr (.inr (.inl 1)), .inl (0, 2, none), .inl (300, 2147483647, none), .inl ((-2147483648), (-1), none), .inl (3, 2147483647, none), .inr (.inr (.inl 245))], ([], [], [(3, 0, 0, ck_one 3)]), ([], []), [(.inr (some (.inl (ck_one 2))), 245, ([], [], []))])
set_option maxRecDepth 100000 in
theorem p16x_5093_e : ck_ok p1_O none [] [(167, [p16x_5092])] 166 [] 92 p16x_5093 = true := by decide +kernel
theorem p16x_5093_s {X : Int → Int} {LX : Nat} : ck_Ok p1_O X LX 166 p16x_5093 := ck_ok_s (ck_E1 (ck_S1 p16x_5092_s ck_S0) ck_E0) ck_X0 ck_l0 p16x_5093_e
set_option maxRecDepth 100000 in
def p16x_5095 : ck_Sum := ((7, 1, 6), 245, [.inr (.inr (.inl 1)), .inl (0, 2, none), .inl (300, 2147483647, none), .inl (0, 299, none), .inl ((-2147483648), (-1), none)], ([], [], [(3, 0, 0, ck_one 3)]), ([], []), [(.inl 0, 245, ([], [], []))])
set_option maxRecDepth 100000 in
theorem p16x_5095_e : ck_ok p1_O none [] [(132, [p16x_276]), (129, [p16x_5062])] 167 [] 82 p16x_5095 = true := by decide +kernel
theorem p16x_5095_s {X : Int → Int} {LX : Nat} : ck_Ok p1_O X LX 167 p16x_5095 := ck_ok_s (ck_E1 (ck_S1 p16x_276_s ck_S0) (ck_E1 (ck_S1 p16x_5062_s ck_S0) ck_E0)) ck_X0 ck_l0 p16x_5095_e
set_option maxRecDepth 100000 in
def p16x_5096 : ck_Sum := ((8, 1, 6), 245, [.inr (.inr (.inl 1)), .inl (0, 2, none), .inl (300, 2147483647, none), .inl (0, 299, none), .inl ((-2147483648), (-1), none), .inr (.inr (.inl 245))], ([], [], [(3, 0, 0, ck_one 3)]), ([], []), [(.inr (some (.inl (ck_one 2))), 245, ([], [], []))])
set_option maxRecDepth 100000 in
theorem p16x_5096_e : ck_ok p1_O none [] [(167, [p16x_5095])] 166 [] 92 p16x_5096 = true := by decide +kernel
theorem p16x_5096_s {X : Int → Int} {LX : Nat} : ck_Ok p1_O X LX 166 p16x_5096 := ck_ok_s (ck_E1 (ck_S1 p16x_5095_s ck_S0) ck_E0) ck_X0 ck_l0 p16x_5096_e
set_option maxRecDepth 100000 in
def p16x_5098 : ck_Sum := ((7, 1, 6), 245, [.inr (.inr (.inl 1)), .inl (0, 2, none), .inl (300, 2147483647, none), .inl (0, 299, none), .inl (ck_one 0)], ([], [], [(3, 0, 0, ck_one 3)]), ([], []), [(.inl 0, 245, ([], [], []))])
set_option maxRecDepth 100000 in
theorem p16x_5098_e : ck_ok p1_O none [] [(132, [p16x_276]), (129, [p16x_5062])] 167 [] 82 p16x_5098 = true := by decide +kernel
theorem p16x_5098_s {X : Int → Int} {LX : Nat} : ck_Ok p1_O X LX 167 p16x_5098 := ck_ok_s (ck_E1 (ck_S1 p16x_276_s ck_S0) (ck_E1 (ck_S1 p16x_5062_s ck_S0) ck_E0)) ck_X0 ck_l0 p16x_5098_e
set_option maxRecDepth 100000 in
def p16x_5099 : ck_Sum := ((8, 1, 6), 245, [.inr (.inr (.inl 1)), .inl (0, 2, none), .inl (300, 2147483647, none), .inl (0, 299, none), .inl (ck_one 0), .inr (.inr (.inl 245))], ([], [], [(3, 0, 0, ck_one 3)]), ([], []), [(.inr (some (.inl (ck_one 2))), 245, ([], [], []))])
set_option maxRecDepth 100000 in
theorem p16x_5099_e : ck_ok p1_O none [] [(167, [p16x_5098])] 166 [] 92 p16x_5099 = true := by decide +kernel
theorem p16x_5099_s {X : Int → Int} {LX : Nat} : ck_Ok p1_O X LX 166 p16x_5099 := ck_ok_s (ck_E1 (ck_S1 p16x_5098_s ck_S0) ck_E0) ck_X0 ck_l0 p16x_5099_e
set_option maxRecDepth 100000 in
def p16x_5101 : ck_Sum := ((7, 1, 6), 245, [.inr (.inr (.inl 1)), .inl (0, 2, none), .inl (300, 2147483647, none), .inl (0, 299, none), .inl (ck_one 1)], ([], [], [(3, 0, 0, ck_one 3)]), ([], []), [(.inl 0, 245, ([], [], []))])
set_option maxRecDepth 100000 in
theorem p16x_5101_e : ck_ok p1_O none [] [(132, [p16x_276]), (129, [p16x_5062])] 167 [] 82 p16x_5101 = true := by decide +kernel
theorem p16x_5101_s {X : Int → Int} {LX : Nat} : ck_Ok p1_O X LX 167 p16x_5101 := ck_ok_s (ck_E1 (ck_S1 p16x_276_s ck_S0) (ck_E1 (ck_S1 p16x_5062_s ck_S0) ck_E0)) ck_X0 ck_l0 p16x_5101_e
set_option maxRecDepth 100000 in
def p16x_5102 : ck_Sum := ((8, 1, 6), 245, [.inr (.inr (.inl 1)), .inl (0, 2, none), .inl (300, 2147483647, none), .inl (0, 299, none), .inl (ck_one 1), .inr (.inr (.inl 245))], ([], [], [(3, 0, 0, ck_one 3)]), ([], []), [(.inr (some (.inl (ck_one 2))), 245, ([], [], []))])
set_option maxRecDepth 100000 in
theorem p16x_5102_e : ck_ok p1_O none [] [(167, [p16x_5101])] 166 [] 92 p16x_5102 = true := by decide +kernel
theorem p16x_5102_s {X : Int → Int} {LX : Nat} : ck_Ok p1_O X LX 166 p16x_5102 := ck_ok_s (ck_E1 (ck_S1 p16x_5101_s ck_S0) ck_E0) ck_X0 ck_l0 p16x_5102_e
set_option maxRecDepth 100000 in
def p16x_5104 : ck_Sum := ((7, 1, 6), 245, [.inr (.inr (.inl 1)), .inl (0, 2, none), .inl (300, 2147483647, none), .inl (0, 299, none), .inl (ck_one 2)], ([], [], [(3, 0, 0, ck_one 3)]), ([], []), [(.inl 0, 245, ([], [], []))])
set_option maxRecDepth 100000 in
theorem p16x_5104_e : ck_ok p1_O none [] [(132, [p16x_276]), (129, [p16x_5062])] 167 [] 82 p16x_5104 = true := by decide +kernel
theorem p16x_5104_s {X : Int → Int} {LX : Nat} : ck_Ok p1_O X LX 167 p16x_5104 := ck_ok_s (ck_E1 (ck_S1 p16x_276_s ck_S0) (ck_E1 (ck_S1 p16x_5062_s ck_S0) ck_E0)) ck_X0 ck_l0 p16x_5104_e
set_option maxRecDepth 100000 in
def p16x_5105 : ck_Sum := ((8, 1, 6), 245, [.inr (.inr (.inl 1)), .inl (0, 2, none), .inl (300, 2147483647, none), .inl (0, 299, none), .inl (ck_one 2), .inr (.inr (.inl 245))], ([], [], [(3, 0, 0, ck_one 3)]), ([], []), [(.inr (some (.inl (ck_one 2))), 245, ([], [], []))])
set_option maxRecDepth 100000 in
theorem p16x_5105_e : ck_ok p1_O none [] [(167, [p16x_5104])] 166 [] 92 p16x_5105 = true := by decide +kernel
theorem p16x_5105_s {X : Int → Int} {LX : Nat} : ck_Ok p1_O X LX 166 p16x_5105 := ck_ok_s (ck_E1 (ck_S1 p16x_5104_s ck_S0) ck_E0) ck_X0 ck_l0 p16x_5105_e
set_option maxRecDepth 100000 in
def p16x_5107 : ck_Sum := ((7, 1, 6), 245, [.inr (.inr (.inl 1)), .inl (0, 2, none), .inl (300, 2147483647, none), .inl (0, 299, none), .inl (3, 2147483647, none)], ([], [], [(3, 0, 0, ck_one 3)]), ([], []), [(.inl 0, 245, ([], [], []))])
set_option maxRecDepth 100000 in
theorem p16x_5107_e : ck_ok p1_O none [] [(132, [p16x_276]), (129, [p16x_5062])] 167 [] 82 p16x_5107 = true := by decide +kernel
theorem p16x_5107_s {X : Int → Int} {LX : Nat} : ck_Ok p1_O X LX 167 p16x_5107 := ck_ok_s (ck_E1 (ck_S1 p16x_276_s ck_S0) (ck_E1 (ck_S1 p16x_5062_s ck_S0) ck_E0)) ck_X0 ck_l0 p16x_5107_e
set_option maxRecDepth 100000 in
def p16x_5108 : ck_Sum := ((8, 1, 6), 245, [.inr (.inr (.inl 1)), .inl (0, 2, none), .inl (300, 2147483647, none), .inl (0, 299, none), .inl (3, 2147483647, none), .inr (.inr (.inl 245))], ([], [], [(3, 0, 0, ck_one 3)]), ([], []), [(.inr (some (.inl (ck_one 2))), 245, ([], [], []))])
set_option maxRecDepth 100000 in
theorem p16x_5108_e : ck_ok p1_O none [] [(167, [p16x_5107])] 166 [] 92 p16x_5108 = true := by decide +kernel
theorem p16x_5108_s {X : Int → Int} {LX : Nat} : ck_Ok p1_O X LX 166 p16x_5108 := ck_ok_s (ck_E1 (ck_S1 p16x_5107_s ck_S0) ck_E0) ck_X0 ck_l0 p16x_5108_e
set_option maxRecDepth 100000 in
def p16x_5110 : ck_Sum := ((7, 1, 6), 245, [.inr (.inr (.inl 1)), .inl (0, 2, none), .inl (300, 2147483647, none), .inl (300, 2147483647, none), .inl ((-2147483648), (-1), none)], ([], [], [(3, 0, 0, ck_one 3)]), ([], []), [(.inl 0, 245, ([], [], []))])
set_option maxRecDepth 100000 in
theorem p16x_5110_e : ck_ok p1_O none [] [(132, [p16x_276]), (129, [p16x_5062])] 167 [] 82 p16x_5110 = true := by decide +kernel
theorem p16x_5110_s {X : Int → Int} {LX : Nat} : ck_Ok p1_O X LX 167 p16x_5110 := ck_ok_s (ck_E1 (ck_S1 p16x_276_s ck_S0) (ck_E1 (ck_S1 p16x_5062_s ck_S0) ck_E0)) ck_X0 ck_l0 p16x_5110_e
set_option maxRecDepth 100000 in
def p16x_5111 : ck_Sum := ((8, 1, 6), 245, [.inr (.inr (.inl 1)), .inl (0, 2, none), .inl (300, 2147483647, none), .inl (300, 2147483647, none), .inl ((-2147483648), (-1), none), .inr (.inr (.inl 245))], ([], [], [(3, 0, 0, ck_one 3)]), ([], []), [(.inr (some (.inl (ck_one 2))), 245, ([], [], []))])
set_option maxRecDepth 100000 in
theorem p16x_5111_e : ck_ok p1_O none [] [(167, [p16x_5110])] 166 [] 92 p16x_5111 = true := by decide +kernel
theorem p16x_5111_s {X : Int → Int} {LX : Nat} : ck_Ok p1_O X LX 166 p16x_5111 := ck_ok_s (ck_E1 (ck_S1 p16x_5110_s ck_S0) ck_E0) ck_X0 ck_l0 p16x_5111_e
set_option maxRecDepth 100000 in
def p16x_5113 : ck_Sum := ((7, 1, 6), 245, [.inr (.inr (.inl 1)), .inl (0, 2, none), .inl (300, 2147483647, none), .inl (300, 2147483647, none), .inl (ck_one 0)], ([], [], [(3, 0, 0, ck_one 3)]), ([], []), [(.inl 0, 245, ([], [], []))])
set_option maxRecDepth 100000 in
theorem p16x_5113_e : ck_ok p1_O none [] [(132, [p16x_276]), (129, [p16x_5062])] 167 [] 82 p16x_5113 = true := by decide +kernel
theorem p16x_5113_s {X : Int → Int} {LX : Nat} : ck_Ok p1_O X LX 167 p16x_5113 := ck_ok_s (ck_E1 (ck_S1 p16x_276_s ck_S0) (ck_E1 (ck_S1 p16x_5062_s ck_S0) ck_E0)) ck_X0 ck_l0 p16x_5113_e
set_option maxRecDepth 100000 in
def p16x_5114 : ck_Sum := ((8, 1, 6), 245, [.inr (.inr (.inl 1)), .inl (0, 2, none), .inl (300, 2147483647, none), .inl (300, 2147483647, none), .inl (ck_one 0), .inr (.inr (.inl 245))], ([], [], [(3, 0, 0, ck_one 3)]), ([], []), [(.inr (some (.inl (ck_one 2))), 245, ([], [], []))])
set_option maxRecDepth 100000 in
theorem p16x_5114_e : ck_ok p1_O none [] [(167, [p16x_5113])] 166 [] 92 p16x_5114 = true := by decide +kernel
theorem p16x_5114_s {X : Int → Int} {LX : Nat} : ck_Ok p1_O X LX 166 p16x_5114 := ck_ok_s (ck_E1 (ck_S1 p16x_5113_s ck_S0) ck_E0) ck_X0 ck_l0 p16x_5114_e
set_option maxRecDepth 100000 in
def p16x_5116 : ck_Sum := ((7, 1, 6), 245, [.inr (.inr (.inl 1)), .inl (0, 2, none), .inl (300, 2147483647, none), .inl (300, 2147483647, none), .inl (ck_one 1)], ([], [], [(3, 0, 0, ck_one 3)]), ([], []), [(.inl 0, 245, ([], [], []))])
set_option maxRecDepth 100000 in
theorem p16x_5116_e : ck_ok p1_O none [] [(132, [p16x_276]), (129, [p16x_5062])] 167 [] 82 p16x_5116 = true := by decide +kernel
theorem p16x_5116_s {X : Int → Int} {LX : Nat} : ck_Ok p1_O X LX 167 p16x_5116 := ck_ok_s (ck_E1 (ck_S1 p16x_276_s ck_S0) (ck_E1 (ck_S1 p16x_5062_s ck_S0) ck_E0)) ck_X0 ck_l0 p16x_5116_e
set_option maxRecDepth 100000 in
def p16x_5117 : ck_Sum := ((8, 1, 6), 245, [.inr (.inr (.inl 1)), .inl (0, 2, none), .inl (300, 2147483647, none), .inl (300, 2147483647, none), .inl (ck_one 1), .inr (.inr (.inl 245))], ([], [], [(3, 0, 0, ck_one 3)]), ([], []), [(.inr (some (.inl (ck_one 2))), 245, ([], [], []))])
set_option maxRecDepth 100000 in
theorem p16x_5117_e : ck_ok p1_O none [] [(167, [p16x_5116])] 166 [] 92 p16x_5117 = true := by decide +kernel
theorem p16x_5117_s {X : Int → Int} {LX : Nat} : ck_Ok p1_O X LX 166 p16x_5117 := ck_ok_s (ck_E1 (ck_S1 p16x_5116_s ck_S0) ck_E0) ck_X0 ck_l0 p16x_5117_e
set_option maxRecDepth 100000 in
def p16x_5119 : ck_Sum := ((7, 1, 6), 245, [.inr (.inr (.inl 1)), .inl (0, 2, none), .inl (300, 2147483647, none), .inl (300, 2147483647, none), .inl (ck_one 2)], ([], [], [(3, 0, 0, ck_one 3)]), ([], []), [(.inl 0, 245, ([], [], []))])
set_option maxRecDepth 100000 in
theorem p16x_5119_e : ck_ok p1_O none [] [(132, [p16x_276]), (129, [p16x_5062])] 167 [] 82 p16x_5119 = true := by decide +kernel
theorem p16x_5119_s {X : Int → Int} {LX : Nat} : ck_Ok p1_O X LX 167 p16x_5119 := ck_ok_s (ck_E1 (ck_S1 p16x_276_s ck_S0) (ck_E1 (ck_S1 p16x_5062_s ck_S0) ck_E0)) ck_X0 ck_l0 p16x_5119_e
set_option maxRecDepth 100000 in
def p16x_5120 : ck_Sum := ((8, 1, 6), 245, [.inr (.inr (.inl 1)), .inl (0, 2, none), .inl (300, 2147483647, none), .inl (300, 2147483647, none), .inl (ck_one 2), .inr (.inr (.inl 245))], ([], [], [(3, 0, 0, ck_one 3)]), ([], []), [(.inr (some (.inl (ck_one 2))), 245, ([], [], []))])
set_option maxRecDepth 100000 in
theorem p16x_5120_e : ck_ok p1_O none [] [(167, [p16x_5119])] 166 [] 92 p16x_5120 = true := by decide +kernel
theorem p16x_5120_s {X : Int → Int} {LX : Nat} : ck_Ok p1_O X LX 166 p16x_5120 := ck_ok_s (ck_E1 (ck_S1 p16x_5119_s ck_S0) ck_E0) ck_X0 ck_l0 p16x_5120_e
set_option maxRecDepth 100000 in
def p16x_5122 : ck_Sum := ((7, 1, 6), 245, [.inr (.inr (.inl 1)), .inl (0, 2, none), .inl (300, 2147483647, none), .inl (300, 2147483647, none), .inl (3, 2147483647, none)], ([], [], [(3, 0, 0, ck_one 3)]), ([], []), [(.inl 0, 245, ([], [], []))])
set_option maxRecDepth 100000 in
theorem p16x_5122_e : ck_ok p1_O none [] [(132, [p16x_276]), (129, [p16x_5062])] 167 [] 82 p16x_5122 = true := by decide +kernel
theorem p16x_5122_s {X : Int → Int} {LX : Nat} : ck_Ok p1_O X LX 167 p16x_5122 := ck_ok_s (ck_E1 (ck_S1 p16x_276_s ck_S0) (ck_E1 (ck_S1 p16x_5062_s ck_S0) ck_E0)) ck_X0 ck_l0 p16x_5122_e
set_option maxRecDepth 100000 in
def p16x_5123 : ck_Sum := ((8, 1, 6), 245, [.inr (.inr (.inl 1)), .inl (0, 2, none), .inl (300, 2147483647, none), .inl (300, 2147483647, none), .inl (3, 2147483647, none), .inr (.inr (.inl 245))], ([], [], [(3, 0, 0, ck_one 3)]), ([], []), [(.inr (some (.inl (ck_one 2))), 245, ([], [], []))])
set_option maxRecDepth 100000 in
theorem p16x_5123_e : ck_ok p1_O none [] [(167, [p16x_5122])] 166 [] 92 p16x_5123 = true := by decide +kernel
theorem p16x_5123_s {X : Int → Int} {LX : Nat} : ck_Ok p1_O X LX 166 p16x_5123 := ck_ok_s (ck_E1 (ck_S1 p16x_5122_s ck_S0) ck_E0) ck_X0 ck_l0 p16x_5123_e
set_option maxRecDepth 100000 in
def p16x_5125 : ck_Sum := ((6, 1, 6), 245, [.inr (.inr (.inl 1)), .inl (3, 2147483647, none), .inl (ck_one 3)], ([], [], []), ([], []), [(.inl 3, 245, ([], [], []))])
set_option maxRecDepth 100000 in
theorem p16x_5125_e : ck_ok p1_O none [] [] 133 [] 82 p16x_5125 = true := by decide +kernel
theorem p16x_5125_s {X : Int → Int} {LX : Nat} : ck_Ok p1_O X LX 133 p16x_5125 := ck_ok_s (ck_E0) ck_X0 ck_l0 p16x_5125_e
set_option maxRecDepth 100000 in
def p16x_5126 : ck_Sum := ((7, 1, 6), 245, [.inr (.inr (.inl 1)), .inl (3, 2147483647, none)], ([], [], [(3, 0, 0, ck_one 3)]), ([], []), [(.inl 3, 245, ([], [], []))])
set_option maxRecDepth 100000 in
theorem p16x_5126_e : ck_ok p1_O none [] [(133, [p16x_5125])] 132 [] 82 p16x_5126 = true := by decide +kernel
theorem p16x_5126_s {X : Int → Int} {LX : Nat} : ck_Ok p1_O X LX 132 p16x_5126 := ck_ok_s (ck_E1 (ck_S1 p16x_5125_s ck_S0) ck_E0) ck_X0 ck_l0 p16x_5126_e
set_option maxRecDepth 100000 in
def p16x_5127 : ck_Sum := ((8, 1, 6), 245, [.inr (.inr (.inl 1)), .inl (3, 2147483647, none), .inl ((-2147483648), (-1), none), .inl ((-2147483648), (-1), none), .inl ((-2147483648), (-1), none)], ([], [], [(3, 0, 0, ck_one 3)]), ([], []), [(.inl 3, 245, ([], [], []))])
set_option maxRecDepth 100000 in
theorem p16x_5127_e : ck_ok p1_O none [] [(132, [p16x_5126])] 167 [] 76 p16x_5127 = true := by decide +kernel
theorem p16x_5127_s {X : Int → Int} {LX : Nat} : ck_Ok p1_O X LX 167 p16x_5127 := ck_ok_s (ck_E1 (ck_S1 p16x_5126_s ck_S0) ck_E0) ck_X0 ck_l0 p16x_5127_e
set_option maxRecDepth 100000 in
def p16x_5128 : ck_Sum := ((9, 1, 6), 245, [.inr (.inr (.inl 1)), .inl (3, 2147483647, none), .inl ((-2147483648), (-1), none), .inl ((-2147483648), (-1), none), .inl ((-2147483648), (-1), none), .inr (.inr (.inl 245))], ([], [], [(3, 0, 0, ck_one 3)]), ([], []), [(.inr (some (.inl (ck_one 1))), 245, ([], [], []))])
set_option maxRecDepth 100000 in
theorem p16x_5128_e : ck_ok p1_O none [] [(167, [p16x_5127])] 166 [] 92 p16x_5128 = true := by decide +kernel
theorem p16x_5128_s {X : Int → Int} {LX : Nat} : ck_Ok p1_O X LX 166 p16x_5128 := ck_ok_s (ck_E1 (ck_S1 p16x_5127_s ck_S0) ck_E0) ck_X0 ck_l0 p16x_5128_e
set_option maxRecDepth 100000 in
def p16x_5131 : ck_Sum := ((8, 1, 6), 245, [.inr (.inr (.inl 1)), .inl (3, 2147483647, none), .inl ((-2147483648), (-1), none), .inl ((-2147483648), (-1), none), .inl (ck_one 0)], ([], [], [(3, 0, 0, ck_one 3)]), ([], []), [(.inl 3, 245, ([], [], []))])
set_option maxRecDepth 100000 in
theorem p16x_5131_e : ck_ok p1_O none [] [(132, [p16x_5126])] 167 [] 76 p16x_5131 = true := by decide +kernel
theorem p16x_5131_s {X : Int → Int} {LX : Nat} : ck_Ok p1_O X LX 167 p16x_5131 := ck_ok_s (ck_E1 (ck_S1 p16x_5126_s ck_S0) ck_E0) ck_X0 ck_l0 p16x_5131_e
set_option maxRecDepth 100000 in
def p16x_5132 : ck_Sum := ((9, 1, 6), 245, [.inr (.inr (.inl 1)), .inl (3, 2147483647, none), .inl ((-2147483648), (-1), none), .inl ((-2147483648), (-1), none), .inl (ck_one 0), .inr (.inr (.inl 245))], ([], [], [(3, 0, 0, ck_one 3)]), ([], []), [(.inr (some (.inl (ck_one 1))), 245, ([], [], []))])
set_option maxRecDepth 100000 in
theorem p16x_5132_e : ck_ok p1_O none [] [(167, [p16x_5131])] 166 [] 92 p16x_5132 = true := by decide +kernel
theorem p16x_5132_s {X : Int → Int} {LX : Nat} : ck_Ok p1_O X LX 166 p16x_5132 := ck_ok_s (ck_E1 (ck_S1 p16x_5131_s ck_S0) ck_E0) ck_X0 ck_l0 p16x_5132_e
set_option maxRecDepth 100000 in
def p16x_5134 : ck_Sum := ((8, 1, 6), 245, [.inr (.inr (.inl 1)), .inl (3, 2147483647, none), .inl ((-2147483648), (-1), none), .inl ((-2147483648), (-1), none), .inl (ck_one 1)], ([], [], [(3, 0, 0, ck_one 3)]), ([], []), [(.inl 3, 245, ([], [], []))])
set_option maxRecDepth 100000 in
theorem p16x_5134_e : ck_ok p1_O none [] [(132, [p16x_5126])] 167 [] 76 p16x_5134 = true := by decide +kernel
theorem p16x_5134_s {X : Int → Int} {LX : Nat} : ck_Ok p1_O X LX 167 p16x_5134 := ck_ok_s (ck_E1 (ck_S1 p16x_5126_s ck_S0) ck_E0) ck_X0 ck_l0 p16x_5134_e
set_option maxRecDepth 100000 in
def p16x_5135 : ck_Sum := ((9, 1, 6), 245, [.inr (.inr (.inl 1)), .inl (3, 2147483647, none), .inl ((-2147483648), (-1), none), .inl ((-2147483648), (-1), none), .inl (ck_one 1), .inr (.inr (.inl 245))], ([], [], [(3, 0, 0, ck_one 3)]), ([], []), [(.inr (some (.inl (ck_one 1))), 245, ([], [], []))])
set_option maxRecDepth 100000 in
theorem p16x_5135_e : ck_ok p1_O none [] [(167, [p16x_5134])] 166 [] 92 p16x_5135 = true := by decide +kernel
theorem p16x_5135_s {X : Int → Int} {LX : Nat} : ck_Ok p1_O X LX 166 p16x_5135 := ck_ok_s (ck_E1 (ck_S1 p16x_5134_s ck_S0) ck_E0) ck_X0 ck_l0 p16x_5135_e
set_option maxRecDepth 100000 in
def p16x_5137 : ck_Sum := ((8, 1, 6), 245, [.inr (.inr (.inl 1)), .inl (3, 2147483647, none), .inl ((-2147483648), (-1), none), .inl ((-2147483648), (-1), none), .inl (ck_one 2)], ([], [], [(3, 0, 0, ck_one 3)]), ([], []), [(.inl 3, 245, ([], [], []))])
set_option maxRecDepth 100000 in
theorem p16x_5137_e : ck_ok p1_O none [] [(132, [p16x_5126])] 167 [] 76 p16x_5137 = true := by decide +kernel
theorem p16x_5137_s {X : Int → Int} {LX : Nat} : ck_Ok p1_O X LX 167 p16x_5137 := ck_ok_s (ck_E1 (ck_S1 p16x_5126_s ck_S0) ck_E0) ck_X0 ck_l0 p16x_5137_e
set_option maxRecDepth 100000 in
def p16x_5138 : ck_Sum := ((9, 1, 6), 245, [.inr (.inr (.inl 1)), .inl (3, 2147483647, none), .inl ((-2147483648), (-1), none), .inl ((-2147483648), (-1), none), .inl (ck_one 2), .inr (.inr (.inl 245))], ([], [], [(3, 0, 0, ck_one 3)]), ([], []), [(.inr (some (.inl (ck_one 1))), 245, ([], [], []))])
set_option maxRecDepth 100000 in
theorem p16x_5138_e : ck_ok p1_O none [] [(167, [p16x_5137])] 166 [] 92 p16x_5138 = true := by decide +kernel
theorem p16x_5138_s {X : Int → Int} {LX : Nat} : ck_Ok p1_O X LX 166 p16x_5138 := ck_ok_s (ck_E1 (ck_S1 p16x_5137_s ck_S0) ck_E0) ck_X0 ck_l0 p16x_5138_e
set_option maxRecDepth 100000 in
def p16x_5140 : ck_Sum := ((8, 1, 6), 245, [.inr (.inr (.inl 1)), .inl (3, 2147483647, none), .inl ((-2147483648), (-1), none), .inl ((-2147483648), (-1), none), .inl (3, 2147483647, none)], ([], [], [(3, 0, 0, ck_one 3)]), ([], []), [(.inl 3, 245, ([], [], []))])
set_option maxRecDepth 100000 in
theorem p16x_5140_e : ck_ok p1_O none [] [(132, [p16x_5126])] 167 [] 76 p16x_5140 = true := by decide +kernel
theorem p16x_5140_s {X : Int → Int} {LX : Nat} : ck_Ok p1_O X LX 167 p16x_5140 := ck_ok_s (ck_E1 (ck_S1 p16x_5126_s ck_S0) ck_E0) ck_X0 ck_l0 p16x_5140_e
set_option maxRecDepth 100000 in
def p16x_5141 : ck_Sum := ((9, 1, 6), 245, [.inr (.inr (.inl 1)), .inl (3, 2147483647, none), .inl ((-2147483648), (-1), none), .inl ((-2147483648), (-1), none), .inl (3, 2147483647, none), .inr (.inr (.inl 245))], ([], [], [(3, 0, 0, ck_one 3)]), ([], []), [(.inr (some (.inl (ck_one 1))), 245, ([], [], []))])
set_option maxRecDepth 100000 in
theorem p16x_5141_e : ck_ok p1_O none [] [(167, [p16x_5140])] 166 [] 92 p16x_5141 = true := by decide +kernel
theorem p16x_5141_s {X : Int → Int} {LX : Nat} : ck_Ok p1_O X LX 166 p16x_5141 := ck_ok_s (ck_E1 (ck_S1 p16x_5140_s ck_S0) ck_E0) ck_X0 ck_l0 p16x_5141_e
set_option maxRecDepth 100000 in
def p16x_5143 : ck_Sum := ((8, 1, 6), 245, [.inr (.inr (.inl 1)), .inl (3, 2147483647, none), .inl ((-2147483648), (-1), none), .inl (0, 299, none), .inl ((-2147483648), (-1), none)], ([], [], [(3, 0, 0, ck_one 3)]), ([], []), [(.inl 3, 245, ([], [], []))])
set_option maxRecDepth 100000 in
theorem p16x_5143_e : ck_ok p1_O none [] [(132, [p16x_5126])] 167 [] 76 p16x_5143 = true := by decide +kernel
theorem p16x_5143_s {X : Int → Int} {LX : Nat} : ck_Ok p1_O X LX 167 p16x_5143 := ck_ok_s (ck_E1 (ck_S1 p16x_5126_s ck_S0) ck_E0) ck_X0 ck_l0 p16x_5143_e
set_option maxRecDepth 100000 in
def p16x_5144 : ck_Sum := ((9, 1, 6), 245, [.inr (.inr (.inl 1)), .inl (3, 2147483647, none), .inl ((-2147483648), (-1), none), .inl (0, 299, none), .inl ((-2147483648), (-1), none), .inr (.inr (.inl 245))], ([], [], [(3, 0, 0, ck_one 3)]), ([], []), [(.inr (some (.inl (ck_one 1))), 245, ([], [], []))])
set_option maxRecDepth 100000 in
theorem p16x_5144_e : ck_ok p1_O none [] [(167, [p16x_5143])] 166 [] 92 p16x_5144 = true := by decide +kernel
theorem p16x_5144_s {X : Int → Int} {LX : Nat} : ck_Ok p1_O X LX 166 p16x_5144 := ck_ok_s (ck_E1 (ck_S1 p16x_5143_s ck_S0) ck_E0) ck_X0 ck_l0 p16x_5144_e
set_option maxRecDepth 100000 in
def p16x_5146 : ck_Sum := ((8, 1, 6), 245, [.inr (.inr (.inl 1)), .inl (3, 2147483647, none), .inl ((-2147483648), (-1), none), .inl (0, 299, none), .inl (ck_one 0)], ([], [], [(3, 0, 0, ck_one 3)]), ([], []), [(.inl 3, 245, ([], [], []))])
set_option maxRecDepth 100000 in
theorem p16x_5146_e : ck_ok p1_O none [] [(132, [p16x_5126])] 167 [] 76 p16x_5146 = true := by decide +kernel
theorem p16x_5146_s {X : Int → Int} {LX : Nat} : ck_Ok p1_O X LX 167 p16x_5146 := ck_ok_s (ck_E1 (ck_S1 p16x_5126_s ck_S0) ck_E0) ck_X0 ck_l0 p16x_5146_e
set_option maxRecDepth 100000 in
def p16x_5147 : ck_Sum := ((9, 1, 6), 245, [.inr (.inr (.inl 1)), .inl (3, 2147483647, none), .inl ((-2147483648), (-1), none), .inl (0, 299, none), .inl (ck_one 0), .inr (.inr (.inl 245))], ([], [], [(3, 0, 0, ck_one 3)]), ([], []), [(.inr (some (.inl (ck_one 1))), 245, ([], [], []))])
set_option maxRecDepth 100000 in
theorem p16x_5147_e : ck_ok p1_O none [] [(167, [p16x_5146])] 166 [] 92 p16x_5147 = true := by decide +kernel
theorem p16x_5147_s {X : Int → Int} {LX : Nat} : ck_Ok p1_O X LX 166 p16x_5147 := ck_ok_s (ck_E1 (ck_S1 p16x_5146_s ck_S0) ck_E0) ck_X0 ck_l0 p16x_5147_e
set_option maxRecDepth 100000 in
def p16x_5149 : ck_Sum := ((8, 1, 6), 245, [.inr (.inr (.inl 1)), .inl (3, 2147483647, none), .inl ((-2147483648), (-1), none), .inl (0, 299, none), .inl (ck_one 1)], ([], [], [(3, 0, 0, ck_one 3)]), ([], []), [(.inl 3, 245, ([], [], []))])
set_option maxRecDepth 100000 in
theorem p16x_5149_e : ck_ok p1_O none [] [(132, [p16x_5126])] 167 [] 76 p16x_5149 = true := by decide +kernel
theorem p16x_5149_s {X : Int → Int} {LX : Nat} : ck_Ok p1_O X LX 167 p16x_5149 := ck_ok_s (ck_E1 (ck_S1 p16x_5126_s ck_S0) ck_E0) ck_X0 ck_l0 p16x_5149_e
set_option maxRecDepth 100000 in
def p16x_5150 : ck_Sum := ((9, 1, 6), 245, [.inr (.inr (.inl 1)), .inl (3, 2147483647, none), .inl ((-2147483648), (-1), none), .inl (0, 299, none), .inl (ck_one 1), .inr (.inr (.inl 245))], ([], [], [(3, 0, 0, ck_one 3)]), ([], []), [(.inr (some (.inl (ck_one 1))), 245, ([], [], []))])
set_option maxRecDepth 100000 in
theorem p16x_5150_e : ck_ok p1_O none [] [(167, [p16x_5149])] 166 [] 92 p16x_5150 = true := by decide +kernel
theorem p16x_5150_s {X : Int → Int} {LX : Nat} : ck_Ok p1_O X LX 166 p16x_5150 := ck_ok_s (ck_E1 (ck_S1 p16x_5149_s ck_S0) ck_E0) ck_X0 ck_l0 p16x_5150_e
set_option maxRecDepth 100000 in
def p16x_5152 : ck_Sum := ((8, 1, 6), 245, [.inr (.inr (.inl 1)), .inl (3, 2147483647, none), .inl ((-2147483648), (-1), none), .inl (0, 299, none), .inl (ck_one 2)], ([], [], [(3, 0, 0, ck_one 3)]), ([], []), [(.inl 3, 245, ([], [], []))])
set_option maxRecDepth 100000 in
theorem p16x_5152_e : ck_ok p1_O none [] [(132, [p16x_5126])] 167 [] 76 p16x_5152 = true := by decide +kernel
theorem p16x_5152_s {X : Int → Int} {LX : Nat} : ck_Ok p1_O X LX 167 p16x_5152 := ck_ok_s (ck_E1 (ck_S1 p16x_5126_s ck_S0) ck_E0) ck_X0 ck_l0 p16x_5152_e
set_option maxRecDepth 100000 in
def p16x_5153 : ck_Sum := ((9, 1, 6), 245, [.inr (.inr (.inl 1)), .inl (3, 2147483647, none), .inl ((-2147483648), (-1), none), .inl (0, 299, none), .inl (ck_one 2), .inr (.inr (.inl 245))], ([], [], [(3, 0, 0, ck_one 3)]), ([], []), [(.inr (some (.inl (ck_one 1))), 245, ([], [], []))])
set_option maxRecDepth 100000 in
theorem p16x_5153_e : ck_ok p1_O none [] [(167, [p16x_5152])] 166 [] 92 p16x_5153 = true := by decide +kernel
theorem p16x_5153_s {X : Int → Int} {LX : Nat} : ck_Ok p1_O X LX 166 p16x_5153 := ck_ok_s (ck_E1 (ck_S1 p16x_5152_s ck_S0) ck_E0) ck_X0 ck_l0 p16x_5153_e
set_option maxRecDepth 100000 in
def p16x_5155 : ck_Sum := ((8, 1, 6), 245, [.inr (.inr (.inl 1)), .inl (3, 2147483647, none), .inl ((-2147483648), (-1), none), .inl (0, 299, none), .inl (3, 2147483647, none)], ([], [], [(3, 0, 0, ck_one 3)]), ([], []), [(.inl 3, 245, ([], [], []))])
set_option maxRecDepth 100000 in
theorem p16x_5155_e : ck_ok p1_O none [] [(132, [p16x_5126])] 167 [] 76 p16x_5155 = true := by decide +kernel
theorem p16x_5155_s {X : Int → Int} {LX : Nat} : ck_Ok p1_O X LX 167 p16x_5155 := ck_ok_s (ck_E1 (ck_S1 p16x_5126_s ck_S0) ck_E0) ck_X0 ck_l0 p16x_5155_e
set_option maxRecDepth 100000 in
def p16x_5156 : ck_Sum := ((9, 1, 6), 245, [.inr (.inr (.inl 1)), .inl (3, 2147483647, none), .inl ((-2147483648), (-1), none), .inl (0, 299, none), .inl (3, 2147483647, none), .inr (.inr (.inl 245))], ([], [], [(3, 0, 0, ck_one 3)]), ([], []), [(.inr (some (.inl (ck_one 1))), 245, ([], [], []))])
set_option maxRecDepth 100000 in
theorem p16x_5156_e : ck_ok p1_O none [] [(167, [p16x_5155])] 166 [] 92 p16x_5156 = true := by decide +kernel
theorem p16x_5156_s {X : Int → Int} {LX : Nat} : ck_Ok p1_O X LX 166 p16x_5156 := ck_ok_s (ck_E1 (ck_S1 p16x_5155_s ck_S0) ck_E0) ck_X0 ck_l0 p16x_5156_e
set_option maxRecDepth 100000 in
def p16x_5158 : ck_Sum := ((8, 1, 6), 245, [.inr (.inr (.inl 1)), .inl (3, 2147483647, none), .inl ((-2147483648), (-1), none), .inl (300, 2147483647, none), .inl ((-2147483648), (-1), none)], ([], [], [(3, 0, 0, ck_one 3)]), ([], []), [(.inl 3, 245, ([], [], []))])
set_option maxRecDepth 100000 in
theorem p16x_5158_e : ck_ok p1_O none [] [(132, [p16x_5126])] 167 [] 76 p16x_5158 = true := by decide +kernel
theorem p16x_5158_s {X : Int → Int} {LX : Nat} : ck_Ok p1_O X LX 167 p16x_5158 := ck_ok_s (ck_E1 (ck_S1 p16x_5126_s ck_S0) ck_E0) ck_X0 ck_l0 p16x_5158_e
set_option maxRecDepth 100000 in
def p16x_5159 : ck_Sum := ((9, 1, 6), 245, [.inr (.inr (.inl 1)), .inl (3, 2147483647, none), .inl ((-2147483648), (-1), none), .inl (300, 2147483647, none), .inl ((-2147483648), (-1), none), .inr (.inr (.inl 245))], ([], [], [(3, 0, 0, ck_one 3)]), ([], []), [(.inr (some (.inl (ck_one 1))), 245, ([], [], []))])
set_option maxRecDepth 100000 in
theorem p16x_5159_e : ck_ok p1_O none [] [(167, [p16x_5158])] 166 [] 92 p16x_5159 = true := by decide +kernel
theorem p16x_5159_s {X : Int → Int} {LX : Nat} : ck_Ok p1_O X LX 166 p16x_5159 := ck_ok_s (ck_E1 (ck_S1 p16x_5158_s ck_S0) ck_E0) ck_X0 ck_l0 p16x_5159_e
set_option maxRecDepth 100000 in
def p16x_5161 : ck_Sum := ((8, 1, 6), 245, [.inr (.inr (.inl 1)), .inl (3, 2147483647, none), .inl ((-2147483648), (-1), none), .inl (300, 2147483647, none), .inl (ck_one 0)], ([], [], [(3, 0, 0, ck_one 3)]), ([], []), [(.inl 3, 245, ([], [], []))])
set_option maxRecDepth 100000 in
theorem p16x_5161_e : ck_ok p1_O none [] [(132, [p16x_5126])] 167 [] 76 p16x_5161 = true := by decide +kernel
theorem p16x_5161_s {X : Int → Int} {LX : Nat} : ck_Ok p1_O X LX 167 p16x_5161 := ck_ok_s (ck_E1 (ck_S1 p16x_5126_s ck_S0) ck_E0) ck_X0 ck_l0 p16x_5161_e
set_option maxRecDepth 100000 in
def p16x_5162 : ck_Sum := ((9, 1, 6), 245, [.inr (.inr (.inl 1)), .inl (3, 2147483647, none), .inl ((-2147483648), (-1), none), .inl (300, 2147483647, none), .inl (ck_one 0), .inr (.inr (.inl 245))], ([], [], [(3, 0, 0, ck_one 3)]), ([], []), [(.inr (some (.inl (ck_one 1))), 245, ([], [], []))])
set_option maxRecDepth 100000 in
theorem p16x_5162_e : ck_ok p1_O none [] [(167, [p16x_5161])] 166 [] 92 p16x_5162 = true := by decide +kernel
theorem p16x_5162_s {X : Int → Int} {LX : Nat} : ck_Ok p1_O X LX 166 p16x_5162 := ck_ok_s (ck_E1 (ck_S1 p16x_5161_s ck_S0) ck_E0) ck_X0 ck_l0 p16x_5162_e
set_option maxRecDepth 100000 in
def p16x_5164 : ck_Sum := ((8, 1, 6), 245, [.inr (.inr (.inl 1)), .inl (3, 2147483647, none), .inl ((-2147483648), (-1), none), .inl (300, 2147483647, none), .inl (ck_one 1)], ([], [], [(3, 0, 0, ck_one 3)]), ([], []), [(.inl 3, 245, ([], [], []))])
set_option maxRecDepth 100000 in
theorem p16x_5164_e : ck_ok p1_O none [] [(132, [p16x_5126])] 167 [] 76 p16x_5164 = true := by decide +kernel
theorem p16x_5164_s {X : Int → Int} {LX : Nat} : ck_Ok p1_O X LX 167 p16x_5164 := ck_ok_s (ck_E1 (ck_S1 p16x_5126_s ck_S0) ck_E0) ck_X0 ck_l0 p16x_5164_e
set_option maxRecDepth 100000 in
def p16x_5165 : ck_Sum := ((9, 1, 6), 245, [.inr (.inr (.inl 1)), .inl (3, 2147483647, none), .inl ((-2147483648), (-1), none), .inl (300, 2147483647, none), .inl (ck_one 1), .inr (.inr (.inl 245))], ([], [], [(3, 0, 0, ck_one 3)]), ([], []), [(.inr (some (.inl (ck_one 1))), 245, ([], [], []))])
set_option maxRecDepth 100000 in
theorem p16x_5165_e : ck_ok p1_O none [] [(167, [p16x_5164])] 166 [] 92 p16x_5165 = true := by decide +kernel
theorem p16x_5165_s {X : Int → Int} {LX : Nat} : ck_Ok p1_O X LX 166 p16x_5165 := ck_ok_s (ck_E1 (ck_S1 p16x_5164_s ck_S0) ck_E0) ck_X0 ck_l0 p16x_5165_e
set_option maxRecDepth 100000 in
def p16x_5167 : ck_Sum := ((8, 1, 6), 245, [.inr (.inr (.inl 1)), .inl (3, 2147483647, none), .inl ((-2147483648), (-1), none), .inl (300, 2147483647, none), .inl (ck_one 2)], ([], [], [(3, 0, 0, ck_one 3)]), ([], []), [(.inl 3, 245, ([], [], []))])
set_option maxRecDepth 100000 in
theorem p16x_5167_e : ck_ok p1_O none [] [(132, [p16x_5126])] 167 [] 76 p16x_5167 = true := by decide +kernel
theorem p16x_5167_s {X : Int → Int} {LX : Nat} : ck_Ok p1_O X LX 167 p16x_5167 := ck_ok_s (ck_E1 (ck_S1 p16x_5126_s ck_S0) ck_E0) ck_X0 ck_l0 p16x_5167_e
set_option maxRecDepth 100000 in
def p16x_5168 : ck_Sum := ((9, 1, 6), 245, [.inr (.inr (.inl 1)), .inl (3, 2147483647, none), .inl ((-2147483648), (-1), none), .inl (300, 2147483647, none), .inl (ck_one 2), .inr (.inr (.inl 245))], ([], [], [(3, 0, 0, ck_one 3)]), ([], []), [(.inr (some (.inl (ck_one 1))), 245, ([], [], []))])
set_option maxRecDepth 100000 in
theorem p16x_5168_e : ck_ok p1_O none [] [(167, [p16x_5167])] 166 [] 92 p16x_5168 = true := by decide +kernel
theorem p16x_5168_s {X : Int → Int} {LX : Nat} : ck_Ok p1_O X LX 166 p16x_5168 := ck_ok_s (ck_E1 (ck_S1 p16x_5167_s ck_S0) ck_E0) ck_X0 ck_l0 p16x_5168_e
set_option maxRecDepth 100000 in
def p16x_5170 : ck_Sum := ((8, 1, 6), 245, [.inr (.inr (.inl 1)), .inl (3, 2147483647, none), .inl ((-2147483648), (-1), none), .inl (300, 2147483647, none), .inl (3, 2147483647, none)], ([], [], [(3, 0, 0, ck_one 3)]), ([], []), [(.inl 3, 245, ([], [], []))])
set_option maxRecDepth 100000 in
theorem p16x_5170_e : ck_ok p1_O none [] [(132, [p16x_5126])] 167 [] 76 p16x_5170 = true := by decide +kernel
theorem p16x_5170_s {X : Int → Int} {LX : Nat} : ck_Ok p1_O X LX 167 p16x_5170 := ck_ok_s (ck_E1 (ck_S1 p16x_5126_s ck_S0) ck_E0) ck_X0 ck_l0 p16x_5170_e
set_option maxRecDepth 100000 in
def p16x_5171 : ck_Sum := ((9, 1, 6), 245, [.inr (.inr (.inl 1)), .inl (3, 2147483647, none), .inl ((-2147483648), (-1), none), .inl (300, 2147483647, none), .inl (3, 2147483647, none), .inr (.inr (.inl 245))], ([], [], [(3, 0, 0, ck_one 3)]), ([], []), [(.inr (some (.inl (ck_one 1))), 245, ([], [], []))])
set_option maxRecDepth 100000 in
theorem p16x_5171_e : ck_ok p1_O none [] [(167, [p16x_5170])] 166 [] 92 p16x_5171 = true := by decide +kernel
theorem p16x_5171_s {X : Int → Int} {LX : Nat} : ck_Ok p1_O X LX 166 p16x_5171 := ck_ok_s (ck_E1 (ck_S1 p16x_5170_s ck_S0) ck_E0) ck_X0 ck_l0 p16x_5171_e
set_option maxRecDepth 100000 in
def p16x_5173 : ck_Sum := ((8, 1, 6), 245, [.inr (.inr (.inl 1)), .inl (3, 2147483647, none), .inl (0, 299, none), .inl ((-2147483648), (-1), none), .inl ((-2147483648), (-1), none)], ([], [], [(3, 0, 0, ck_one 3)]), ([], []), [(.inl 3, 245, ([], [], []))])
set_option maxRecDepth 100000 in
theorem p16x_5173_e : ck_ok p1_O none [] [(132, [p16x_5126])] 167 [] 76 p16x_5173 = true := by decide +kernel
theorem p16x_5173_s {X : Int → Int} {LX : Nat} : ck_Ok p1_O X LX 167 p16x_5173 := ck_ok_s (ck_E1 (ck_S1 p16x_5126_s ck_S0) ck_E0) ck_X0 ck_l0 p16x_5173_e
set_option maxRecDepth 100000 in
def p16x_5174 : ck_Sum := ((9, 1, 6), 245, [.inr (.inr (.inl 1)), .inl (3, 2147483647, none), .inl (0, 299, none), .inl ((-2147483648), (-1), none), .inl ((-2147483648), (-1), none), .inr (.inr (.inl 245))], ([], [], [(3, 0, 0, ck_one 3)]), ([], []), [(.inr (some (.inl (ck_one 1))), 245, ([], [], []))])
set_option maxRecDepth 100000 in
theorem p16x_5174_e : ck_ok p1_O none [] [(167, [p16x_5173])] 166 [] 92 p16x_5174 = true := by decide +kernel
theorem p16x_5174_s {X : Int → Int} {LX : Nat} : ck_Ok p1_O X LX 166 p16x_5174 := ck_ok_s (ck_E1 (ck_S1 p16x_5173_s ck_S0) ck_E0) ck_X0 ck_l0 p16x_5174_e
set_option maxRecDepth 100000 in
def p16x_5176 : ck_Sum := ((8, 1, 6), 245, [.inr (.inr (.inl 1)), .inl (3, 2147483647, none), .inl (0, 299, none), .inl ((-2147483648), (-1), none), .inl (ck_one 0)], ([], [], [(3, 0, 0, ck_one 3)]), ([], []), [(.inl 3, 245, ([], [], []))])
set_option maxRecDepth 100000 in
theorem p16x_5176_e : ck_ok p1_O none [] [(132, [p16x_5126])] 167 [] 76 p16x_5176 = true := by decide +kernel
theorem p16x_5176_s {X : Int → Int} {LX : Nat} : ck_Ok p1_O X LX 167 p16x_5176 := ck_ok_s (ck_E1 (ck_S1 p16x_5126_s ck_S0) ck_E0) ck_X0 ck_l0 p16x_5176_e
set_option maxRecDepth 100000 in
def p16x_5177 : ck_Sum := ((9, 1, 6), 245, [.inr (.inr (.inl 1)), .inl (3, 2147483647, none), .inl (0, 299, none), .inl ((-2147483648), (-1), none), .inl (ck_one 0), .inr (.inr (.inl 245))], ([], [], [(3, 0, 0, ck_one 3)]), ([], []), [(.inr (some (.inl (ck_one 1))), 245, ([], [], []))])
set_option maxRecDepth 100000 in
theorem p16x_5177_e : ck_ok p1_O none [] [(167, [p16x_5176])] 166 [] 92 p16x_5177 = true := by decide +kernel
theorem p16x_5177_s {X : Int → Int} {LX : Nat} : ck_Ok p1_O X LX 166 p16x_5177 := ck_ok_s (ck_E1 (ck_S1 p16x_5176_s ck_S0) ck_E0) ck_X0 ck_l0 p16x_5177_e
set_option maxRecDepth 100000 in
def p16x_5179 : ck_Sum := ((8, 1, 6), 245, [.inr (.inr (.inl 1)), .inl (3, 2147483647, none), .inl (0, 299, none), .inl ((-2147483648), (-1), none), .inl (ck_one 1)], ([], [], [(3, 0, 0, ck_one 3)]), ([], []), [(.inl 3, 245, ([], [], []))])
set_option maxRecDepth 100000 in
theorem p16x_5179_e : ck_ok p1_O none [] [(132, [p16x_5126])] 167 [] 76 p16x_5179 = true := by decide +kernel
theorem p16x_5179_s {X : Int → Int} {LX : Nat} : ck_Ok p1_O X LX 167 p16x_5179 := ck_ok_s (ck_E1 (ck_S1 p16x_5126_s ck_S0) ck_E0) ck_X0 ck_l0 p16x_5179_e
set_option maxRecDepth 100000 in
def p16x_5180 : ck_Sum := ((9, 1, 6), 245, [.inr (.inr (.inl 1)), .inl (3, 2147483647, none), .inl (0, 299, none), .inl ((-2147483648), (-1), none), .inl (ck_one 1), .inr (.inr (.inl 245))], ([], [], [(3, 0, 0, ck_one 3)]), ([], []), [(.inr (some (.inl (ck_one 1))), 245, ([], [], []))])
set_option maxRecDepth 100000 in
theorem p16x_5180_e : ck_ok p1_O none [] [(167, [p16x_5179])] 166 [] 92 p16x_5180 = true := by decide +kernel
theorem p16x_5180_s {X : Int → Int} {LX : Nat} : ck_Ok p1_O X LX 166 p16x_5180 := ck_ok_s (ck_E1 (ck_S1 p16x_5179_s ck_S0) ck_E0) ck_X0 ck_l0 p16x_5180_e
set_option maxRecDepth 100000 in
def p16x_5182 : ck_Sum := ((8, 1, 6), 245, [.inr (.inr (.inl 1)), .inl (3, 2147483647, none), .inl (0, 299, none), .inl ((-2147483648), (-1), none), .inl (ck_one 2)], ([], [], [(3, 0, 0, ck_one 3)]), ([], []), [(.inl 3, 245, ([], [], []))])
set_option maxRecDepth 100000 in
theorem p16x_5182_e : ck_ok p1_O none [] [(132, [p16x_5126])] 167 [] 76 p16x_5182 = true := by decide +kernel
theorem p16x_5182_s {X : Int → Int} {LX : Nat} : ck_Ok p1_O X LX 167 p16x_5182 := ck_ok_s (ck_E1 (ck_S1 p16x_5126_s ck_S0) ck_E0) ck_X0 ck_l0 p16x_5182_e
set_option maxRecDepth 100000 in
def p16x_5183 : ck_Sum := ((9, 1, 6), 245, [.inr (.inr (.inl 1)), .inl (3, 2147483647, none), .inl (0, 299, none), .inl ((-2147483648), (-1), none), .inl (ck_one 2), .inr (.inr (.inl 245))], ([], [], [(3, 0, 0, ck_one 3)]), ([], []), [(.inr (some (.inl (ck_one 1))), 245, ([], [], []))])
set_option maxRecDepth 100000 in
theorem p16x_5183_e : ck_ok p1_O none [] [(167, [p16x_5182])] 166 [] 92 p16x_5183 = true := by decide +kernel
theorem p16x_5183_s {X : Int → Int} {LX : Nat} : ck_Ok p1_O X LX 166 p16x_5183 := ck_ok_s (ck_E1 (ck_S1 p16x_5182_s ck_S0) ck_E0) ck_X0 ck_l0 p16x_5183_e
set_option maxRecDepth 100000 in
def p16x_5185 : ck_Sum := ((8, 1, 6), 245, [.inr (.inr (.inl 1)), .inl (3, 2147483647, none), .inl (0, 299, none), .inl ((-2147483648), (-1), none), .inl (3, 2147483647, none)], ([], [], [(3, 0, 0, ck_one 3)]), ([], []), [(.inl 3, 245, ([], [], []))])
set_option maxRecDepth 100000 in
theorem p16x_5185_e : ck_ok p1_O none [] [(132, [p16x_5126])] 167 [] 76 p16x_5185 = true := by decide +kernel
theorem p16x_5185_s {X : Int → Int} {LX : Nat} : ck_Ok p1_O X LX 167 p16x_5185 := ck_ok_s (ck_E1 (ck_S1 p16x_5126_s ck_S0) ck_E0) ck_X0 ck_l0 p16x_5185_e
set_option maxRecDepth 100000 in
def p16x_5186 : ck_Sum := ((9, 1, 6), 245, [.inr (.inr (.inl 1)), .inl (3, 2147483647, none), .inl (0, 299, none), .inl ((-2147483648), (-1), none), .inl (3, 2147483647, none), .inr (.inr (.inl 245))], ([], [], [(3, 0, 0, ck_one 3)]), ([], []), [(.inr (some (.inl (ck_one 1))), 245, ([], [], []))])
set_option maxRecDepth 100000 in
theorem p16x_5186_e : ck_ok p1_O none [] [(167, [p16x_5185])] 166 [] 92 p16x_5186 = true := by decide +kernel
theorem p16x_5186_s {X : Int → Int} {LX : Nat} : ck_Ok p1_O X LX 166 p16x_5186 := ck_ok_s (ck_E1 (ck_S1 p16x_5185_s ck_S0) ck_E0) ck_X0 ck_l0 p16x_5186_e
set_option maxRecDepth 100000 in
def p16x_5188 : ck_Sum := ((8, 1, 6), 245, [.inr (.inr (.inl 1)), .inl (3, 2147483647, none), .inl (0, 299, none), .inl (0, 299, none), .inl ((-2147483648), (-1), none)], ([], [], [(3, 0, 0, ck_one 3)]), ([], []), [(.inl 3, 245, ([], [], []))])
set_option maxRecDepth 100000 in
theorem p16x_5188_e : ck_ok p1_O none [] [(132, [p16x_5126])] 167 [] 76 p16x_5188 = true := by decide +kernel
theorem p16x_5188_s {X : Int → Int} {LX : Nat} : ck_Ok p1_O X LX 167 p16x_5188 := ck_ok_s (ck_E1 (ck_S1 p16x_5126_s ck_S0) ck_E0) ck_X0 ck_l0 p16x_5188_e
set_option maxRecDepth 100000 in
def p16x_5189 : ck_Sum := ((9, 1, 6), 245, [.inr (.inr (.inl 1)), .inl (3, 2147483647, none), .inl (0, 299, none), .inl (0, 299, none), .inl ((-2147483648), (-1), none), .inr (.inr (.inl 245))], ([], [], [(3, 0, 0, ck_one 3)]), ([], []), [(.inr (some (.inl (ck_one 1))), 245, ([], [], []))])
set_option maxRecDepth 100000 in
theorem p16x_5189_e : ck_ok p1_O none [] [(167, [p16x_5188])] 166 [] 92 p16x_5189 = true := by decide +kernel
theorem p16x_5189_s {X : Int → Int} {LX : Nat} : ck_Ok p1_O X LX 166 p16x_5189 := ck_ok_s (ck_E1 (ck_S1 p16x_5188_s ck_S0) ck_E0) ck_X0 ck_l0 p16x_5189_e
set_option maxRecDepth 100000 in
def p16x_5191 : ck_Sum := ((8, 1, 6), 245, [.inr (.inr (.inl 1)), .inl (3, 2147483647, none), .inl (0, 299, none), .inl (0, 299, none), .inl (ck_one 0)], ([], [], [(3, 0, 0, ck_one 3)]), ([], []), [(.inl 3, 245, ([], [], []))])
set_option maxRecDepth 100000 in
theorem p16x_5191_e : ck_ok p1_O none [] [(132, [p16x_5126])] 167 [] 76 p16x_5191 = true := by decide +kernel
theorem p16x_5191_s {X : Int → Int} {LX : Nat} : ck_Ok p1_O X LX 167 p16x_5191 := ck_ok_s (ck_E1 (ck_S1 p16x_5126_s ck_S0) ck_E0) ck_X0 ck_l0 p16x_5191_e
set_option maxRecDepth 100000 in
def p16x_5192 : ck_Sum := ((9, 1, 6), 245, [.inr (.inr (.inl 1)), .inl (3, 2147483647, none), .inl (0, 299, none), .inl (0, 299, none), .inl (ck_one 0), .inr (.inr (.inl 245))], ([], [], [(3, 0, 0, ck_one 3)]), ([], []), [(.inr (some (.inl (ck_one 1))), 245, ([], [], []))])
set_option maxRecDepth 100000 in
theorem p16x_5192_e : ck_ok p1_O none [] [(167, [p16x_5191])] 166 [] 92 p16x_5192 = true := by decide +kernel
theorem p16x_5192_s {X : Int → Int} {LX : Nat} : ck_Ok p1_O X LX 166 p16x_5192 := ck_ok_s (ck_E1 (ck_S1 p16x_5191_s ck_S0) ck_E0) ck_X0 ck_l0 p16x_5192_e
set_option maxRecDepth 100000 in
def p16x_5194 : ck_Sum := ((8, 1, 6), 245, [.inr (.inr (.inl 1)), .inl (3, 2147483647, none), .inl (0, 299, none), .inl (0, 299, none), .inl (ck_one 1)], ([], [], [(3, 0, 0, ck_one 3)]), ([], []), [(.inl 3, 245, ([], [], []))])
set_option maxRecDepth 100000 in
theorem p16x_5194_e : ck_ok p1_O none [] [(132, [p16x_5126])] 167 [] 76 p16x_5194 = true := by decide +kernel
theorem p16x_5194_s {X : Int → Int} {LX : Nat} : ck_Ok p1_O X LX 167 p16x_5194 := ck_ok_s (ck_E1 (ck_S1 p16x_5126_s ck_S0) ck_E0) ck_X0 ck_l0 p16x_5194_e
set_option maxRecDepth 100000 in
def p16x_5195 : ck_Sum := ((9, 1, 6), 245, [.inr (.inr (.inl 1)), .inl (3, 2147483647, none), .inl (0, 299, none), .inl (0, 299, none), .inl (ck_one 1), .inr (.inr (.inl 245))], ([], [], [(3, 0, 0, ck_one 3)]), ([], []), [(.inr (some (.inl (ck_one 1))), 245, ([], [], []))])
set_option maxRecDepth 100000 in
theorem p16x_5195_e : ck_ok p1_O none [] [(167, [p16x_5194])] 166 [] 92 p16x_5195 = true := by decide +kernel
theorem p16x_5195_s {X : Int → Int} {LX : Nat} : ck_Ok p1_O X LX 166 p16x_5195 := ck_ok_s (ck_E1 (ck_S1 p16x_5194_s ck_S0) ck_E0) ck_X0 ck_l0 p16x_5195_e
set_option maxRecDepth 100000 in
def p16x_5197 : ck_Sum := ((8, 1, 6), 245, [.inr (.inr (.inl 1)), .inl (3, 2147483647, none), .inl (0, 299, none), .inl (0, 299, none), .inl (ck_one 2)], ([], [], [(3, 0, 0, ck_one 3)]), ([], []), [(.inl 3, 245, ([], [], []))])
set_option maxRecDepth 100000 in
theorem p16x_5197_e : ck_ok p1_O none [] [(132, [p16x_5126])] 167 [] 76 p16x_5197 = true := by decide +kernel
theorem p16x_5197_s {X : Int → Int} {LX : Nat} : ck_Ok p1_O X LX 167 p16x_5197 := ck_ok_s (ck_E1 (ck_S1 p16x_5126_s ck_S0) ck_E0) ck_X0 ck_l0 p16x_5197_e
set_option maxRecDepth 100000 in
def p16x_5198 : ck_Sum := ((9, 1, 6), 245, [.inr (.inr (.inl 1)), .inl (3, 2147483647, none), .inl (0, 299, none), .inl (0, 299, none), .inl (ck_one 2), .inr (.inr (.inl 245))], ([], [], [(3, 0, 0, ck_one 3)]), ([], []), [(.inr (some (.inl (ck_one 1))), 245, ([], [], []))])
set_option maxRecDepth 100000 in
theorem p16x_5198_e : ck_ok p1_O none [] [(167, [p16x_5197])] 166 [] 92 p16x_5198 = true := by decide +kernel
theorem p16x_5198_s {X : Int → Int} {LX : Nat} : ck_Ok p1_O X LX 166 p16x_5198 := ck_ok_s (ck_E1 (ck_S1 p16x_5197_s ck_S0) ck_E0) ck_X0 ck_l0 p16x_5198_e
set_option maxRecDepth 100000 in
def p16x_5200 : ck_Sum := ((8, 1, 6), 245, [.inr (.inr (.inl 1)), .inl (3, 2147483647, none), .inl (0, 299, none), .inl (0, 299, none), .inl (3, 2147483647, none)], ([], [], [(3, 0, 0, ck_one 3)]), ([], []), [(.inl 3, 245, ([], [], []))])
set_option maxRecDepth 100000 in
theorem p16x_5200_e : ck_ok p1_O none [] [(132, [p16x_5126])] 167 [] 76 p16x_5200 = true := by decide +kernel
theorem p16x_5200_s {X : Int → Int} {LX : Nat} : ck_Ok p1_O X LX 167 p16x_5200 := ck_ok_s (ck_E1 (ck_S1 p16x_5126_s ck_S0) ck_E0) ck_X0 ck_l0 p16x_5200_e
set_option maxRecDepth 100000 in
def p16x_5201 : ck_Sum := ((9, 1, 6), 245, [.inr (.inr (.inl 1)), .inl (3, 2147483647, none), .inl (0, 299, none), .inl (0, 299, none), .inl (3, 2147483647, none), .inr (.inr (.inl 245))], ([], [], [(3, 0, 0, ck_one 3)]), ([], []), [(.inr (some (.inl (ck_one 1))), 245, ([], [], []))])
set_option maxRecDepth 100000 in
theorem p16x_5201_e : ck_ok p1_O none [] [(167, [p16x_5200])] 166 [] 92 p16x_5201 = true := by decide +kernel
theorem p16x_5201_s {X : Int → Int} {LX : Nat} : ck_Ok p1_O X LX 166 p16x_5201 := ck_ok_s (ck_E1 (ck_S1 p16x_5200_s ck_S0) ck_E0) ck_X0 ck_l0 p16x_5201_e
set_option maxRecDepth 100000 in
def p16x_5203 : ck_Sum := ((8, 1, 6), 245, [.inr (.inr (.inl 1)), .inl (3, 2147483647, none), .inl (0, 299, none), .inl (300, 2147483647, none), .inl ((-2147483648), (-1), none)], ([], [], [(3, 0, 0, ck_one 3)]), ([], []), [(.inl 3, 245, ([], [], []))])
set_option maxRecDepth 100000 in
theorem p16x_5203_e : ck_ok p1_O none [] [(132, [p16x_5126])] 167 [] 76 p16x_5203 = true := by decide +kernel
theorem p16x_5203_s {X : Int → Int} {LX : Nat} : ck_Ok p1_O X LX 167 p16x_5203 := ck_ok_s (ck_E1 (ck_S1 p16x_5126_s ck_S0) ck_E0) ck_X0 ck_l0 p16x_5203_e
set_option maxRecDepth 100000 in
def p16x_5204 : ck_Sum := ((9, 1, 6), 245, [.inr (.inr (.inl 1)), .inl (3, 2147483647, none), .inl (0, 299, none), .inl (300, 2147483647, none), .inl ((-2147483648), (-1), none), .inr (.inr (.inl 245))], ([], [], [(3, 0, 0, ck_one 3)]), ([], []), [(.inr (some (.inl (ck_one 1))), 245, ([], [], []))])
set_option maxRecDepth 100000 in
theorem p16x_5204_e : ck_ok p1_O none [] [(167, [p16x_5203])] 166 [] 92 p16x_5204 = true := by decide +kernel
theorem p16x_5204_s {X : Int → Int} {LX : Nat} : ck_Ok p1_O X LX 166 p16x_5204 := ck_ok_s (ck_E1 (ck_S1 p16x_5203_s ck_S0) ck_E0) ck_X0 ck_l0 p16x_5204_e
set_option maxRecDepth 100000 in
def p16x_5206 : ck_Sum := ((8, 1, 6), 245, [.inr (.inr (.inl 1)), .inl (3, 2147483647, none), .inl (0, 299, none), .inl (300, 2147483647, none), .inl (ck_one 0)], ([], [], [(3, 0, 0, ck_one 3)]), ([], []), [(.inl 3, 245, ([], [], []))])
set_option maxRecDepth 100000 in
theorem p16x_5206_e : ck_ok p1_O none [] [(132, [p16x_5126])] 167 [] 76 p16x_5206 = true := by decide +kernel
theorem p16x_5206_s {X : Int → Int} {LX : Nat} : ck_Ok p1_O X LX 167 p16x_5206 := ck_ok_s (ck_E1 (ck_S1 p16x_5126_s ck_S0) ck_E0) ck_X0 ck_l0 p16x_5206_e
set_option maxRecDepth 100000 in
def p16x_5207 : ck_Sum := ((9, 1, 6), 245, [.inr (.inr (.inl 1)), .inl (3, 2147483647, none), .inl (0, 299, none), .inl (300, 2147483647, none), .inl (ck_one 0), .inr (.inr (.inl 245))], ([], [], [(3, 0, 0, ck_one 3)]), ([], []), [(.inr (some (.inl (ck_one 1))), 245, ([], [], []))])
set_option maxRecDepth 100000 in
theorem p16x_5207_e : ck_ok p1_O none [] [(167, [p16x_5206])] 166 [] 92 p16x_5207 = true := by decide +kernel
theorem p16x_5207_s {X : Int → Int} {LX : Nat} : ck_Ok p1_O X LX 166 p16x_5207 := ck_ok_s (ck_E1 (ck_S1 p16x_5206_s ck_S0) ck_E0) ck_X0 ck_l0 p16x_5207_e
set_option maxRecDepth 100000 in
def p16x_5209 : ck_Sum := ((8, 1, 6), 245, [.inr (.inr (.inl 1)), .inl (3, 2147483647, none), .inl (0, 299, none), .inl (300, 2147483647, none), .inl (ck_one 1)], ([], [], [(3, 0, 0, ck_one 3)]), ([], []), [(.inl 3, 245, ([], [], []))])
set_option maxRecDepth 100000 in
theorem p16x_5209_e : ck_ok p1_O none [] [(132, [p16x_5126])] 167 [] 76 p16x_5209 = true := by decide +kernel
theorem p16x_5209_s {X : Int → Int} {LX : Nat} : ck_Ok p1_O X LX 167 p16x_5209 := ck_ok_s (ck_E1 (ck_S1 p16x_5126_s ck_S0) ck_E0) ck_X0 ck_l0 p16x_5209_e
set_option maxRecDepth 100000 in
def p16x_5210 : ck_Sum := ((9, 1, 6), 245, [.inr (.inr (.inl 1)), .inl (3, 2147483647, none), .inl (0, 299, none), .inl (300, 2147483647, none), .inl (ck_one 1), .inr (.inr (.inl 245))], ([], [], [(3, 0, 0, ck_one 3)]), ([], []), [(.inr (some (.inl (ck_one 1))), 245, ([], [], []))])
set_option maxRecDepth 100000 in
theorem p16x_5210_e : ck_ok p1_O none [] [(167, [p16x_5209])] 166 [] 92 p16x_5210 = true := by decide +kernel
theorem p16x_5210_s {X : Int → Int} {LX : Nat} : ck_Ok p1_O X LX 166 p16x_5210 := ck_ok_s (ck_E1 (ck_S1 p16x_5209_s ck_S0) ck_E0) ck_X0 ck_l0 p16x_5210_e
set_option maxRecDepth 100000 in
def p16x_5212 : ck_Sum := ((8, 1, 6), 245, [.inr (.inr (.inl 1)), .inl (3, 2147483647, none), .inl (0, 299, none), .inl (300, 2147483647, none), .inl (ck_one 2)], ([], [], [(3, 0, 0, ck_one 3)]), ([], []), [(.inl 3, 245, ([], [], []))])
set_option maxRecDepth 100000 in
theorem p16x_5212_e : ck_ok p1_O none [] [(132, [p16x_5126])] 167 [] 76 p16x_5212 = true := by decide +kernel
theorem p16x_5212_s {X : Int → Int} {LX : Nat} : ck_Ok p1_O X LX 167 p16x_5212 := ck_ok_s (ck_E1 (ck_S1 p16x_5126_s ck_S0) ck_E0) ck_X0 ck_l0 p16x_5212_e
set_option maxRecDepth 100000 in
def p16x_5213 : ck_Sum := ((9, 1, 6), 245, [.inr (.inr (.inl 1)), .inl (3, 2147483647, none), .inl (0, 299, none), .inl (300, 2147483647, none), .inl (ck_one 2), .inr (.inr (.inl 245))], ([], [], [(3, 0, 0, ck_one 3)]), ([], []), [(.inr (some (.inl (ck_one 1))), 245, ([], [], []))])
set_option maxRecDepth 100000 in
theorem p16x_5213_e : ck_ok p1_O none [] [(167, [p16x_5212])] 166 [] 92 p16x_5213 = true := by decide +kernel
theorem p16x_5213_s {X : Int → Int} {LX : Nat} : ck_Ok p1_O X LX 166 p16x_5213 := ck_ok_s (ck_E1 (ck_S1 p16x_5212_s ck_S0) ck_E0) ck_X0 ck_l0 p16x_5213_e
set_option maxRecDepth 100000 in
def p16x_5215 : ck_Sum := ((8, 1, 6), 245, [.inr (.inr (.inl 1)), .inl (3, 2147483647, none), .inl (0, 299, none), .inl (300, 2147483647, none), .inl (3, 2147483647, none)], ([], [], [(3, 0, 0, ck_one 3)]), ([], []), [(.inl 3, 245, ([], [], []))])
set_option maxRecDepth 100000 in
theorem p16x_5215_e : ck_ok p1_O none [] [(132, [p16x_5126])] 167 [] 76 p16x_5215 = true := by decide +kernel
theorem p16x_5215_s {X : Int → Int} {LX : Nat} : ck_Ok p1_O X LX 167 p16x_5215 := ck_ok_s (ck_E1 (ck_S1 p16x_5126_s ck_S0) ck_E0) ck_X0 ck_l0 p16x_5215_e
set_option maxRecDepth 100000 in
def p16x_5216 : ck_Sum := ((9, 1, 6), 245, [.inr (.inr (.inl 1)), .inl (3, 2147483647, none), .inl (0, 299, none), .inl (300, 2147483647, none), .inl (3, 2147483647, none), .inr (.inr (.inl 245))], ([], [], [(3, 0, 0, ck_one 3)]), ([], []), [(.inr (some (.inl (ck_one 1))), 245, ([], [], []))])
set_option maxRecDepth 100000 in
theorem p16x_5216_e : ck_ok p1_O none [] [(167, [p16x_5215])] 166 [] 92 p16x_5216 = true := by decide +kernel
theorem p16x_5216_s {X : Int → Int} {LX : Nat} : ck_Ok p1_O X LX 166 p16x_5216 := ck_ok_s (ck_E1 (ck_S1 p16x_5215_s ck_S0) ck_E0) ck_X0 ck_l0 p16x_5216_e
set_option maxRecDepth 100000 in
def p16x_5218 : ck_Sum := ((8, 1, 6), 245, [.inr (.inr (.inl 1)), .inl (3, 2147483647, none), .inl (300, 2147483647, none), .inl ((-2147483648), (-1), none), .inl ((-2147483648), (-1), none)], ([], [], [(3, 0, 0, ck_one 3)]), ([], []), [(.inl 3, 245, ([], [], []))])
set_option maxRecDepth 100000 in
theorem p16x_5218_e : ck_ok p1_O none [] [(132, [p16x_5126])] 167 [] 76 p16x_5218 = true := by decide +kernel
theorem p16x_5218_s {X : Int → Int} {LX : Nat} : ck_Ok p1_O X LX 167 p16x_5218 := ck_ok_s (ck_E1 (ck_S1 p16x_5126_s ck_S0) ck_E0) ck_X0 ck_l0 p16x_5218_e
set_option maxRecDepth 100000 in
def p16x_5219 : ck_Sum := ((9, 1, 6), 245, [.inr (.inr (.inl 1)), .inl (3, 2147483647, none), .inl (300, 2147483647, none), .inl ((-2147483648), (-1), none), .inl ((-2147483648), (-1), none), .inr (.inr (.inl 245))], ([], [], [(3, 0, 0, ck_one 3)]), ([], []), [(.inr (some (.inl (ck_one 1))), 245, ([], [], []))])
set_option maxRecDepth 100000 in
theorem p16x_5219_e : ck_ok p1_O none [] [(167, [p16x_5218])] 166 [] 92 p16x_5219 = true := by decide +kernel
theorem p16x_5219_s {X : Int → Int} {LX : Nat} : ck_Ok p1_O X LX 166 p16x_5219 := ck_ok_s (ck_E1 (ck_S1 p16x_5218_s ck_S0) ck_E0) ck_X0 ck_l0 p16x_5219_e
set_option maxRecDepth 100000 in
def p16x_5221 : ck_Sum := ((8, 1, 6), 245, [.inr (.inr (.inl 1)), .inl (3, 2147483647, none), .inl (300, 2147483647, none), .inl ((-2147483648), (-1), none), .inl (ck_one 0)], ([], [], [(3, 0, 0, ck_one 3)]), ([], []), [(.inl 3, 245, ([], [], []))])
set_option maxRecDepth 100000 in
theorem p16x_5221_e : ck_ok p1_O none [] [(132, [p16x_5126])] 167 [] 76 p16x_5221 = true := by decide +kernel
theorem p16x_5221_s {X : Int → Int} {LX : Nat} : ck_Ok p1_O X LX 167 p16x_5221 := ck_ok_s (ck_E1 (ck_S1 p16x_5126_s ck_S0) ck_E0) ck_X0 ck_l0 p16x_5221_e
set_option maxRecDepth 100000 in
def p16x_5222 : ck_Sum := ((9, 1, 6), 245, [.inr (.inr (.inl 1)), .inl (3, 2147483647, none), .inl (300, 2147483647, none), .inl ((-2147483648), (-1), none), .inl (ck_one 0), .inr (.inr (.inl 245))], ([], [], [(3, 0, 0, ck_one 3)]), ([], []), [(.inr (some (.inl (ck_one 1))), 245, ([], [], []))])
set_option maxRecDepth 100000 in
theorem p16x_5222_e : ck_ok p1_O none [] [(167, [p16x_5221])] 166 [] 92 p16x_5222 = true := by decide +kernel
theorem p16x_5222_s {X : Int → Int} {LX : Nat} : ck_Ok p1_O X LX 166 p16x_5222 := ck_ok_s (ck_E1 (ck_S1 p16x_5221_s ck_S0) ck_E0) ck_X0 ck_l0 p16x_5222_e
set_option maxRecDepth 100000 in
def p16x_5224 : ck_Sum := ((8, 1, 6), 245, [.inr (.inr (.inl 1)), .inl (3, 2147483647, none), .inl (300, 2147483647, none), .inl ((-2147483648), (-1), none), .inl (ck_one 1)], ([], [], [(3, 0, 0, ck_one 3)]), ([], []), [(.inl 3, 245, ([], [], []))])
set_option maxRecDepth 100000 in
theorem p16x_5224_e : ck_ok p1_O none [] [(132, [p16x_5126])] 167 [] 76 p16x_5224 = true := by decide +kernel
theorem p16x_5224_s {X : Int → Int} {LX : Nat} : ck_Ok p1_O X LX 167 p16x_5224 := ck_ok_s (ck_E1 (ck_S1 p16x_5126_s ck_S0) ck_E0) ck_X0 ck_l0 p16x_5224_e
set_option maxRecDepth 100000 in
def p16x_5225 : ck_Sum := ((9, 1, 6), 245, [.inr (.inr (.inl 1)), .inl (3, 2147483647, none), .inl (300, 2147483647, none), .inl ((-2147483648), (-1), none), .inl (ck_one 1), .inr (.inr (.inl 245))], ([], [], [(3, 0, 0, ck_one 3)]), ([], []), [(.inr (some (.inl (ck_one 1))), 245, ([], [], []))])
set_option maxRecDepth 100000 in
theorem p16x_5225_e : ck_ok p1_O none [] [(167, [p16x_5224])] 166 [] 92 p16x_5225 = true := by decide +kernel
theorem p16x_5225_s {X : Int → Int} {LX : Nat} : ck_Ok p1_O X LX 166 p16x_5225 := ck_ok_s (ck_E1 (ck_S1 p16x_5224_s ck_S0) ck_E0) ck_X0 ck_l0 p16x_5225_e
set_option maxRecDepth 100000 in
def p16x_5227 : ck_Sum := ((8, 1, 6), 245, [.inr (.inr (.inl 1)), .inl (3, 2147483647, none), .inl (300, 2147483647, none), .inl ((-2147483648), (-1), none), .inl (ck_one 2)], ([], [], [(3, 0, 0, ck_one 3)]), ([], []), [(.inl 3, 245, ([], [], []))])
set_option maxRecDepth 100000 in
theorem p16x_5227_e : ck_ok p1_O none [] [(132, [p16x_5126])] 167 [] 76 p16x_5227 = true := by decide +kernel
theorem p16x_5227_s {X : Int → Int} {LX : Nat} : ck_Ok p1_O X LX 167 p16x_5227 := ck_ok_s (ck_E1 (ck_S1 p16x_5126_s ck_S0) ck_E0) ck_X0 ck_l0 p16x_5227_e
set_option maxRecDepth 100000 in
def p16x_5228 : ck_Sum := ((9, 1, 6), 245, [.inr (.inr (.inl 1)), .inl (3, 2147483647, none), .inl (300, 2147483647, none), .inl ((-2147483648), (-1), none), .inl (ck_one 2), .inr (.inr (.inl 245))], ([], [], [(3, 0, 0, ck_one 3)]), ([], []), [(.inr (some (.inl (ck_one 1))), 245, ([], [], []))])
set_option maxRecDepth 100000 in
theorem p16x_5228_e : ck_ok p1_O none [] [(167, [p16x_5227])] 166 [] 92 p16x_5228 = true := by decide +kernel
theorem p16x_5228_s {X : Int → Int} {LX : Nat} : ck_Ok p1_O X LX 166 p16x_5228 := ck_ok_s (ck_E1 (ck_S1 p16x_5227_s ck_S0) ck_E0) ck_X0 ck_l0 p16x_5228_e
set_option maxRecDepth 100000 in
def p16x_5230 : ck_Sum := ((8, 1, 6), 245, [.inr (.inr (.inl 1)), .inl (3, 2147483647, none), .inl (300, 2147483647, none), .inl ((-2147483648), (-1), none), .inl (3, 2147483647, none)], ([], [], [(3, 0, 0, ck_one 3)]), ([], []), [(.inl 3, 245, ([], [], []))])
set_option maxRecDepth 100000 in
theorem p16x_5230_e : ck_ok p1_O none [] [(132, [p16x_5126])] 167 [] 76 p16x_5230 = true := by decide +kernel
theorem p16x_5230_s {X : Int → Int} {LX : Nat} : ck_Ok p1_O X LX 167 p16x_5230 := ck_ok_s (ck_E1 (ck_S1 p16x_5126_s ck_S0) ck_E0) ck_X0 ck_l0 p16x_5230_e
set_option maxRecDepth 100000 in
def p16x_5231 : ck_Sum := ((9, 1, 6), 245, [.inr (.inr (.inl 1)), .inl (3, 2147483647, none), .inl (300, 2147483647, none), .inl ((-2147483648), (-1), none), .inl (3, 2147483647, none), .inr (.inr (.inl 245))], ([], [], [(3, 0, 0, ck_one 3)]), ([], []), [(.inr (some (.inl (ck_one 1))), 245, ([], [], []))])
set_option maxRecDepth 100000 in
theorem p16x_5231_e : ck_ok p1_O none [] [(167, [p16x_5230])] 166 [] 92 p16x_5231 = true := by decide +kernel
theorem p16x_5231_s {X : Int → Int} {LX : Nat} : ck_Ok p1_O X LX 166 p16x_5231 := ck_ok_s (ck_E1 (ck_S1 p16x_5230_s ck_S0) ck_E0) ck_X0 ck_l0 p16x_5231_e
set_option maxRecDepth 100000 in
def p16x_5233 : ck_Sum := ((8, 1, 6), 245, [.inr (.inr (.inl 1)), .inl (3, 2147483647, none), .inl (300, 2147483647, none), .inl (0, 299, none), .inl ((-2147483648), (-1), none)], ([], [], [(3, 0, 0, ck_one 3)]), ([], []), [(.inl 3, 245, ([], [], []))])
set_option maxRecDepth 100000 in
theorem p16x_5233_e : ck_ok p1_O none [] [(132, [p16x_5126])] 167 [] 76 p16x_5233 = true := by decide +kernel
theorem p16x_5233_s {X : Int → Int} {LX : Nat} : ck_Ok p1_O X LX 167 p16x_5233 := ck_ok_s (ck_E1 (ck_S1 p16x_5126_s ck_S0) ck_E0) ck_X0 ck_l0 p16x_5233_e
set_option maxRecDepth 100000 in
def p16x_5234 : ck_Sum := ((9, 1, 6), 245, [.inr (.inr (.inl 1)), .inl (3, 2147483647, none), .inl (300, 2147483647, none), .inl (0, 299, none), .inl ((-2147483648), (-1), none), .inr (.inr (.inl 245))], ([], [], [(3, 0, 0, ck_one 3)]), ([], []), [(.inr (some (.inl (ck_one 1))), 245, ([], [], []))])
set_option maxRecDepth 100000 in
theorem p16x_5234_e : ck_ok p1_O none [] [(167, [p16x_5233])] 166 [] 92 p16x_5234 = true := by decide +kernel
theorem p16x_5234_s {X : Int → Int} {LX : Nat} : ck_Ok p1_O X LX 166 p16x_5234 := ck_ok_s (ck_E1 (ck_S1 p16x_5233_s ck_S0) ck_E0) ck_X0 ck_l0 p16x_5234_e
set_option maxRecDepth 100000 in
def p16x_5236 : ck_Sum := ((8, 1, 6), 245, [.inr (.inr (.inl 1)), .inl (3, 2147483647, none), .inl (300, 2147483647, none), .inl (0, 299, none), .inl (ck_one 0)], ([], [], [(3, 0, 0, ck_one 3)]), ([], []), [(.inl 3, 245, ([], [], []))])
set_option maxRecDepth 100000 in
theorem p16x_5236_e : ck_ok p1_O none [] [(132, [p16x_5126])] 167 [] 76 p16x_5236 = true := by decide +kernel
theorem p16x_5236_s {X : Int → Int} {LX : Nat} : ck_Ok p1_O X LX 167 p16x_5236 := ck_ok_s (ck_E1 (ck_S1 p16x_5126_s ck_S0) ck_E0) ck_X0 ck_l0 p16x_5236_e
set_option maxRecDepth 100000 in
def p16x_5237 : ck_Sum := ((9, 1, 6), 245, [.inr (.inr (.inl 1)), .inl (3, 2147483647, none), .inl (300, 2147483647, none), .inl (0, 299, none), .inl (ck_one 0), .inr (.inr (.inl 245))], ([], [], [(3, 0, 0, ck_one 3)]), ([], []), [(.inr (some (.inl (ck_one 1))), 245, ([], [], []))])
set_option maxRecDepth 100000 in
theorem p16x_5237_e : ck_ok p1_O none [] [(167, [p16x_5236])] 166 [] 92 p16x_5237 = true := by decide +kernel
theorem p16x_5237_s {X : Int → Int} {LX : Nat} : ck_Ok p1_O X LX 166 p16x_5237 := ck_ok_s (ck_E1 (ck_S1 p16x_5236_s ck_S0) ck_E0) ck_X0 ck_l0 p16x_5237_e
set_option maxRecDepth 100000 in
def p16x_5239 : ck_Sum := ((8, 1, 6), 245, [.inr (.inr (.inl 1)), .inl (3, 2147483647, none), .inl (300, 2147483647, none), .inl (0, 299, none), .inl (ck_one 1)], ([], [], [(3, 0, 0, ck_one 3)]), ([], []), [(.inl 3, 245, ([], [], []))])
set_option maxRecDepth 100000 in
theorem p16x_5239_e : ck_ok p1_O none [] [(132, [p16x_5126])] 167 [] 76 p16x_5239 = true := by decide +kernel
theorem p16x_5239_s {X : Int → Int} {LX : Nat} : ck_Ok p1_O X LX 167 p16x_5239 := ck_ok_s (ck_E1 (ck_S1 p16x_5126_s ck_S0) ck_E0) ck_X0 ck_l0 p16x_5239_e
set_option maxRecDepth 100000 in
def p16x_5240 : ck_Sum := ((9, 1, 6), 245, [.inr (.inr (.inl 1)), .inl (3, 2147483647, none), .inl (300, 2147483647, none), .inl (0, 299, none), .inl (ck_one 1), .inr (.inr (.inl 245))], ([], [], [(3, 0, 0, ck_one 3)]), ([], []), [(.inr (some (.inl (ck_one 1))), 245, ([], [], []))])
set_option maxRecDepth 100000 in
theorem p16x_5240_e : ck_ok p1_O none [] [(167, [p16x_5239])] 166 [] 92 p16x_5240 = true := by decide +kernel
theorem p16x_5240_s {X : Int → Int} {LX : Nat} : ck_Ok p1_O X LX 166 p16x_5240 := ck_ok_s (ck_E1 (ck_S1 p16x_5239_s ck_S0) ck_E0) ck_X0 ck_l0 p16x_5240_e
set_option maxRecDepth 100000 in
def p16x_5242 : ck_Sum := ((8, 1, 6), 245, [.inr (.inr (.inl 1)), .inl (3, 2147483647, none), .inl (300, 2147483647, none), .inl (0, 299, none), .inl (ck_one 2)], ([], [], [(3, 0, 0, ck_one 3)]), ([], []), [(.inl 3, 245, ([], [], []))])
set_option maxRecDepth 100000 in
theorem p16x_5242_e : ck_ok p1_O none [] [(132, [p16x_5126])] 167 [] 76 p16x_5242 = true := by decide +kernel
theorem p16x_5242_s {X : Int → Int} {LX : Nat} : ck_Ok p1_O X LX 167 p16x_5242 := ck_ok_s (ck_E1 (ck_S1 p16x_5126_s ck_S0) ck_E0) ck_X0 ck_l0 p16x_5242_e
set_option maxRecDepth 100000 in
def p16x_5243 : ck_Sum := ((9, 1, 6), 245, [.inr (.inr (.inl 1)), .inl (3, 2147483647, none), .inl (300, 2147483647, none), .inl (0, 299, none), .inl (ck_one 2), .inr (.inr (.inl 245))], ([], [], [(3, 0, 0, ck_one 3)]), ([], []), [(.inr (some (.inl (ck_one 1))), 245, ([], [], []))])
set_option maxRecDepth 100000 in
theorem p16x_5243_e : ck_ok p1_O none [] [(167, [p16x_5242])] 166 [] 92 p16x_5243 = true := by decide +kernel
theorem p16x_5243_s {X : Int → Int} {LX : Nat} : ck_Ok p1_O X LX 166 p16x_5243 := ck_ok_s (ck_E1 (ck_S1 p16x_5242_s ck_S0) ck_E0) ck_X0 ck_l0 p16x_5243_e
set_option maxRecDepth 100000 in
def p16x_5245 : ck_Sum := ((8, 1, 6), 245, [.inr (.inr (.inl 1)), .inl (3, 2147483647, none), .inl (300, 2147483647, none), .inl (0, 299, none), .inl (3, 2147483647, none)], ([], [], [(3, 0, 0, ck_one 3)]), ([], []), [(.inl 3, 245, ([], [], []))])
set_option maxRecDepth 100000 in
theorem p16x_5245_e : ck_ok p1_O none [] [(132, [p16x_5126])] 167 [] 76 p16x_5245 = true := by decide +kernel
theorem p16x_5245_s {X : Int → Int} {LX : Nat} : ck_Ok p1_O X LX 167 p16x_5245 := ck_ok_s (ck_E1 (ck_S1 p16x_5126_s ck_S0) ck_E0) ck_X0 ck_l0 p16x_5245_e
set_option maxRecDepth 100000 in
def p16x_5246 : ck_Sum := ((9, 1, 6), 245, [.inr (.inr (.inl 1)), .inl (3, 2147483647, none), .inl (300, 2147483647, none), .inl (0, 299, none), .inl (3, 2147483647, none), .inr (.inr (.inl 245))], ([], [], [(3, 0, 0, ck_one 3)]), ([], []), [(.inr (some (.inl (ck_one 1))), 245, ([], [], []))])
set_option maxRecDepth 100000 in
theorem p16x_5246_e : ck_ok p1_O none [] [(167, [p16x_5245])] 166 [] 92 p16x_5246 = true := by decide +kernel
theorem p16x_5246_s {X : Int → Int} {LX : Nat} : ck_Ok p1_O X LX 166 p16x_5246 := ck_ok_s (ck_E1 (ck_S1 p16x_5245_s ck_S0) ck_E0) ck_X0 ck_l0 p16x_5246_e
set_option maxRecDepth 100000 in
def p16x_5248 : ck_Sum := ((8, 1, 6), 245, [.inr (.inr (.inl 1)), .inl (3, 2147483647, none), .inl (300, 2147483647, none), .inl (300, 2147483647, none), .inl ((-2147483648), (-1), none)], ([], [], [(3, 0, 0, ck_one 3)]), ([], []), [(.inl 3, 245, ([], [], []))])
set_option maxRecDepth 100000 in
theorem p16x_5248_e : ck_ok p1_O none [] [(132, [p16x_5126])] 167 [] 76 p16x_5248 = true := by decide +kernel
theorem p16x_5248_s {X : Int → Int} {LX : Nat} : ck_Ok p1_O X LX 167 p16x_5248 := ck_ok_s (ck_E1 (ck_S1 p16x_5126_s ck_S0) ck_E0) ck_X0 ck_l0 p16x_5248_e
set_option maxRecDepth 100000 in
def p16x_5249 : ck_Sum := ((9, 1, 6), 245, [.inr (.inr (.inl 1)), .inl (3, 2147483647, none), .inl (300, 2147483647, none), .inl (300, 2147483647, none), .inl ((-2147483648), (-1), none), .inr (.inr (.inl 245))], ([], [], [(3, 0, 0, ck_one 3)]), ([], []), [(.inr (some (.inl (ck_one 1))), 245, ([], [], []))])
set_option maxRecDepth 100000 in
theorem p16x_5249_e : ck_ok p1_O none [] [(167, [p16x_5248])] 166 [] 92 p16x_5249 = true := by decide +kernel
theorem p16x_5249_s {X : Int → Int} {LX : Nat} : ck_Ok p1_O X LX 166 p16x_5249 := ck_ok_s (ck_E1 (ck_S1 p16x_5248_s ck_S0) ck_E0) ck_X0 ck_l0 p16x_5249_e
set_option maxRecDepth 100000 in
def p16x_5251 : ck_Sum := ((8, 1, 6), 245, [.inr (.inr (.inl 1)), .inl (3, 2147483647, none), .inl (300, 2147483647, none), .inl (300, 2147483647, none), .inl (ck_one 0)], ([], [], [(3, 0, 0, ck_one 3)]), ([], []), [(.inl 3, 245, ([], [], []))])
set_option maxRecDepth 100000 in
theorem p16x_5251_e : ck_ok p1_O none [] [(132, [p16x_5126])] 167 [] 76 p16x_5251 = true := by decide +kernel
theorem p16x_5251_s {X : Int → Int} {LX : Nat} : ck_Ok p1_O X LX 167 p16x_5251 := ck_ok_s (ck_E1 (ck_S1 p16x_5126_s ck_S0) ck_E0) ck_X0 ck_l0 p16x_5251_e
set_option maxRecDepth 100000 in
def p16x_5252 : ck_Sum := ((9, 1, 6), 245, [.inr (.inr (.inl 1)), .inl (3, 2147483647, none), .inl (300, 2147483647, none), .inl (300, 2147483647, none), .inl (ck_one 0), .inr (.inr (.inl 245))], ([], [], [(3, 0, 0, ck_one 3)]), ([], []), [(.inr (some (.inl (ck_one 1))), 245, ([], [], []))])
set_option maxRecDepth 100000 in
theorem p16x_5252_e : ck_ok p1_O none [] [(167, [p16x_5251])] 166 [] 92 p16x_5252 = true := by decide +kernel
theorem p16x_5252_s {X : Int → Int} {LX : Nat} : ck_Ok p1_O X LX 166 p16x_5252 := ck_ok_s (ck_E1 (ck_S1 p16x_5251_s ck_S0) ck_E0) ck_X0 ck_l0 p16x_5252_e
set_option maxRecDepth 100000 in
def p16x_5254 : ck_Sum := ((8, 1, 6), 245, [.inr (.inr (.inl 1)), .inl (3, 2147483647, none), .inl (300, 2147483647, none), .inl (300, 2147483647, none), .inl (ck_one 1)], ([], [], [(3, 0, 0, ck_one 3)]), ([], []), [(.inl 3, 245, ([], [], []))])
set_option maxRecDepth 100000 in
theorem p16x_5254_e : ck_ok p1_O none [] [(132, [p16x_5126])] 167 [] 76 p16x_5254 = true := by decide +kernel
theorem p16x_5254_s {X : Int → Int} {LX : Nat} : ck_Ok p1_O X LX 167 p16x_5254 := ck_ok_s (ck_E1 (ck_S1 p16x_5126_s ck_S0) ck_E0) ck_X0 ck_l0 p16x_5254_e
set_option maxRecDepth 100000 in
def p16x_5255 : ck_Sum := ((9, 1, 6), 245, [.inr (.inr (.inl 1)), .inl (3, 2147483647, none), .inl (300, 2147483647, none), .inl (300, 2147483647, none), .inl (ck_one 1), .inr (.inr (.inl 245))], ([], [], [(3, 0, 0, ck_one 3)]), ([], []), [(.inr (some (.inl (ck_one 1))), 245, ([], [], []))])
set_option maxRecDepth 100000 in
theorem p16x_5255_e : ck_ok p1_O none [] [(167, [p16x_5254])] 166 [] 92 p16x_5255 = true := by decide +kernel
theorem p16x_5255_s {X : Int → Int} {LX : Nat} : ck_Ok p1_O X LX 166 p16x_5255 := ck_ok_s (ck_E1 (ck_S1 p16x_5254_s ck_S0) ck_E0) ck_X0 ck_l0 p16x_5255_e
set_option maxRecDepth 100000 in
def p16x_5257 : ck_Sum := ((8, 1, 6), 245, [.inr (.inr (.inl 1)), .inl (3, 2147483647, none), .inl (300, 2147483647, none), .inl (300, 2147483647, none), .inl (ck_one 2)], ([], [], [(3, 0, 0, ck_one 3)]), ([], []), [(.inl 3, 245, ([], [], []))])
set_option maxRecDepth 100000 in
theorem p16x_5257_e : ck_ok p1_O none [] [(132, [p16x_5126])] 167 [] 76 p16x_5257 = true := by decide +kernel
theorem p16x_5257_s {X : Int → Int} {LX : Nat} : ck_Ok p1_O X LX 167 p16x_5257 := ck_ok_s (ck_E1 (ck_S1 p16x_5126_s ck_S0) ck_E0) ck_X0 ck_l0 p16x_5257_e
set_option maxRecDepth 100000 in
def p16x_5258 : ck_Sum := ((9, 1, 6), 245, [.inr (.inr (.inl 1)), .inl (3, 2147483647, none), .inl (300, 2147483647, none), .inl (300, 2147483647, none), .inl (ck_one 2), .inr (.inr (.inl 245))], ([], [], [(3, 0, 0, ck_one 3)]), ([], []), [(.inr (some (.inl (ck_one 1))), 245, ([], [], []))])
set_option maxRecDepth 100000 in
theorem p16x_5258_e : ck_ok p1_O none [] [(167, [p16x_5257])] 166 [] 92 p16x_5258 = true := by decide +kernel
theorem p16x_5258_s {X : Int → Int} {LX : Nat} : ck_Ok p1_O X LX 166 p16x_5258 := ck_ok_s (ck_E1 (ck_S1 p16x_5257_s ck_S0) ck_E0) ck_X0 ck_l0 p16x_5258_e
set_option maxRecDepth 100000 in
def p16x_5260 : ck_Sum := ((8, 1, 6), 245, [.inr (.inr (.inl 1)), .inl (3, 2147483647, none), .inl (300, 2147483647, none), .inl (300, 2147483647, none), .inl (3, 2147483647, none)], ([], [], [(3, 0, 0, ck_one 3)]), ([], []), [(.inl 3, 245, ([], [], []))])
set_option maxRecDepth 100000 in
theorem p16x_5260_e : ck_ok p1_O none [] [(132, [p16x_5126])] 167 [] 76 p16x_5260 = true := by decide +kernel
theorem p16x_5260_s {X : Int → Int} {LX : Nat} : ck_Ok p1_O X LX 167 p16x_5260 := ck_ok_s (ck_E1 (ck_S1 p16x_5126_s ck_S0) ck_E0) ck_X0 ck_l0 p16x_5260_e
set_option maxRecDepth 100000 in
def p16x_5261 : ck_Sum := ((9, 1, 6), 245, [.inr (.inr (.inl 1)), .inl (3, 2147483647, none), .inl (300, 2147483647, none), .inl (300, 2147483647, none), .inl (3, 2147483647, none), .inr (.inr (.inl 245))], ([], [], [(3, 0, 0, ck_one 3)]), ([], []), [(.inr (some (.inl (ck_one 1))), 245, ([], [], []))])
set_option maxRecDepth 100000 in
theorem p16x_5261_e : ck_ok p1_O none [] [(167, [p16x_5260])] 166 [] 92 p16x_5261 = true := by decide +kernel
theorem p16x_5261_s {X : Int → Int} {LX : Nat} : ck_Ok p1_O X LX 166 p16x_5261 := ck_ok_s (ck_E1 (ck_S1 p16x_5260_s ck_S0) ck_E0) ck_X0 ck_l0 p16x_5261_e
set_option maxRecDepth 100000 in
def p16x_137 : ck_Sum := ((0, 0, 0), 245, [.inr (.inr (.inl 226))], ([], [], [(227, 0, 0, ck_one 3)]), ([], []), [(.inr (some (.inl (ck_one 3))), 245, ([], [], []))])
set_option maxRecDepth 100000 in
theorem p16x_137_e : ck_ok p1_O none [] [] 262 [] 80 p16x_137 = true := by decide +kernel
theorem p16x_137_s {X : Int → Int} {LX : Nat} : ck_Ok p1_O X LX 262 p16x_137 := ck_ok_s (ck_E0) ck_X0 ck_l0 p16x_137_e
set_option maxRecDepth 100000 in
def p16x_138 : ck_Sum := ((0, 0, 0), 245, [.inl ((-2147483648), (-1), none), .inl (ck_one 0), .inl (ck_one 2)], ([], [], []), ([], []), [(.inr (some (.inl (ck_one 0))), 245, ([], [], []))])
set_option maxRecDepth 100000 in
theorem p16x_138_e : ck_ok p1_O none [] [] 287 [] 80 p16x_138 = true := by decide +kernel
theorem p16x_138_s {X : Int → Int} {LX : Nat} : ck_Ok p1_O X LX 287 p16x_138 := ck_ok_s (ck_E0) ck_X0 ck_l0 p16x_138_e
set_option maxRecDepth 100000 in
def p16x_139 : ck_Sum := ((1, 0, 0), 245, [.inr (.inr (.inl 226)), .inl ((-2147483648), (-1), none)], ([], [], [(227, 0, 0, ck_one 3)]), ([], []), [(.inr (some (.inl (ck_one 1))), 245, ([], [], []))])
set_option maxRecDepth 100000 in
theorem p16x_139_e : ck_ok p1_O none [] [(262, [p16x_137]), (287, [p16x_138])] 289 [] 92 p16x_139 = true := by decide +kernel
theorem p16x_139_s {X : Int → Int} {LX : Nat} : ck_Ok p1_O X LX 289 p16x_139 := ck_ok_s (ck_E1 (ck_S1 p16x_137_s ck_S0) (ck_E1 (ck_S1 p16x_138_s ck_S0) ck_E0)) ck_X0 ck_l0 p16x_139_e
set_option maxRecDepth 100000 in
def p16x_140 : ck_Sum := ((0, 0, 0), 245, [.inr (.inr (.inl 226)), .inl (ck_one 1), .inl (ck_one 1)], ([], [], []), ([(226, 0, 0)], []), [(.inr (some (.inl (ck_one 1))), 245, ([], [], [(226, 0, 0, ck_one 1)]))])
set_option maxRecDepth 100000 in
theorem p16x_140_e : ck_ok p1_O none [] [] 283 [] 84 p16x_140 = true := by decide +kernel
theorem p16x_140_s {X : Int → Int} {LX : Nat} : ck_Ok p1_O X LX 283 p16x_140 := ck_ok_s (ck_E0) ck_X0 ck_l0 p16x_140_e
set_option maxRecDepth 100000 in
def p16x_141 : ck_Sum := ((2, 0, 0), 245, [.inr (.inr (.inl 226)), .inl ((-2147483648), (-1), none), .inl ((-2147483648), (-1), none), .inl ((-2147483648), (-1), none), .inl ((-2147483648), (-1), none)], ([], [], [(227, 0, 0, ck_one 3)]), ([(226, 0, 0)], []), [(.inr (some (.inl (ck_one 0))), 245, ([], [], [(226, 0, 0, ck_one 1)]))])
set_option maxRecDepth 100000 in
theorem p16x_141_e : ck_ok p1_O none [] [(289, [p16x_139]), (283, [p16x_140])] 325 [] 94 p16x_141 = true := by decide +kernel
theorem p16x_141_s {X : Int → Int} {LX : Nat} : ck_Ok p1_O X LX 325 p16x_141 := ck_ok_s (ck_E1 (ck_S1 p16x_139_s ck_S0) (ck_E1 (ck_S1 p16x_140_s ck_S0) ck_E0)) ck_X0 ck_l0 p16x_141_e
set_option maxRecDepth 100000 in
def p16x_145 : ck_Sum := ((2, 0, 0), 245, [.inr (.inr (.inl 226)), .inl ((-2147483648), (-1), none), .inl ((-2147483648), (-1), none), .inl ((-2147483648), (-1), none), .inl (ck_one 0)], ([], [], [(227, 0, 0, ck_one 3)]), ([(226, 0, 0)], []), [(.inr (some (.inl (ck_one 0))), 245, ([], [], [(226, 0, 0, ck_one 1)]))])
set_option maxRecDepth 100000 in
theorem p16x_145_e : ck_ok p1_O none [] [(289, [p16x_139]), (283, [p16x_140])] 325 [] 94 p16x_145 = true := by decide +kernel
theorem p16x_145_s {X : Int → Int} {LX : Nat} : ck_Ok p1_O X LX 325 p16x_145 := ck_ok_s (ck_E1 (ck_S1 p16x_139_s ck_S0) (ck_E1 (ck_S1 p16x_140_s ck_S0) ck_E0)) ck_X0 ck_l0 p16x_145_e
set_option maxRecDepth 100000 in
def p16x_148 : ck_Sum := ((2, 0, 0), 245, [.inr (.inr (.inl 226)), .inl ((-2147483648), (-1), none), .inl ((-2147483648), (-1), none), .inl ((-2147483648), (-1), none), .inl (ck_one 1)], ([], [], [(227, 0, 0, ck_one 3)]), ([(226, 0, 0)], []), [(.inr (some (.inl (ck_one 0))), 245, ([], [], [(226, 0, 0, ck_one 1)]))])
set_option maxRecDepth 100000 in
theorem p16x_148_e : ck_ok p1_O none [] [(289, [p16x_139]), (283, [p16x_140])] 325 [] 94 p16x_148 = true := by decide +kernel
theorem p16x_148_s {X : Int → Int} {LX : Nat} : ck_Ok p1_O X LX 325 p16x_148 := ck_ok_s (ck_E1 (ck_S1 p16x_139_s ck_S0) (ck_E1 (ck_S1 p16x_140_s ck_S0) ck_E0)) ck_X0 ck_l0 p16x_148_e
set_option maxRecDepth 100000 in
def p16x_151 : ck_Sum := ((2, 0, 0), 245, [.inr (.inr (.inl 226)), .inl ((-2147483648), (-1), none), .inl ((-2147483648), (-1), none), .inl ((-2147483648), (-1), none), .inl (ck_one 2)], ([], [], [(227, 0, 0, ck_one 3)]), ([(226, 0, 0)], []), [(.inr (some (.inl (ck_one 0))), 245, ([], [], [(226, 0, 0, ck_one 1)]))])
set_option maxRecDepth 100000 in
theorem p16x_151_e : ck_ok p1_O none [] [(289, [p16x_139]), (283, [p16x_140])] 325 [] 94 p16x_151 = true := by decide +kernel
theorem p16x_151_s {X : Int → Int} {LX : Nat} : ck_Ok p1_O X LX 325 p16x_151 := ck_ok_s (ck_E1 (ck_S1 p16x_139_s ck_S0) (ck_E1 (ck_S1 p16x_140_s ck_S0) ck_E0)) ck_X0 ck_l0 p16x_151_e
set_option maxRecDepth 100000 in
def p16x_154 : ck_Sum := ((2, 0, 0), 245, [.inr (.inr (.inl 226)), .inl ((-2147483648), (-1), none), .inl ((-2147483648), (-1), none), .inl ((-2147483648), (-1), none), .inl (3, 2147483647, none)], ([], [], [(227, 0, 0, ck_one 3)]), ([(226, 0, 0)], []), [(.inr (some (.inl (ck_one 0))), 245, ([], [], [(226, 0, 0, ck_one 1)]))])
set_option maxRecDepth 100000 in
theorem p16x_154_e : ck_ok p1_O none [] [(289, [p16x_139]), (283, [p16x_140])] 325 [] 94 p16x_154 = true := by decide +kernel
theorem p16x_154_s {X : Int → Int} {LX : Nat} : ck_Ok p1_O X LX 325 p16x_154 := ck_ok_s (ck_E1 (ck_S1 p16x_139_s ck_S0) (ck_E1 (ck_S1 p16x_140_s ck_S0) ck_E0)) ck_X0 ck_l0 p16x_154_e
set_option maxRecDepth 100000 in
def p16x_157 : ck_Sum := ((2, 0, 0), 245, [.inr (.inr (.inl 226)), .inl ((-2147483648), (-1), none), .inl ((-2147483648), (-1), none), .inl (0, 299, none), .inl ((-2147483648), (-1), none)], ([], [], [(227, 0, 0, ck_one 3)]), ([(226, 0, 0)], []), [(.inr (some (.inl (ck_one 0))), 245, ([], [], [(226, 0, 0, ck_one 1)]))])
set_option maxRecDepth 100000 in
theorem p16x_157_e : ck_ok p1_O none [] [(289, [p16x_139]), (283, [p16x_140])] 325 [] 94 p16x_157 = true := by decide +kernel
theorem p16x_157_s {X : Int → Int} {LX : Nat} : ck_Ok p1_O X LX 325 p16x_157 := ck_ok_s (ck_E1 (ck_S1 p16x_139_s ck_S0) (ck_E1 (ck_S1 p16x_140_s ck_S0) ck_E0)) ck_X0 ck_l0 p16x_157_e
set_option maxRecDepth 100000 in
def p16x_160 : ck_Sum := ((2, 0, 0), 245, [.inr (.inr (.inl 226)), .inl ((-2147483648), (-1), none), .inl ((-2147483648), (-1), none), .inl (0, 299, none), .inl (ck_one 0)], ([], [], [(227, 0, 0, ck_one 3)]), ([(226, 0, 0)], []), [(.inr (some (.inl (ck_one 0))), 245, ([], [], [(226, 0, 0, ck_one 1)]))])
set_option maxRecDepth 100000 in
theorem p16x_160_e : ck_ok p1_O none [] [(289, [p16x_139]), (283, [p16x_140])] 325 [] 94 p16x_160 = true := by decide +kernel
theorem p16x_160_s {X : Int → Int} {LX : Nat} : ck_Ok p1_O X LX 325 p16x_160 := ck_ok_s (ck_E1 (ck_S1 p16x_139_s ck_S0) (ck_E1 (ck_S1 p16x_140_s ck_S0) ck_E0)) ck_X0 ck_l0 p16x_160_e
set_option maxRecDepth 100000 in
def p16x_163 : ck_Sum := ((2, 0, 0), 245, [.inr (.inr (.inl 226)), .inl ((-2147483648), (-1), none), .inl ((-2147483648), (-1), none), .inl (0, 299, none), .inl (ck_one 1)], ([], [], [(227, 0, 0, ck_one 3)]), ([(226, 0, 0)], []), [(.inr (some (.inl (ck_one 0))), 245, ([], [], [(226, 0, 0, ck_one 1)]))])
set_option maxRecDepth 100000 in
theorem p16x_163_e : ck_ok p1_O none [] [(289, [p16x_139]), (283, [p16x_140])] 325 [] 94 p16x_163 = true := by decide +kernel
theorem p16x_163_s {X : Int → Int} {LX : Nat} : ck_Ok p1_O X LX 325 p16x_163 := ck_ok_s (ck_E1 (ck_S1 p16x_139_s ck_S0) (ck_E1 (ck_S1 p16x_140_s ck_S0) ck_E0)) ck_X0 ck_l0 p16x_163_e
set_option maxRecDepth 100000 in
def p16x_166 : ck_Sum := ((2, 0, 0), 245, [.inr (.inr (.inl 226)), .inl ((-2147483648), (-1), none), .inl ((-2147483648), (-1), none), .inl (0, 299, none), .inl (ck_one 2)], ([], [], [(227, 0, 0, ck_one 3)]), ([(226, 0, 0)], []), [(.inr (some (.inl (ck_one 0))), 245, ([], [], [(226, 0, 0, ck_one 1)]))])
set_option maxRecDepth 100000 in
theorem p16x_166_e : ck_ok p1_O none [] [(289, [p16x_139]), (283, [p16x_140])] 325 [] 94 p16x_166 = true := by decide +kernel
theorem p16x_166_s {X : Int → Int} {LX : Nat} : ck_Ok p1_O X LX 325 p16x_166 := ck_ok_s (ck_E1 (ck_S1 p16x_139_s ck_S0) (ck_E1 (ck_S1 p16x_140_s ck_S0) ck_E0)) ck_X0 ck_l0 p16x_166_e
set_option maxRecDepth 100000 in
def p16x_169 : ck_Sum := ((2, 0, 0), 245, [.inr (.inr (.inl 226)), .inl ((-2147483648), (-1), none), .inl ((-2147483648), (-1), none), .inl (0, 299, none), .inl (3, 2147483647, none)], ([], [], [(227, 0, 0, ck_one 3)]), ([(226, 0, 0)], []), [(.inr (some (.inl (ck_one 0))), 245, ([], [], [(226, 0, 0, ck_one 1)]))])
set_option maxRecDepth 100000 in
theorem p16x_169_e : ck_ok p1_O none [] [(289, [p16x_139]), (283, [p16x_140])] 325 [] 94 p16x_169 = true := by decide +kernel
theorem p16x_169_s {X : Int → Int} {LX : Nat} : ck_Ok p1_O X LX 325 p16x_169 := ck_ok_s (ck_E1 (ck_S1 p16x_139_s ck_S0) (ck_E1 (ck_S1 p16x_140_s ck_S0) ck_E0)) ck_X0 ck_l0 p16x_169_e
set_option maxRecDepth 100000 in
def p16x_172 : ck_Sum := ((2, 0, 0), 245, [.inr (.inr (.inl 226)), .inl ((-2147483648), (-1), none), .inl ((-2147483648), (-1), none), .inl (300, 2147483647, none), .inl ((-2147483648), (-1), none)], ([], [], [(227, 0, 0, ck_one 3)]), ([(226, 0, 0)], []), [(.inr (some (.inl (ck_one 0))), 245, ([], [], [(226, 0, 0, ck_one 1)]))])
set_option maxRecDepth 100000 in
theorem p16x_172_e : ck_ok p1_O none [] [(289, [p16x_139]), (283, [p16x_140])] 325 [] 94 p16x_172 = true := by decide +kernel
theorem p16x_172_s {X : Int → Int} {LX : Nat} : ck_Ok p1_O X LX 325 p16x_172 := ck_ok_s (ck_E1 (ck_S1 p16x_139_s ck_S0) (ck_E1 (ck_S1 p16x_140_s ck_S0) ck_E0)) ck_X0 ck_l0 p16x_172_e
set_option maxRecDepth 100000 in
def p16x_175 : ck_Sum := ((2, 0, 0), 245, [.inr (.inr (.inl 226)), .inl ((-2147483648), (-1), none), .inl ((-2147483648), (-1), none), .inl (300, 2147483647, none), .inl (ck_one 0)], ([], [], [(227, 0, 0, ck_one 3)]), ([(226, 0, 0)], []), [(.inr (some (.inl (ck_one 0))), 245, ([], [], [(226, 0, 0, ck_one 1)]))])
set_option maxRecDepth 100000 in
theorem p16x_175_e : ck_ok p1_O none [] [(289, [p16x_139]), (283, [p16x_140])] 325 [] 94 p16x_175 = true := by decide +kernel
theorem p16x_175_s {X : Int → Int} {LX : Nat} : ck_Ok p1_O X LX 325 p16x_175 := ck_ok_s (ck_E1 (ck_S1 p16x_139_s ck_S0) (ck_E1 (ck_S1 p16x_140_s ck_S0) ck_E0)) ck_X0 ck_l0 p16x_175_e
set_option maxRecDepth 100000 in
def p16x_178 : ck_Sum := ((2, 0, 0), 245, [.inr (.inr (.inl 226)), .inl ((-2147483648), (-1), none), .inl ((-2147483648), (-1), none), .inl (300, 2147483647, none), .inl (ck_one 1)], ([], [], [(227, 0, 0, ck_one 3)]), ([(226, 0, 0)], []), [(.inr (some (.inl (ck_one 0))), 245, ([], [], [(226, 0, 0, ck_one 1)]))])
set_option maxRecDepth 100000 in
theorem p16x_178_e : ck_ok p1_O none [] [(289, [p16x_139]), (283, [p16x_140])] 325 [] 94 p16x_178 = true := by decide +kernel
theorem p16x_178_s {X : Int → Int} {LX : Nat} : ck_Ok p1_O X LX 325 p16x_178 := ck_ok_s (ck_E1 (ck_S1 p16x_139_s ck_S0) (ck_E1 (ck_S1 p16x_140_s ck_S0) ck_E0)) ck_X0 ck_l0 p16x_178_e
set_option maxRecDepth 100000 in
def p16x_181 : ck_Sum := ((2, 0, 0), 245, [.inr (.inr (.inl 226)), .inl ((-2147483648), (-1), none), .inl ((-2147483648), (-1), none), .inl (300, 2147483647, none), .inl (ck_one 2)], ([], [], [(227, 0, 0, ck_one 3)]), ([(226, 0, 0)], []), [(.inr (some (.inl (ck_one 0))), 245, ([], [], [(226, 0, 0, ck_one 1)]))])
set_option maxRecDepth 100000 in
theorem p16x_181_e : ck_ok p1_O none [] [(289, [p16x_139]), (283, [p16x_140])] 325 [] 94 p16x_181 = true := by decide +kernel
theorem p16x_181_s {X : Int → Int} {LX : Nat} : ck_Ok p1_O X LX 325 p16x_181 := ck_ok_s (ck_E1 (ck_S1 p16x_139_s ck_S0) (ck_E1 (ck_S1 p16x_140_s ck_S0) ck_E0)) ck_X0 ck_l0 p16x_181_e
set_option maxRecDepth 100000 in
def p16x_184 : ck_Sum := ((2, 0, 0), 245, [.inr (.inr (.inl 226)), .inl ((-2147483648), (-1), none), .inl ((-2147483648), (-1), none), .inl (300, 2147483647, none), .inl (3, 2147483647, none)], ([], [], [(227, 0, 0, ck_one 3)]), ([(226, 0, 0)], []), [(.inr (some (.inl (ck_one 0))), 245, ([], [], [(226, 0, 0, ck_one 1)]))])
set_option maxRecDepth 100000 in
theorem p16x_184_e : ck_ok p1_O none [] [(289, [p16x_139]), (283, [p16x_140])] 325 [] 94 p16x_184 = true := by decide +kernel
theorem p16x_184_s {X : Int → Int} {LX : Nat} : ck_Ok p1_O X LX 325 p16x_184 := ck_ok_s (ck_E1 (ck_S1 p16x_139_s ck_S0) (ck_E1 (ck_S1 p16x_140_s ck_S0) ck_E0)) ck_X0 ck_l0 p16x_184_e
set_option maxRecDepth 100000 in
def p16x_187 : ck_Sum := ((2, 0, 0), 245, [.inr (.inr (.inl 226)), .inl ((-2147483648), (-1), none), .inl (0, 299, none), .inl ((-2147483648), (-1), none), .inl ((-2147483648), (-1), none)], ([], [], [(227, 0, 0, ck_one 3)]), ([(226, 0, 0)], []), [(.inr (some (.inl (ck_one 0))), 245, ([], [], [(226, 0, 0, ck_one 1)]))])
set_option maxRecDepth 100000 in
theorem p16x_187_e : ck_ok p1_O none [] [(289, [p16x_139]), (283, [p16x_140])] 325 [] 94 p16x_187 = true := by decide +kernel
theorem p16x_187_s {X : Int → Int} {LX : Nat} : ck_Ok p1_O X LX 325 p16x_187 := ck_ok_s (ck_E1 (ck_S1 p16x_139_s ck_S0) (ck_E1 (ck_S1 p16x_140_s ck_S0) ck_E0)) ck_X0 ck_l0 p16x_187_e
set_option maxRecDepth 100000 in
def p16x_190 : ck_Sum := ((2, 0, 0), 245, [.inr (.inr (.inl 226)), .inl ((-2147483648), (-1), none), .inl (0, 299, none), .inl ((-2147483648), (-1), none), .inl (ck_one 0)], ([], [], [(227, 0, 0, ck_one 3)]), ([(226, 0, 0)], []), [(.inr (some (.inl (ck_one 0))), 245, ([], [], [(226, 0, 0, ck_one 1)]))])
set_option maxRecDepth 100000 in
theorem p16x_190_e : ck_ok p1_O none [] [(289, [p16x_139]), (283, [p16x_140])] 325 [] 94 p16x_190 = true := by decide +kernel
theorem p16x_190_s {X : Int → Int} {LX : Nat} : ck_Ok p1_O X LX 325 p16x_190 := ck_ok_s (ck_E1 (ck_S1 p16x_139_s ck_S0) (ck_E1 (ck_S1 p16x_140_s ck_S0) ck_E0)) ck_X0 ck_l0 p16x_190_e
set_option maxRecDepth 100000 in
def p16x_193 : ck_Sum := ((2, 0, 0), 245, [.inr (.inr (.inl 226)), .inl ((-2147483648), (-1), none), .inl (0, 299, none), .inl ((-2147483648), (-1), none), .inl (ck_one 1)], ([], [], [(227, 0, 0, ck_one 3)]), ([(226, 0, 0)], []), [(.inr (some (.inl (ck_one 0))), 245, ([], [], [(226, 0, 0, ck_one 1)]))])
set_option maxRecDepth 100000 in
theorem p16x_193_e : ck_ok p1_O none [] [(289, [p16x_139]), (283, [p16x_140])] 325 [] 94 p16x_193 = true := by decide +kernel
theorem p16x_193_s {X : Int → Int} {LX : Nat} : ck_Ok p1_O X LX 325 p16x_193 := ck_ok_s (ck_E1 (ck_S1 p16x_139_s ck_S0) (ck_E1 (ck_S1 p16x_140_s ck_S0) ck_E0)) ck_X0 ck_l0 p16x_193_e
set_option maxRecDepth 100000 in
def p16x_196 : ck_Sum := ((2, 0, 0), 245, [.inr (.inr (.inl 226)), .inl ((-2147483648), (-1), none), .inl (0, 299, none), .inl ((-2147483648), (-1), none), .inl (ck_one 2)], ([], [], [(227, 0, 0, ck_one 3)]), ([(226, 0, 0)], []), [(.inr (some (.inl (ck_one 0))), 245, ([], [], [(226, 0, 0, ck_one 1)]))])
set_option maxRecDepth 100000 in
theorem p16x_196_e : ck_ok p1_O none [] [(289, [p16x_139]), (283, [p16x_140])] 325 [] 94 p16x_196 = true := by decide +kernel
theorem p16x_196_s {X : Int → Int} {LX : Nat} : ck_Ok p1_O X LX 325 p16x_196 := ck_ok_s (ck_E1 (ck_S1 p16x_139_s ck_S0) (ck_E1 (ck_S1 p16x_140_s ck_S0) ck_E0)) ck_X0 ck_l0 p16x_196_e
set_option maxRecDepth 100000 in
def p16x_199 : ck_Sum := ((2, 0, 0), 245, [.inr (.inr (.inl 226)), .inl ((-2147483648), (-1), none), .inl (0, 299, none), .inl ((-2147483648), (-1), none), .inl (3, 2147483647, none)], ([], [], [(227, 0, 0, ck_one 3)]), ([(226, 0, 0)], []), [(.inr (some (.inl (ck_one 0))), 245, ([], [], [(226, 0, 0, ck_one 1)]))])
set_option maxRecDepth 100000 in
theorem p16x_199_e : ck_ok p1_O none [] [(289, [p16x_139]), (283, [p16x_140])] 325 [] 94 p16x_199 = true := by decide +kernel
theorem p16x_199_s {X : Int → Int} {LX : Nat} : ck_Ok p1_O X LX 325 p16x_199 := ck_ok_s (ck_E1 (ck_S1 p16x_139_s ck_S0) (ck_E1 (ck_S1 p16x_140_s ck_S0) ck_E0)) ck_X0 ck_l0 p16x_199_e
set_option maxRecDepth 100000 in
def p16x_202 : ck_Sum := ((2, 0, 0), 245, [.inr (.inr (.inl 226)), .inl ((-2147483648), (-1), none), .inl (0, 299, none), .inl (0, 299, none), .inl ((-2147483648), (-1), none)], ([], [], [(227, 0, 0, ck_one 3)]), ([(226, 0, 0)], []), [(.inr (some (.inl (ck_one 0))), 245, ([], [], [(226, 0, 0, ck_one 1)]))])
set_option maxRecDepth 100000 in
theorem p16x_202_e : ck_ok p1_O none [] [(289, [p16x_139]), (283, [p16x_140])] 325 [] 94 p16x_202 = true := by decide +kernel
theorem p16x_202_s {X : Int → Int} {LX : Nat} : ck_Ok p1_O X LX 325 p16x_202 := ck_ok_s (ck_E1 (ck_S1 p16x_139_s ck_S0) (ck_E1 (ck_S1 p16x_140_s ck_S0) ck_E0)) ck_X0 ck_l0 p16x_202_e
set_option maxRecDepth 100000 in
def p16x_205 : ck_Sum := ((2, 0, 0), 245, [.inr (.inr (.inl 226)), .inl ((-2147483648), (-1), none), .inl (0, 299, none), .inl (0, 299, none), .inl (ck_one 0)], ([], [], [(227, 0, 0, ck_one 3)]), ([(226, 0, 0)], []), [(.inr (some (.inl (ck_one 0))), 245, ([], [], [(226, 0, 0, ck_one 1)]))])
set_option maxRecDepth 100000 in
theorem p16x_205_e : ck_ok p1_O none [] [(289, [p16x_139]), (283, [p16x_140])] 325 [] 94 p16x_205 = true := by decide +kernel
theorem p16x_205_s {X : Int → Int} {LX : Nat} : ck_Ok p1_O X LX 325 p16x_205 := ck_ok_s (ck_E1 (ck_S1 p16x_139_s ck_S0) (ck_E1 (ck_S1 p16x_140_s ck_S0) ck_E0)) ck_X0 ck_l0 p16x_205_e
set_option maxRecDepth 100000 in
def p16x_208 : ck_Sum := ((2, 0, 0), 245, [.inr (.inr (.inl 226)), .inl ((-2147483648), (-1), none), .inl (0, 299, none), .inl (0, 299, none), .inl (ck_one 1)], ([], [], [(227, 0, 0, ck_one 3)]), ([(226, 0, 0)], []), [(.inr (some (.inl (ck_one 0))), 245, ([], [], [(226, 0, 0, ck_one 1)]))])
set_option maxRecDepth 100000 in
theorem p16x_208_e : ck_ok p1_O none [] [(289, [p16x_139]), (283, [p16x_140])] 325 [] 94 p16x_208 = true := by decide +kernel
theorem p16x_208_s {X : Int → Int} {LX : Nat} : ck_Ok p1_O X LX 325 p16x_208 := ck_ok_s (ck_E1 (ck_S1 p16x_139_s ck_S0) (ck_E1 (ck_S1 p16x_140_s ck_S0) ck_E0)) ck_X0 ck_l0 p16x_208_e
set_option maxRecDepth 100000 in
def p16x_211 : ck_Sum := ((2, 0, 0), 245, [.inr (.inr (.inl 226)), .inl ((-2147483648), (-1), none), .inl (0, 299, none), .inl (0, 299, none), .inl (ck_one 2)], ([], [], [(227, 0, 0, ck_one 3)]), ([(226, 0, 0)], []), [(.inr (some (.inl (ck_one 0))), 245, ([], [], [(226, 0, 0, ck_one 1)]))])
set_option maxRecDepth 100000 in
theorem p16x_211_e : ck_ok p1_O none [] [(289, [p16x_139]), (283, [p16x_140])] 325 [] 94 p16x_211 = true := by decide +kernel
theorem p16x_211_s {X : Int → Int} {LX : Nat} : ck_Ok p1_O X LX 325 p16x_211 := ck_ok_s (ck_E1 (ck_S1 p16x_139_s ck_S0) (ck_E1 (ck_S1 p16x_140_s ck_S0) ck_E0)) ck_X0 ck_l0 p16x_211_e
set_option maxRecDepth 100000 in
def p16x_214 : ck_Sum := ((2, 0, 0), 245, [.inr (.inr (.inl 226)), .inl ((-2147483648), (-1), none), .inl (0, 299, none), .inl (0, 299, none), .inl (3, 2147483647, none)], ([], [], [(227, 0, 0, ck_one 3)]), ([(226, 0, 0)], []), [(.inr (some (.inl (ck_one 0))), 245, ([], [], [(226, 0, 0, ck_one 1)]))])
set_option maxRecDepth 100000 in
theorem p16x_214_e : ck_ok p1_O none [] [(289, [p16x_139]), (283, [p16x_140])] 325 [] 94 p16x_214 = true := by decide +kernel
theorem p16x_214_s {X : Int → Int} {LX : Nat} : ck_Ok p1_O X LX 325 p16x_214 := ck_ok_s (ck_E1 (ck_S1 p16x_139_s ck_S0) (ck_E1 (ck_S1 p16x_140_s ck_S0) ck_E0)) ck_X0 ck_l0 p16x_214_e
set_option maxRecDepth 100000 in
def p16x_217 : ck_Sum := ((2, 0, 0), 245, [.inr (.inr (.inl 226)), .inl ((-2147483648), (-1), none), .inl (0, 299, none), .inl (300, 2147483647, none), .inl ((-2147483648), (-1), none)], ([], [], [(227, 0, 0, ck_one 3)]), ([(226, 0, 0)], []), [(.inr (some (.inl (ck_one 0))), 245, ([], [], [(226, 0, 0, ck_one 1)]))])
set_option maxRecDepth 100000 in
theorem p16x_217_e : ck_ok p1_O none [] [(289, [p16x_139]), (283, [p16x_140])] 325 [] 94 p16x_217 = true := by decide +kernel
theorem p16x_217_s {X : Int → Int} {LX : Nat} : ck_Ok p1_O X LX 325 p16x_217 := ck_ok_s (ck_E1 (ck_S1 p16x_139_s ck_S0) (ck_E1 (ck_S1 p16x_140_s ck_S0) ck_E0)) ck_X0 ck_l0 p16x_217_e
set_option maxRecDepth 100000 in
def p16x_220 : ck_Sum := ((2, 0, 0), 245, [.inr (.inr (.inl 226)), .inl ((-2147483648), (-1), none), .inl (0, 299, none), .inl (300, 2147483647, none), .inl (ck_one 0)], ([], [], [(227, 0, 0, ck_one 3)]), ([(226, 0, 0)], []), [(.inr (some (.inl (ck_one 0))), 245, ([], [], [(226, 0, 0, ck_one 1)]))])
set_option maxRecDepth 100000 in
theorem p16x_220_e : ck_ok p1_O none [] [(289, [p16x_139]), (283, [p16x_140])] 325 [] 94 p16x_220 = true := by decide +kernel
theorem p16x_220_s {X : Int → Int} {LX : Nat} : ck_Ok p1_O X LX 325 p16x_220 := ck_ok_s (ck_E1 (ck_S1 p16x_139_s ck_S0) (ck_E1 (ck_S1 p16x_140_s ck_S0) ck_E0)) ck_X0 ck_l0 p16x_220_e
set_option maxRecDepth 100000 in
def p16x_223 : ck_Sum := ((2, 0, 0), 245, [.inr (.inr (.inl 226)), .inl ((-2147483648), (-1), none), .inl (0, 299, none), .inl (300, 2147483647, none), .inl (ck_one 1)], ([], [], [(227, 0, 0, ck_one 3)]), ([(226, 0, 0)], []), [(.inr (some (.inl (ck_one 0))), 245, ([], [], [(226, 0, 0, ck_one 1)]))])
set_option maxRecDepth 100000 in
theorem p16x_223_e : ck_ok p1_O none [] [(289, [p16x_139]), (283, [p16x_140])] 325 [] 94 p16x_223 = true := by decide +kernel
theorem p16x_223_s {X : Int → Int} {LX : Nat} : ck_Ok p1_O X LX 325 p16x_223 := ck_ok_s (ck_E1 (ck_S1 p16x_139_s ck_S0) (ck_E1 (ck_S1 p16x_140_s ck_S0) ck_E0)) ck_X0 ck_l0 p16x_223_e
set_option maxRecDepth 100000 in
def p16x_226 : ck_Sum := ((2, 0, 0), 245, [.inr (.inr (.inl 226)), .inl ((-2147483648), (-1), none), .inl (0, 299, none), .inl (300, 2147483647, none), .inl (ck_one 2)], ([], [], [(227, 0, 0, ck_one 3)]), ([(226, 0, 0)], []), [(.inr (some (.inl (ck_one 0))), 245, ([], [], [(226, 0, 0, ck_one 1)]))])
set_option maxRecDepth 100000 in
theorem p16x_226_e : ck_ok p1_O none [] [(289, [p16x_139]), (283, [p16x_140])] 325 [] 94 p16x_226 = true := by decide +kernel
theorem p16x_226_s {X : Int → Int} {LX : Nat} : ck_Ok p1_O X LX 325 p16x_226 := ck_ok_s (ck_E1 (ck_S1 p16x_139_s ck_S0) (ck_E1 (ck_S1 p16x_140_s ck_S0) ck_E0)) ck_X0 ck_l0 p16x_226_e
set_option maxRecDepth 100000 in
def p16x_229 : ck_Sum := ((2, 0, 0), 245, [.inr (.inr (.inl 226)), .inl ((-2147483648), (-1), none), .inl (0, 299, none), .inl (300, 2147483647, none), .inl (3, 2147483647, none)], ([], [], [(227, 0, 0, ck_one 3)]), ([(226, 0, 0)], []), [(.inr (some (.inl (ck_one 0))), 245, ([], [], [(226, 0, 0, ck_one 1)]))])
set_option maxRecDepth 100000 in
theorem p16x_229_e : ck_ok p1_O none [] [(289, [p16x_139]), (283, [p16x_140])] 325 [] 94 p16x_229 = true := by decide +kernel
theorem p16x_229_s {X : Int → Int} {LX : Nat} : ck_Ok p1_O X LX 325 p16x_229 := ck_ok_s (ck_E1 (ck_S1 p16x_139_s ck_S0) (ck_E1 (ck_S1 p16x_140_s ck_S0) ck_E0)) ck_X0 ck_l0 p16x_229_e
set_option maxRecDepth 100000 in
def p16x_232 : ck_Sum := ((2, 0, 0), 245, [.inr (.inr (.inl 226)), .inl ((-2147483648), (-1), none), .inl (300, 2147483647, none), .inl ((-2147483648), (-1), none), .inl ((-2147483648), (-1), none)], ([], [], [(227, 0, 0, ck_one 3)]), ([(226, 0, 0)], []), [(.inr (some (.inl (ck_one 0))), 245, ([], [], [(226, 0, 0, ck_one 1)]))])
set_option maxRecDepth 100000 in
theorem p16x_232_e : ck_ok p1_O none [] [(289, [p16x_139]), (283, [p16x_140])] 325 [] 94 p16x_232 = true := by decide +kernel
theorem p16x_232_s {X : Int → Int} {LX : Nat} : ck_Ok p1_O X LX 325 p16x_232 := ck_ok_s (ck_E1 (ck_S1 p16x_139_s ck_S0) (ck_E1 (ck_S1 p16x_140_s ck_S0) ck_E0)) ck_X0 ck_l0 p16x_232_e
set_option maxRecDepth 100000 in
def p16x_235 : ck_Sum := ((2, 0, 0), 245, [.inr (.inr (.inl 226)), .inl ((-2147483648), (-1), none), .inl (300, 2147483647, none), .inl ((-2147483648), (-1), none), .inl (ck_one 0)], ([], [], [(227, 0, 0, ck_one 3)]), ([(226, 0, 0)], []), [(.inr (some (.inl (ck_one 0))), 245, ([], [], [(226, 0, 0, ck_one 1)]))])
set_option maxRecDepth 100000 in
theorem p16x_235_e : ck_ok p1_O none [] [(289, [p16x_139]), (283, [p16x_140])] 325 [] 94 p16x_235 = true := by decide +kernel
theorem p16x_235_s {X : Int → Int} {LX : Nat} : ck_Ok p1_O X LX 325 p16x_235 := ck_ok_s (ck_E1 (ck_S1 p16x_139_s ck_S0) (ck_E1 (ck_S1 p16x_140_s ck_S0) ck_E0)) ck_X0 ck_l0 p16x_235_e
set_option maxRecDepth 100000 in
def p16x_238 : ck_Sum := ((2, 0, 0), 245, [.inr (.inr (.inl 226)), .inl ((-2147483648), (-1), none), .inl (300, 2147483647, none), .inl ((-2147483648), (-1), none), .inl (ck_one 1)], ([], [], [(227, 0, 0, ck_one 3)]), ([(226, 0, 0)], []), [(.inr (some (.inl (ck_one 0))), 245, ([], [], [(226, 0, 0, ck_one 1)]))])
set_option maxRecDepth 100000 in
theorem p16x_238_e : ck_ok p1_O none [] [(289, [p16x_139]), (283, [p16x_140])] 325 [] 94 p16x_238 = true := by decide +kernel
theorem p16x_238_s {X : Int → Int} {LX : Nat} : ck_Ok p1_O X LX 325 p16x_238 := ck_ok_s (ck_E1 (ck_S1 p16x_139_s ck_S0) (ck_E1 (ck_S1 p16x_140_s ck_S0) ck_E0)) ck_X0 ck_l0 p16x_238_e
set_option maxRecDepth 100000 in
def p16x_241 : ck_Sum := ((2, 0, 0), 245, [.inr (.inr (.inl 226)), .inl ((-2147483648), (-1), none), .inl (300, 2147483647, none), .inl ((-2147483648), (-1), none), .inl (ck_one 2)], ([], [], [(227, 0, 0, ck_one 3)]), ([(226, 0, 0)], []), [(.inr (some (.inl (ck_one 0))), 245, ([], [], [(226, 0, 0, ck_one 1)]))])
set_option maxRecDepth 100000 in
theorem p16x_241_e : ck_ok p1_O none [] [(289, [p16x_139]), (283, [p16x_140])] 325 [] 94 p16x_241 = true := by decide +kernel
theorem p16x_241_s {X : Int → Int} {LX : Nat} : ck_Ok p1_O X LX 325 p16x_241 := ck_ok_s (ck_E1 (ck_S1 p16x_139_s ck_S0) (ck_E1 (ck_S1 p16x_140_s ck_S0) ck_E0)) ck_X0 ck_l0 p16x_241_e
set_option maxRecDepth 100000 in
def p16x_244 : ck_Sum := ((2, 0, 0), 245, [.inr (.inr (.inl 226)), .inl ((-2147483648), (-1), none), .inl (300, 2147483647, none), .inl ((-2147483648), (-1), none), .inl (3, 2147483647, none)], ([], [], [(227, 0, 0, ck_one 3)]), ([(226, 0, 0)], []), [(.inr (some (.inl (ck_one 0))), 245, ([], [], [(226, 0, 0, ck_one 1)]))])
set_option maxRecDepth 100000 in
theorem p16x_244_e : ck_ok p1_O none [] [(289, [p16x_139]), (283, [p16x_140])] 325 [] 94 p16x_244 = true := by decide +kernel
theorem p16x_244_s {X : Int → Int} {LX : Nat} : ck_Ok p1_O X LX 325 p16x_244 := ck_ok_s (ck_E1 (ck_S1 p16x_139_s ck_S0) (ck_E1 (ck_S1 p16x_140_s ck_S0) ck_E0)) ck_X0 ck_l0 p16x_244_e
set_option maxRecDepth 100000 in
def p16x_247 : ck_Sum := ((2, 0, 0), 245, [.inr (.inr (.inl 226)), .inl ((-2147483648), (-1), none), .inl (300, 2147483647, none), .inl (0, 299, none), .inl ((-2147483648), (-1), none)], ([], [], [(227, 0, 0, ck_one 3)]), ([(226, 0, 0)], []), [(.inr (some (.inl (ck_one 0))), 245, ([], [], [(226, 0, 0, ck_one 1)]))])
set_option maxRecDepth 100000 in
theorem p16x_247_e : ck_ok p1_O none [] [(289, [p16x_139]), (283, [p16x_140])] 325 [] 94 p16x_247 = true := by decide +kernel
theorem p16x_247_s {X : Int → Int} {LX : Nat} : ck_Ok p1_O X LX 325 p16x_247 := ck_ok_s (ck_E1 (ck_S1 p16x_139_s ck_S0) (ck_E1 (ck_S1 p16x_140_s ck_S0) ck_E0)) ck_X0 ck_l0 p16x_247_e
set_option maxRecDepth 100000 in
def p16x_250 : ck_Sum := ((2, 0, 0), 245, [.inr (.inr (.inl 226)), .inl ((-2147483648), (-1), none), .inl (300, 2147483647, none), .inl (0, 299, none), .inl (ck_one 0)], ([], [], [(227, 0, 0, ck_one 3)]), ([(226, 0, 0)], []), [(.inr (some (.inl (ck_one 0))), 245, ([], [], [(226, 0, 0, ck_one 1)]))])
set_option maxRecDepth 100000 in
theorem p16x_250_e : ck_ok p1_O none [] [(289, [p16x_139]), (283, [p16x_140])] 325 [] 94 p16x_250 = true := by decide +kernel
theorem p16x_250_s {X : Int → Int} {LX : Nat} : ck_Ok p1_O X LX 325 p16x_250 := ck_ok_s (ck_E1 (ck_S1 p16x_139_s ck_S0) (ck_E1 (ck_S1 p16x_140_s ck_S0) ck_E0)) ck_X0 ck_l0 p16x_250_e
set_option maxRecDepth 100000 in
def p16x_253 : ck_Sum := ((2, 0, 0), 245, [.inr (.inr (.inl 226)), .inl ((-2147483648), (-1), none), .inl (300, 2147483647, none), .inl (0, 299, none), .inl (ck_one 1)], ([], [], [(227, 0, 0, ck_one 3)]), ([(226, 0, 0)], []), [(.inr (some (.inl (ck_one 0))), 245, ([], [], [(226, 0, 0, ck_one 1)]))])
set_option maxRecDepth 100000 in
theorem p16x_253_e : ck_ok p1_O none [] [(289, [p16x_139]), (283, [p16x_140])] 325 [] 94 p16x_253 = true := by decide +kernel
theorem p16x_253_s {X : Int → Int} {LX : Nat} : ck_Ok p1_O X LX 325 p16x_253 := ck_ok_s (ck_E1 (ck_S1 p16x_139_s ck_S0) (ck_E1 (ck_S1 p16x_140_s ck_S0) ck_E0)) ck_X0 ck_l0 p16x_253_e
set_option maxRecDepth 100000 in
def p16x_256 : ck_Sum := ((2, 0, 0), 245, [.inr (.inr (.inl 226)), .inl ((-2147483648), (-1), none), .inl (300, 2147483647, none), .inl (0, 299, none), .inl (ck_one 2)], ([], [], [(227, 0, 0, ck_one 3)]), ([(226, 0, 0)], []), [(.inr (some (.inl (ck_one 0))), 245, ([], [], [(226, 0, 0, ck_one 1)]))])
set_option maxRecDepth 100000 in
theorem p16x_256_e : ck_ok p1_O none [] [(289, [p16x_139]), (283, [p16x_140])] 325 [] 94 p16x_256 = true := by decide +kernel
theorem p16x_256_s {X : Int → Int} {LX : Nat} : ck_Ok p1_O X LX 325 p16x_256 := ck_ok_s (ck_E1 (ck_S1 p16x_139_s ck_S0) (ck_E1 (ck_S1 p16x_140_s ck_S0) ck_E0)) ck_X0 ck_l0 p16x_256_e
set_option maxRecDepth 100000 in
def p16x_259 : ck_Sum := ((2, 0, 0), 245, [.inr (.inr (.inl 226)), .inl ((-2147483648), (-1), none), .inl (300, 2147483647, none), .inl (0, 299, none), .inl (3, 2147483647, none)], ([], [], [(227, 0, 0, ck_one 3)]), ([(226, 0, 0)], []), [(.inr (some (.inl (ck_one 0))), 245, ([], [], [(226, 0, 0, ck_one 1)]))])
set_option maxRecDepth 100000 in
theorem p16x_259_e : ck_ok p1_O none [] [(289, [p16x_139]), (283, [p16x_140])] 325 [] 94 p16x_259 = true := by decide +kernel
theorem p16x_259_s {X : Int → Int} {LX : Nat} : ck_Ok p1_O X LX 325 p16x_259 := ck_ok_s (ck_E1 (ck_S1 p16x_139_s ck_S0) (ck_E1 (ck_S1 p16x_140_s ck_S0) ck_E0)) ck_X0 ck_l0 p16x_259_e
set_option maxRecDepth 100000 in
def p16x_262 : ck_Sum := ((2, 0, 0), 245, [.inr (.inr (.inl 226)), .inl ((-2147483648), (-1), none), .inl (300, 2147483647, none), .inl (300, 2147483647, none), .inl ((-2147483648), (-1), none)], ([], [], [(227, 0, 0, ck_one 3)]), ([(226, 0, 0)], []), [(.inr (some (.inl (ck_one 0))), 245, ([], [], [(226, 0, 0, ck_one 1)]))])
set_option maxRecDepth 100000 in
theorem p16x_262_e : ck_ok p1_O none [] [(289, [p16x_139]), (283, [p16x_140])] 325 [] 94 p16x_262 = true := by decide +kernel
theorem p16x_262_s {X : Int → Int} {LX : Nat} : ck_Ok p1_O X LX 325 p16x_262 := ck_ok_s (ck_E1 (ck_S1 p16x_139_s ck_S0) (ck_E1 (ck_S1 p16x_140_s ck_S0) ck_E0)) ck_X0 ck_l0 p16x_262_e
set_option maxRecDepth 100000 in
def p16x_265 : ck_Sum := ((2, 0, 0), 245, [.inr (.inr (.inl 226)), .inl ((-2147483648), (-1), none), .inl (300, 2147483647, none), .inl (300, 2147483647, none), .inl (ck_one 0)], ([], [], [(227, 0, 0, ck_one 3)]), ([(226, 0, 0)], []), [(.inr (some (.inl (ck_one 0))), 245, ([], [], [(226, 0, 0, ck_one 1)]))])
set_option maxRecDepth 100000 in
theorem p16x_265_e : ck_ok p1_O none [] [(289, [p16x_139]), (283, [p16x_140])] 325 [] 94 p16x_265 = true := by decide +kernel
theorem p16x_265_s {X : Int → Int} {LX : Nat} : ck_Ok p1_O X LX 325 p16x_265 := ck_ok_s (ck_E1 (ck_S1 p16x_139_s ck_S0) (ck_E1 (ck_S1 p16x_140_s ck_S0) ck_E0)) ck_X0 ck_l0 p16x_265_e
set_option maxRecDepth 100000 in
def p16x_268 : ck_Sum := ((2, 0, 0), 245, [.inr (.inr (.inl 226)), .inl ((-2147483648), (-1), none), .inl (300, 2147483647, none), .inl (300, 2147483647, none), .inl (ck_one 1)], ([], [], [(227, 0, 0, ck_one 3)]), ([(226, 0, 0)], []), [(.inr (some (.inl (ck_one 0))), 245, ([], [], [(226, 0, 0, ck_one 1)]))])
set_option maxRecDepth 100000 in
theorem p16x_268_e : ck_ok p1_O none [] [(289, [p16x_139]), (283, [p16x_140])] 325 [] 94 p16x_268 = true := by decide +kernel
theorem p16x_268_s {X : Int → Int} {LX : Nat} : ck_Ok p1_O X LX 325 p16x_268 := ck_ok_s (ck_E1 (ck_S1 p16x_139_s ck_S0) (ck_E1 (ck_S1 p16x_140_s ck_S0) ck_E0)) ck_X0 ck_l0 p16x_268_e
set_option maxRecDepth 100000 in
def p16x_271 : ck_Sum := ((2, 0, 0), 245, [.inr (.inr (.inl 226)), .inl ((-2147483648), (-1), none), .inl (300, 2147483647, none), .inl (300, 2147483647, none), .inl (ck_one 2)], ([], [], [(227, 0, 0, ck_one 3)]), ([(226, 0, 0)], []), [(.inr (some (.inl (ck_one 0))), 245, ([], [], [(226, 0, 0, ck_one 1)]))])
set_option maxRecDepth 100000 in
theorem p16x_271_e : ck_ok p1_O none [] [(289, [p16x_139]), (283, [p16x_140])] 325 [] 94 p16x_271 = true := by decide +kernel
theorem p16x_271_s {X : Int → Int} {LX : Nat} : ck_Ok p1_O X LX 325 p16x_271 := ck_ok_s (ck_E1 (ck_S1 p16x_139_s ck_S0) (ck_E1 (ck_S1 p16x_140_s ck_S0) ck_E0)) ck_X0 ck_l0 p16x_271_e
set_option maxRecDepth 100000 in
def p16x_274 : ck_Sum := ((2, 0, 0), 245, [.inr (.inr (.inl 226)), .inl ((-2147483648), (-1), none), .inl (300, 2147483647, none), .inl (300, 2147483647, none), .inl (3, 2147483647, none)], ([], [], [(227, 0, 0, ck_one 3)]), ([(226, 0, 0)], []), [(.inr (some (.inl (ck_one 0))), 245, ([], [], [(226, 0, 0, ck_one 1)]))])
set_option maxRecDepth 100000 in
theorem p16x_274_e : ck_ok p1_O none [] [(289, [p16x_139]), (283, [p16x_140])] 325 [] 94 p16x_274 = true := by decide +kernel
theorem p16x_274_s {X : Int → Int} {LX : Nat} : ck_Ok p1_O X LX 325 p16x_274 := ck_ok_s (ck_E1 (ck_S1 p16x_139_s ck_S0) (ck_E1 (ck_S1 p16x_140_s ck_S0) ck_E0)) ck_X0 ck_l0 p16x_274_e
set_option maxRecDepth 100000 in
def p16x_280 : ck_Sum := ((0, 0, 0), 245, [.inl (0, 2, none), .inl (ck_one 0), .inl (ck_one 2)], ([], [], []), ([], []), [(.inr (some (.inl (ck_one 1))), 245, ([], [], []))])
set_option maxRecDepth 100000 in
theorem p16x_280_e : ck_ok p1_O none [] [] 287 [] 88 p16x_280 = true := by decide +kernel
theorem p16x_280_s {X : Int → Int} {LX : Nat} : ck_Ok p1_O X LX 287 p16x_280 := ck_ok_s (ck_E0) ck_X0 ck_l0 p16x_280_e
set_option maxRecDepth 100000 in
def p16x_281 : ck_Sum := ((1, 0, 0), 245, [.inr (.inr (.inl 226)), .inl (0, 2, none)], ([], [], [(227, 0, 0, ck_one 3)]), ([], []), [(.inr (some (.inl (ck_one 0))), 245, ([], [], []))])
set_option maxRecDepth 100000 in
theorem p16x_281_e : ck_ok p1_O none [] [(262, [p16x_137]), (287, [p16x_280])] 289 [] 90 p16x_281 = true := by decide +kernel
theorem p16x_281_s {X : Int → Int} {LX : Nat} : ck_Ok p1_O X LX 289 p16x_281 := ck_ok_s (ck_E1 (ck_S1 p16x_137_s ck_S0) (ck_E1 (ck_S1 p16x_280_s ck_S0) ck_E0)) ck_X0 ck_l0 p16x_281_e
set_option maxRecDepth 100000 in
def p16x_282 : ck_Sum := ((0, 0, 0), 245, [.inr (.inr (.inl 226)), .inl (ck_one 0), .inl (ck_one 1)], ([], [], []), ([], []), [(.inr (some (.inl (ck_one 0))), 245, ([], [], []))])
set_option maxRecDepth 100000 in
theorem p16x_282_e : ck_ok p1_O none [] [] 283 [] 78 p16x_282 = true := by decide +kernel
theorem p16x_282_s {X : Int → Int} {LX : Nat} : ck_Ok p1_O X LX 283 p16x_282 := ck_ok_s (ck_E0) ck_X0 ck_l0 p16x_282_e
set_option maxRecDepth 100000 in
def p16x_285 : ck_Sum := ((0, 0, 0), 245, [.inr (.inr (.inl 226)), .inl (ck_one 1), .inl (ck_one 2)], ([], [], []), ([(226, 0, 0)], []), [(.inr (some (.inl (ck_one 1))), 245, ([], [], [(226, 0, 0, ck_one 2)]))])
set_option maxRecDepth 100000 in
theorem p16x_285_e : ck_ok p1_O none [] [] 283 [] 84 p16x_285 = true := by decide +kernel
theorem p16x_285_s {X : Int → Int} {LX : Nat} : ck_Ok p1_O X LX 283 p16x_285 := ck_ok_s (ck_E0) ck_X0 ck_l0 p16x_285_e
set_option maxRecDepth 100000 in
def p16x_283 : ck_Sum := ((0, 0, 0), 245, [.inl ((-2147483648), (-1), none), .inl (ck_one 0), .inl (ck_one 299)], ([], [], []), ([], []), [(.inr (some (.inl (ck_one 0))), 245, ([], [], []))])
set_option maxRecDepth 100000 in
theorem p16x_283_e : ck_ok p1_O none [] [] 287 [] 80 p16x_283 = true := by decide +kernel
theorem p16x_283_s {X : Int → Int} {LX : Nat} : ck_Ok p1_O X LX 287 p16x_283 := ck_ok_s (ck_E0) ck_X0 ck_l0 p16x_283_e
set_option maxRecDepth 100000 in
def p16x_284 : ck_Sum := ((1, 0, 0), 245, [.inl ((-2147483648), (-1), none)], ([], [], []), ([], []), [(.inr (some (.inl (ck_one 1))), 245, ([], [], []))])
set_option maxRecDepth 100000 in
theorem p16x_284_e : ck_ok p1_O none [] [(287, [p16x_283])] 286 [] 86 p16x_284 = true := by decide +kernel
theorem p16x_284_s {X : Int → Int} {LX : Nat} : ck_Ok p1_O X LX 286 p16x_284 := ck_ok_s (ck_E1 (ck_S1 p16x_283_s ck_S0) ck_E0) ck_X0 ck_l0 p16x_284_e
set_option maxRecDepth 100000 in
def p16x_286 : ck_Sum := ((2, 0, 0), 245, [.inr (.inr (.inl 226)), .inl (0, 2, none), .inl ((-2147483648), (-1), none), .inl ((-2147483648), (-1), none), .inl ((-2147483648), (-1), none)], ([], [], [(227, 0, 0, ck_one 3)]), ([(226, 0, 0)], []), [(.inr (some (.inl (ck_one 0))), 245, ([], [], [(226, 0, 0, ck_one 2)]))])
set_option maxRecDepth 100000 in
theorem p16x_286_e : ck_ok p1_O none [] [(289, [p16x_281]), (283, [p16x_282, p16x_285]), (286, [p16x_284])] 325 [] 112 p16x_286 = true := by decide +kernel
theorem p16x_286_s {X : Int → Int} {LX : Nat} : ck_Ok p1_O X LX 325 p16x_286 := ck_ok_s (ck_E1 (ck_S1 p16x_281_s ck_S0) (ck_E1 (ck_S1 p16x_282_s (ck_S1 p16x_285_s ck_S0)) (ck_E1 (ck_S1 p16x_284_s ck_S0) ck_E0))) ck_X0 ck_l0 p16x_286_e
set_option maxRecDepth 100000 in
def p16x_290 : ck_Sum := ((2, 0, 0), 245, [.inr (.inr (.inl 226)), .inl (0, 2, none), .inl ((-2147483648), (-1), none), .inl ((-2147483648), (-1), none), .inl (ck_one 0)], ([], [], [(227, 0, 0, ck_one 3)]), ([(226, 0, 0)], []), [(.inr (some (.inl (ck_one 0))), 245, ([], [], [(226, 0, 0, ck_one 2)]))])
set_option maxRecDepth 100000 in
theorem p16x_290_e : ck_ok p1_O none [] [(289, [p16x_281]), (283, [p16x_282, p16x_285]), (286, [p16x_284])] 325 [] 112 p16x_290 = true := by decide +kernel
theorem p16x_290_s {X : Int → Int} {LX : Nat} : ck_Ok p1_O X LX 325 p16x_290 := ck_ok_s (ck_E1 (ck_S1 p16x_281_s ck_S0) (ck_E1 (ck_S1 p16x_282_s (ck_S1 p16x_285_s ck_S0)) (ck_E1 (ck_S1 p16x_284_s ck_S0) ck_E0))) ck_X0 ck_l0 p16x_290_e
set_option maxRecDepth 100000 in
def p16x_293 : ck_Sum := ((2, 0, 0), 245, [.inr (.inr (.inl 226)), .inl (0, 2, none), .inl ((-2147483648), (-1), none), .inl ((-2147483648), (-1), none), .inl (ck_one 1)], ([], [], [(227, 0, 0, ck_one 3)]), ([(226, 0, 0)], []), [(.inr (some (.inl (ck_one 0))), 245, ([], [], [(226, 0, 0, ck_one 2)]))])
set_option maxRecDepth 100000 in
theorem p16x_293_e : ck_ok p1_O none [] [(289, [p16x_281]), (283, [p16x_282, p16x_285]), (286, [p16x_284])] 325 [] 112 p16x_293 = true := by decide +kernel
theorem p16x_293_s {X : Int → Int} {LX : Nat} : ck_Ok p1_O X LX 325 p16x_293 := ck_ok_s (ck_E1 (ck_S1 p16x_281_s ck_S0) (ck_E1 (ck_S1 p16x_282_s (ck_S1 p16x_285_s ck_S0)) (ck_E1 (ck_S1 p16x_284_s ck_S0) ck_E0))) ck_X0 ck_l0 p16x_293_e
set_option maxRecDepth 100000 in
def p16x_296 : ck_Sum := ((2, 0, 0), 245, [.inr (.inr (.inl 226)), .inl (0, 2, none), .inl ((-2147483648), (-1), none), .inl ((-2147483648), (-1), none), .inl (ck_one 2)], ([], [], [(227, 0, 0, ck_one 3)]), ([(226, 0, 0)], []), [(.inr (some (.inl (ck_one 0))), 245, ([], [], [(226, 0, 0, ck_one 2)]))])
set_option maxRecDepth 100000 in
theorem p16x_296_e : ck_ok p1_O none [] [(289, [p16x_281]), (283, [p16x_282, p16x_285]), (286, [p16x_284])] 325 [] 112 p16x_296 = true := by decide +kernel
theorem p16x_296_s {X : Int → Int} {LX : Nat} : ck_Ok p1_O X LX 325 p16x_296 := ck_ok_s (ck_E1 (ck_S1 p16x_281_s ck_S0) (ck_E1 (ck_S1 p16x_282_s (ck_S1 p16x_285_s ck_S0)) (ck_E1 (ck_S1 p16x_284_s ck_S0) ck_E0))) ck_X0 ck_l0 p16x_296_e
set_option maxRecDepth 100000 in
def p16x_299 : ck_Sum := ((2, 0, 0), 245, [.inr (.inr (.inl 226)), .inl (0, 2, none), .inl ((-2147483648), (-1), none), .inl ((-2147483648), (-1), none), .inl (3, 2147483647, none)], ([], [], [(227, 0, 0, ck_one 3)]), ([(226, 0, 0)], []), [(.inr (some (.inl (ck_one 0))), 245, ([], [], [(226, 0, 0, ck_one 2)]))])
set_option maxRecDepth 100000 in
theorem p16x_299_e : ck_ok p1_O none [] [(289, [p16x_281]), (283, [p16x_282, p16x_285]), (286, [p16x_284])] 325 [] 112 p16x_299 = true := by decide +kernel
theorem p16x_299_s {X : Int → Int} {LX : Nat} : ck_Ok p1_O X LX 325 p16x_299 := ck_ok_s (ck_E1 (ck_S1 p16x_281_s ck_S0) (ck_E1 (ck_S1 p16x_282_s (ck_S1 p16x_285_s ck_S0)) (ck_E1 (ck_S1 p16x_284_s ck_S0) ck_E0))) ck_X0 ck_l0 p16x_299_e
set_option maxRecDepth 100000 in
def p16x_302 : ck_Sum := ((2, 0, 0), 245, [.inr (.inr (.inl 226)), .inl (0, 2, none), .inl ((-2147483648), (-1), none), .inl (0, 299, none), .inl ((-2147483648), (-1), none)], ([], [], [(227, 0, 0, ck_one 3)]), ([(226, 0, 0)], []), [(.inr (some (.inl (ck_one 0))), 245, ([], [], [(226, 0, 0, ck_one 2)]))])
set_option maxRecDepth 100000 in
theorem p16x_302_e : ck_ok p1_O none [] [(289, [p16x_281]), (283, [p16x_282, p16x_285]), (286, [p16x_284])] 325 [] 112 p16x_302 = true := by decide +kernel
theorem p16x_302_s {X : Int → Int} {LX : Nat} : ck_Ok p1_O X LX 325 p16x_302 := ck_ok_s (ck_E1 (ck_S1 p16x_281_s ck_S0) (ck_E1 (ck_S1 p16x_282_s (ck_S1 p16x_285_s ck_S0)) (ck_E1 (ck_S1 p16x_284_s ck_S0) ck_E0))) ck_X0 ck_l0 p16x_302_e
set_option maxRecDepth 100000 in
def p16x_305 : ck_Sum := ((2, 0, 0), 245, [.inr (.inr (.inl 226)), .inl (0, 2, none), .inl ((-2147483648), (-1), none), .inl (0, 299, none), .inl (ck_one 0)], ([], [], [(227, 0, 0, ck_one 3)]), ([(226, 0, 0)], []), [(.inr (some (.inl (ck_one 0))), 245, ([], [], [(226, 0, 0, ck_one 2)]))])
set_option maxRecDepth 100000 in
theorem p16x_305_e : ck_ok p1_O none [] [(289, [p16x_281]), (283, [p16x_282, p16x_285]), (286, [p16x_284])] 325 [] 112 p16x_305 = true := by decide +kernel
theorem p16x_305_s {X : Int → Int} {LX : Nat} : ck_Ok p1_O X LX 325 p16x_305 := ck_ok_s (ck_E1 (ck_S1 p16x_281_s ck_S0) (ck_E1 (ck_S1 p16x_282_s (ck_S1 p16x_285_s ck_S0)) (ck_E1 (ck_S1 p16x_284_s ck_S0) ck_E0))) ck_X0 ck_l0 p16x_305_e
set_option maxRecDepth 100000 in
def p16x_308 : ck_Sum := ((2, 0, 0), 245, [.inr (.inr (.inl 226)), .inl (0, 2, none), .inl ((-2147483648), (-1), none), .inl (0, 299, none), .inl (ck_one 1)], ([], [], [(227, 0, 0, ck_one 3)]), ([(226, 0, 0)], []), [(.inr (some (.inl (ck_one 0))), 245, ([], [], [(226, 0, 0, ck_one 2)]))])
set_option maxRecDepth 100000 in
theorem p16x_308_e : ck_ok p1_O none [] [(289, [p16x_281]), (283, [p16x_282, p16x_285]), (286, [p16x_284])] 325 [] 112 p16x_308 = true := by decide +kernel
theorem p16x_308_s {X : Int → Int} {LX : Nat} : ck_Ok p1_O X LX 325 p16x_308 := ck_ok_s (ck_E1 (ck_S1 p16x_281_s ck_S0) (ck_E1 (ck_S1 p16x_282_s (ck_S1 p16x_285_s ck_S0)) (ck_E1 (ck_S1 p16x_284_s ck_S0) ck_E0))) ck_X0 ck_l0 p16x_308_e
set_option maxRecDepth 100000 in
def p16x_311 : ck_Sum := ((2, 0, 0), 245, [.inr (.inr (.inl 226)), .inl (0, 2, none), .inl ((-2147483648), (-1), none), .inl (0, 299, none), .inl (ck_one 2)], ([], [], [(227, 0, 0, ck_one 3)]), ([(226, 0, 0)], []), [(.inr (some (.inl (ck_one 0))), 245, ([], [], [(226, 0, 0, ck_one 2)]))])
set_option maxRecDepth 100000 in
theorem p16x_311_e : ck_ok p1_O none [] [(289, [p16x_281]), (283, [p16x_282, p16x_285]), (286, [p16x_284])] 325 [] 112 p16x_311 = true := by decide +kernel
theorem p16x_311_s {X : Int → Int} {LX : Nat} : ck_Ok p1_O X LX 325 p16x_311 := ck_ok_s (ck_E1 (ck_S1 p16x_281_s ck_S0) (ck_E1 (ck_S1 p16x_282_s (ck_S1 p16x_285_s ck_S0)) (ck_E1 (ck_S1 p16x_284_s ck_S0) ck_E0))) ck_X0 ck_l0 p16x_311_e
set_option maxRecDepth 100000 in
def p16x_314 : ck_Sum := ((2, 0, 0), 245, [.inr (.inr (.inl 226)), .inl (0, 2, none), .inl ((-2147483648), (-1), none), .inl (0, 299, none), .inl (3, 2147483647, none)], ([], [], [(227, 0, 0, ck_one 3)]), ([(226, 0, 0)], []), [(.inr (some (.inl (ck_one 0))), 245, ([], [], [(226, 0, 0, ck_one 2)]))])
set_option maxRecDepth 100000 in
theorem p16x_314_e : ck_ok p1_O none [] [(289, [p16x_281]), (283, [p16x_282, p16x_285]), (286, [p16x_284])] 325 [] 112 p16x_314 = true := by decide +kernel
theorem p16x_314_s {X : Int → Int} {LX : Nat} : ck_Ok p1_O X LX 325 p16x_314 := ck_ok_s (ck_E1 (ck_S1 p16x_281_s ck_S0) (ck_E1 (ck_S1 p16x_282_s (ck_S1 p16x_285_s ck_S0)) (ck_E1 (ck_S1 p16x_284_s ck_S0) ck_E0))) ck_X0 ck_l0 p16x_314_e
set_option maxRecDepth 100000 in
def p16x_317 : ck_Sum := ((2, 0, 0), 245, [.inr (.inr (.inl 226)), .inl (0, 2, none), .inl ((-2147483648), (-1), none), .inl (300, 2147483647, none), .inl ((-2147483648), (-1), none)], ([], [], [(227, 0, 0, ck_one 3)]), ([(226, 0, 0)], []), [(.inr (some (.inl (ck_one 0))), 245, ([], [], [(226, 0, 0, ck_one 2)]))])
set_option maxRecDepth 100000 in
theorem p16x_317_e : ck_ok p1_O none [] [(289, [p16x_281]), (283, [p16x_282, p16x_285]), (286, [p16x_284])] 325 [] 112 p16x_317 = true := by decide +kernel
theorem p16x_317_s {X : Int → Int} {LX : Nat} : ck_Ok p1_O X LX 325 p16x_317 := ck_ok_s (ck_E1 (ck_S1 p16x_281_s ck_S0) (ck_E1 (ck_S1 p16x_282_s (ck_S1 p16x_285_s ck_S0)) (ck_E1 (ck_S1 p16x_284_s ck_S0) ck_E0))) ck_X0 ck_l0 p16x_317_e
set_option maxRecDepth 100000 in
def p16x_320 : ck_Sum := ((2, 0, 0), 245, [.inr (.inr (.inl 226)), .inl (0, 2, none), .inl ((-2147483648), (-1), none), .inl (300, 2147483647, none), .inl (ck_one 0)], ([], [], [(227, 0, 0, ck_one 3)]), ([(226, 0, 0)], []), [(.inr (some (.inl (ck_one 0))), 245, ([], [], [(226, 0, 0, ck_one 2)]))])
set_option maxRecDepth 100000 in
theorem p16x_320_e : ck_ok p1_O none [] [(289, [p16x_281]), (283, [p16x_282, p16x_285]), (286, [p16x_284])] 325 [] 112 p16x_320 = true := by decide +kernel
theorem p16x_320_s {X : Int → Int} {LX : Nat} : ck_Ok p1_O X LX 325 p16x_320 := ck_ok_s (ck_E1 (ck_S1 p16x_281_s ck_S0) (ck_E1 (ck_S1 p16x_282_s (ck_S1 p16x_285_s ck_S0)) (ck_E1 (ck_S1 p16x_284_s ck_S0) ck_E0))) ck_X0 ck_l0 p16x_320_e
set_option maxRecDepth 100000 in
def p16x_323 : ck_Sum := ((2, 0, 0), 245, [.inr (.inr (.inl 226)), .inl (0, 2, none), .inl ((-2147483648), (-1), none), .inl (300, 2147483647, none), .inl (ck_one 1)], ([], [], [(227, 0, 0, ck_one 3)]), ([(226, 0, 0)], []), [(.inr (some (.inl (ck_one 0))), 245, ([], [], [(226, 0, 0, ck_one 2)]))])
set_option maxRecDepth 100000 in
theorem p16x_323_e : ck_ok p1_O none [] [(289, [p16x_281]), (283, [p16x_282, p16x_285]), (286, [p16x_284])] 325 [] 112 p16x_323 = true := by decide +kernel
theorem p16x_323_s {X : Int → Int} {LX : Nat} : ck_Ok p1_O X LX 325 p16x_323 := ck_ok_s (ck_E1 (ck_S1 p16x_281_s ck_S0) (ck_E1 (ck_S1 p16x_282_s (ck_S1 p16x_285_s ck_S0)) (ck_E1 (ck_S1 p16x_284_s ck_S0) ck_E0))) ck_X0 ck_l0 p16x_323_e
set_option maxRecDepth 100000 in
def p16x_326 : ck_Sum := ((2, 0, 0), 245, [.inr (.inr (.inl 226)), .inl (0, 2, none), .inl ((-2147483648), (-1), none), .inl (300, 2147483647, none), .inl (ck_one 2)], ([], [], [(227, 0, 0, ck_one 3)]), ([(226, 0, 0)], []), [(.inr (some (.inl (ck_one 0))), 245, ([], [], [(226, 0, 0, ck_one 2)]))])
set_option maxRecDepth 100000 in
theorem p16x_326_e : ck_ok p1_O none [] [(289, [p16x_281]), (283, [p16x_282, p16x_285]), (286, [p16x_284])] 325 [] 112 p16x_326 = true := by decide +kernel
theorem p16x_326_s {X : Int → Int} {LX : Nat} : ck_Ok p1_O X LX 325 p16x_326 := ck_ok_s (ck_E1 (ck_S1 p16x_281_s ck_S0) (ck_E1 (ck_S1 p16x_282_s (ck_S1 p16x_285_s ck_S0)) (ck_E1 (ck_S1 p16x_284_s ck_S0) ck_E0))) ck_X0 ck_l0 p16x_326_e
set_option maxRecDepth 100000 in
def p16x_329 : ck_Sum := ((2, 0, 0), 245, [.inr (.inr (.inl 226)), .inl (0, 2, none), .inl ((-2147483648), (-1), none), .inl (300, 2147483647, none), .inl (3, 2147483647, none)], ([], [], [(227, 0, 0, ck_one 3)]), ([(226, 0, 0)], []), [(.inr (some (.inl (ck_one 0))), 245, ([], [], [(226, 0, 0, ck_one 2)]))])
set_option maxRecDepth 100000 in
theorem p16x_329_e : ck_ok p1_O none [] [(289, [p16x_281]), (283, [p16x_282, p16x_285]), (286, [p16x_284])] 325 [] 112 p16x_329 = true := by decide +kernel
theorem p16x_329_s {X : Int → Int} {LX : Nat} : ck_Ok p1_O X LX 325 p16x_329 := ck_ok_s (ck_E1 (ck_S1 p16x_281_s ck_S0) (ck_E1 (ck_S1 p16x_282_s (ck_S1 p16x_285_s ck_S0)) (ck_E1 (ck_S1 p16x_284_s ck_S0) ck_E0))) ck_X0 ck_l0 p16x_329_e
set_option maxRecDepth 100000 in
def p16x_333 : ck_Sum := ((0, 0, 0), 245, [.inl (0, 299, none), .inl (ck_one 0), .inl (ck_one 299)], ([], [], []), ([], []), [(.inr (some (.inl (ck_one 1))), 245, ([], [], []))])
set_option maxRecDepth 100000 in
theorem p16x_333_e : ck_ok p1_O none [] [] 287 [] 88 p16x_333 = true := by decide +kernel
theorem p16x_333_s {X : Int → Int} {LX : Nat} : ck_Ok p1_O X LX 287 p16x_333 := ck_ok_s (ck_E0) ck_X0 ck_l0 p16x_333_e
set_option maxRecDepth 100000 in
def p16x_334 : ck_Sum := ((1, 0, 0), 245, [.inl (0, 299, none)], ([], [], []), ([], []), [(.inr (some (.inl (ck_one 0))), 245, ([], [], []))])
set_option maxRecDepth 100000 in
theorem p16x_334_e : ck_ok p1_O none [] [(287, [p16x_333])] 286 [] 84 p16x_334 = true := by decide +kernel
theorem p16x_334_s {X : Int → Int} {LX : Nat} : ck_Ok p1_O X LX 286 p16x_334 := ck_ok_s (ck_E1 (ck_S1 p16x_333_s ck_S0) ck_E0) ck_X0 ck_l0 p16x_334_e
set_option maxRecDepth 100000 in
def p16x_335 : ck_Sum := ((2, 0, 0), 245, [.inr (.inr (.inl 226)), .inl (0, 2, none), .inl (0, 299, none), .inl ((-2147483648), (-1), none), .inl ((-2147483648), (-1), none)], ([], [], [(227, 0, 0, ck_one 3)]), ([(226, 0, 0)], []), [(.inr (some (.inl (ck_one 0))), 245, ([], [], [(226, 0, 0, ck_one 2)]))])
set_option maxRecDepth 100000 in
theorem p16x_335_e : ck_ok p1_O none [] [(289, [p16x_281]), (283, [p16x_282, p16x_285]), (286, [p16x_334, p16x_284])] 325 [] 118 p16x_335 = true := by decide +kernel
theorem p16x_335_s {X : Int → Int} {LX : Nat} : ck_Ok p1_O X LX 325 p16x_335 := ck_ok_s (ck_E1 (ck_S1 p16x_281_s ck_S0) (ck_E1 (ck_S1 p16x_282_s (ck_S1 p16x_285_s ck_S0)) (ck_E1 (ck_S1 p16x_334_s (ck_S1 p16x_284_s ck_S0)) ck_E0))) ck_X0 ck_l0 p16x_335_e
set_option maxRecDepth 100000 in
def p16x_338 : ck_Sum := ((2, 0, 0), 245, [.inr (.inr (.inl 226)), .inl (0, 2, none), .inl (0, 299, none), .inl ((-2147483648), (-1), none), .inl (ck_one 0)], ([], [], [(227, 0, 0, ck_one 3)]), ([(226, 0, 0)], []), [(.inr (some (.inl (ck_one 0))), 245, ([], [], [(226, 0, 0, ck_one 2)]))])
set_option maxRecDepth 100000 in
theorem p16x_338_e : ck_ok p1_O none [] [(289, [p16x_281]), (283, [p16x_282, p16x_285]), (286, [p16x_334, p16x_284])] 325 [] 118 p16x_338 = true := by decide +kernel
theorem p16x_338_s {X : Int → Int} {LX : Nat} : ck_Ok p1_O X LX 325 p16x_338 := ck_ok_s (ck_E1 (ck_S1 p16x_281_s ck_S0) (ck_E1 (ck_S1 p16x_282_s (ck_S1 p16x_285_s ck_S0)) (ck_E1 (ck_S1 p16x_334_s (ck_S1 p16x_284_s ck_S0)) ck_E0))) ck_X0 ck_l0 p16x_338_e
set_option maxRecDepth 100000 in
def p16x_341 : ck_Sum := ((2, 0, 0), 245, [.inr (.inr (.inl 226)), .inl (0, 2, none), .inl (0, 299, none), .inl ((-2147483648), (-1), none), .inl (ck_one 1)], ([], [], [(227, 0, 0, ck_one 3)]), ([(226, 0, 0)], []), [(.inr (some (.inl (ck_one 0))), 245, ([], [], [(226, 0, 0, ck_one 2)]))])
set_option maxRecDepth 100000 in
theorem p16x_341_e : ck_ok p1_O none [] [(289, [p16x_281]), (283, [p16x_282, p16x_285]), (286, [p16x_334, p16x_284])] 325 [] 118 p16x_341 = true := by decide +kernel
theorem p16x_341_s {X : Int → Int} {LX : Nat} : ck_Ok p1_O X LX 325 p16x_341 := ck_ok_s (ck_E1 (ck_S1 p16x_281_s ck_S0) (ck_E1 (ck_S1 p16x_282_s (ck_S1 p16x_285_s ck_S0)) (ck_E1 (ck_S1 p16x_334_s (ck_S1 p16x_284_s ck_S0)) ck_E0))) ck_X0 ck_l0 p16x_341_e
set_option maxRecDepth 100000 in
def p16x_344 : ck_Sum := ((2, 0, 0), 245, [.inr (.inr (.inl 226)), .inl (0, 2, none), .inl (0, 299, none), .inl ((-2147483648), (-1), none), .inl (ck_one 2)], ([], [], [(227, 0, 0, ck_one 3)]), ([(226, 0, 0)], []), [(.inr (some (.inl (ck_one 0))), 245, ([], [], [(226, 0, 0, ck_one 2)]))])
set_option maxRecDepth 100000 in
theorem p16x_344_e : ck_ok p1_O none [] [(289, [p16x_281]), (283, [p16x_282, p16x_285]), (286, [p16x_334, p16x_284])] 325 [] 118 p16x_344 = true := by decide +kernel
theorem p16x_344_s {X : Int → Int} {LX : Nat} : ck_Ok p1_O X LX 325 p16x_344 := ck_ok_s (ck_E1 (ck_S1 p16x_281_s ck_S0) (ck_E1 (ck_S1 p16x_282_s (ck_S1 p16x_285_s ck_S0)) (ck_E1 (ck_S1 p16x_334_s (ck_S1 p16x_284_s ck_S0)) ck_E0))) ck_X0 ck_l0 p16x_344_e
set_option maxRecDepth 100000 in
def p16x_347 : ck_Sum := ((2, 0, 0), 245, [.inr (.inr (.inl 226)), .inl (0, 2, none), .inl (0, 299, none), .inl ((-2147483648), (-1), none), .inl (3, 2147483647, none)], ([], [], [(227, 0, 0, ck_one 3)]), ([(226, 0, 0)], []), [(.inr (some (.inl (ck_one 0))), 245, ([], [], [(226, 0, 0, ck_one 2)]))])
set_option maxRecDepth 100000 in
theorem p16x_347_e : ck_ok p1_O none [] [(289, [p16x_281]), (283, [p16x_282, p16x_285]), (286, [p16x_334, p16x_284])] 325 [] 118 p16x_347 = true := by decide +kernel
theorem p16x_347_s {X : Int → Int} {LX : Nat} : ck_Ok p1_O X LX 325 p16x_347 := ck_ok_s (ck_E1 (ck_S1 p16x_281_s ck_S0) (ck_E1 (ck_S1 p16x_282_s (ck_S1 p16x_285_s ck_S0)) (ck_E1 (ck_S1 p16x_334_s (ck_S1 p16x_284_s ck_S0)) ck_E0))) ck_X0 ck_l0 p16x_347_e
set_option maxRecDepth 100000 in
def p16x_351 : ck_Sum := ((0, 0, 0), 245, [.inr (.inr (.inl 226)), .inl (ck_one 0), .inl (ck_one 2)], ([], [], []), ([], []), [(.inr (some (.inl (ck_one 0))), 245, ([], [], []))])
set_option maxRecDepth 100000 in
theorem p16x_351_e : ck_ok p1_O none [] [] 283 [] 78 p16x_351 = true := by decide +kernel
theorem p16x_351_s {X : Int → Int} {LX : Nat} : ck_Ok p1_O X LX 283 p16x_351 := ck_ok_s (ck_E0) ck_X0 ck_l0 p16x_351_e
set_option maxRecDepth 100000 in
def p16x_352 : ck_Sum := ((0, 0, 0), 245, [.inr (.inr (.inl 226)), .inl (ck_one 1), .inl (ck_one 3)], ([], [], []), ([(226, 0, 0)], []), [(.inr (some (.inl (ck_one 1))), 245, ([], [], [(226, 0, 0, ck_one 3)]))])
set_option maxRecDepth 100000 in
theorem p16x_352_e : ck_ok p1_O none [] [] 283 [] 84 p16x_352 = true := by decide +kernel
theorem p16x_352_s {X : Int → Int} {LX : Nat} : ck_Ok p1_O X LX 283 p16x_352 := ck_ok_s (ck_E0) ck_X0 ck_l0 p16x_352_e
set_option maxRecDepth 100000 in
def p16x_350 : ck_Sum := ((0, 0, 0), 245, [.inr (.inr (.inl 226))], ([], [], [(227, 2, 9, ck_one 0)]), ([], []), [(.inr (some (.inl (ck_one 0))), 245, ([], [], []))])
set_option maxRecDepth 100000 in
theorem p16x_350_e : ck_ok p1_O none [] [] 267 [] 80 p16x_350 = true := by decide +kernel
theorem p16x_350_s {X : Int → Int} {LX : Nat} : ck_Ok p1_O X LX 267 p16x_350 := ck_ok_s (ck_E0) ck_X0 ck_l0 p16x_350_e
set_option maxRecDepth 100000 in
def p16x_353 : ck_Sum := ((2, 0, 0), 245, [.inr (.inr (.inl 226)), .inl (0, 2, none), .inl (0, 299, none), .inl (0, 299, none), .inl ((-2147483648), (-1), none)], ([], [], [(227, 0, 0, ck_one 3), (227, 2, 9, ck_one 0)]), ([(226, 0, 0)], []), [(.inr (some (.inl (ck_one 0))), 245, ([], [], [(226, 0, 0, ck_one 3)]))])
set_option maxRecDepth 100000 in
theorem p16x_353_e : ck_ok p1_O none [] [(289, [p16x_281]), (283, [p16x_282, p16x_351, p16x_352]), (286, [p16x_334]), (267, [p16x_350]), (287, [p16x_138])] 325 [] 146 p16x_353 = true := by decide +kernel
theorem p16x_353_s {X : Int → Int} {LX : Nat} : ck_Ok p1_O X LX 325 p16x_353 := ck_ok_s (ck_E1 (ck_S1 p16x_281_s ck_S0) (ck_E1 (ck_S1 p16x_282_s (ck_S1 p16x_351_s (ck_S1 p16x_352_s ck_S0))) (ck_E1 (ck_S1 p16x_334_s ck_S0) (ck_E1 (ck_S1 p16x_350_s ck_S0) (ck_E1 (ck_S1 p16x_138_s ck_S0) ck_E0))))) ck_X0 ck_l0 p16x_353_e
set_option maxRecDepth 100000 in
def p16x_3398 : ck_Sum := ((0, 0, 0), 245, [.inr (.inr (.inl 226)), .inl (ck_one 0), .inl (ck_one 3)], ([], [], []), ([], []), [(.inr (some (.inl (ck_one 0))), 245, ([], [], []))])
set_option maxRecDepth 100000 in
theorem p16x_3398_e : ck_ok p1_O none [] [] 283 [] 78 p16x_3398 = true := by decide +kernel
theorem p16x_3398_s {X : Int → Int} {LX : Nat} : ck_Ok p1_O X LX 283 p16x_3398 := ck_ok_s (ck_E0) ck_X0 ck_l0 p16x_3398_e
set_option maxRecDepth 100000 in
def p16x_3397 : ck_Sum := ((0, 0, 0), 245, [.inl (ck_one 0), .inl (ck_one 0), .inl (ck_one 2)], ([], [], []), ([], []), [(.inr (some (.inl (ck_one 1))), 245, ([], [], []))])
set_option maxRecDepth 100000 in
theorem p16x_3397_e : ck_ok p1_O none [] [] 287 [] 88 p16x_3397 = true := by decide +kernel
theorem p16x_3397_s {X : Int → Int} {LX : Nat} : ck_Ok p1_O X LX 287 p16x_3397 := ck_ok_s (ck_E0) ck_X0 ck_l0 p16x_3397_e
set_option maxRecDepth 100000 in
def p16x_3399 : ck_Sum := ((0, 0, 0), 245, [.inr (.inr (.inl 226))], ([], [], [(227, 1, 1, ck_one 40)]), ([], []), [(.inr (some (.inl (ck_one 40))), 245, ([], [], []))])
set_option maxRecDepth 100000 in
theorem p16x_3399_e : ck_ok p1_O none [] [] 260 [] 80 p16x_3399 = true := by decide +kernel
theorem p16x_3399_s {X : Int → Int} {LX : Nat} : ck_Ok p1_O X LX 260 p16x_3399 := ck_ok_s (ck_E0) ck_X0 ck_l0 p16x_3399_e
set_option maxRecDepth 100000 in
def p16x_3400 : ck_Sum := ((0, 0, 0), 245, [.inr (.inr (.inl 226)), .inl (0, 2, none)], ([], [], [(226, 26, 26, ((-1), 2, none)), (235, 0, 11999, (0, 1, none))]), ([(226, 26, 26), (235, 0, 29699)], []), [(.inr none, 245, ([], [], [(226, 26, 26, (0, 2, none)), (235, 0, 11999, (0, 1, none))]))])
set_option maxRecDepth 100000 in
theorem p16x_3400_e : ck_ok p1_O none [] [] 294 [(16, [some (.inr (.inr (.inl 226))), some (.inl (0, 2, none)), some (.inl (0, 29700, none))], ([], [], [(226, 26, 26, (0, 2, none)), (235, 0, 11999, (0, 1, none))]), 100, .inl 2, true)] 142 p16x_3400 = true := by decide +kernel
theorem p16x_3400_s {X : Int → Int} {LX : Nat} : ck_Ok p1_O X LX 294 p16x_3400 := ck_ok_s (ck_E0) ck_X0 ck_l0 p16x_3400_e
set_option maxRecDepth 100000 in
def p16x_3401 : ck_Sum := ((0, 0, 0), 245, [.inr (.inr (.inl 226)), .inl (0, 2, none), .inl (0, 39, none)], ([], [], [(227, 2, 9, ck_one 0)]), ([], []), [(.inr (some (.inl (ck_one 0))), 245, ([], [], []))])
set_option maxRecDepth 100000 in
theorem p16x_3401_e : ck_ok p1_O none [] [] 291 [(5, [some (.inr (.inr (.inl 226))), some (.inl (0, 2, none)), some (.inl (0, 39, none)), some (.inl (ck_one 0)), some (.inl (ck_one 0))], ([], [], [(227, 2, 9, ck_one 0)]), 100, .inl 3, true)] 122 p16x_3401 = true := by decide +kernel
theorem p16x_3401_s {X : Int → Int} {LX : Nat} : ck_Ok p1_O X LX 291 p16x_3401 := ck_ok_s (ck_E0) ck_X0 ck_l0 p16x_3401_e
set_option maxRecDepth 100000 in
def p16x_3402 : ck_Sum := ((0, 0, 0), 245, [.inr (.inr (.inl 226)), .inl (ck_one 0)], ([], [], [(227, 2, 9, ck_one 0)]), ([], []), [(.inr (some (.inl (ck_one 0))), 245, ([], [], []))])
set_option maxRecDepth 100000 in
theorem p16x_3402_e : ck_ok p1_O none [] [] 295 [(4, [some (.inr (.inr (.inl 226))), some (.inl (ck_one 0)), some (.inl (ck_one 0)), some (.inl (ck_one 0))], ([], [], [(227, 2, 9, ck_one 0)]), 100, .inl 2, true)] 122 p16x_3402 = true := by decide +kernel
theorem p16x_3402_s {X : Int → Int} {LX : Nat} : ck_Ok p1_O X LX 295 p16x_3402 := ck_ok_s (ck_E0) ck_X0 ck_l0 p16x_3402_e
set_option maxRecDepth 100000 in
def p16x_3403 : ck_Sum := ((0, 0, 0), 245, [.inr (.inr (.inl 226)), .inl (ck_one 1)], ([], [], [(227, 2, 9, ck_one 0)]), ([], []), [(.inr (some (.inl (ck_one 0))), 245, ([], [], []))])
set_option maxRecDepth 100000 in
theorem p16x_3403_e : ck_ok p1_O none [] [] 295 [(4, [some (.inr (.inr (.inl 226))), some (.inl (ck_one 1)), some (.inl (ck_one 0)), some (.inl (ck_one 0))], ([], [], [(227, 2, 9, ck_one 0)]), 100, .inl 2, true)] 122 p16x_3403 = true := by decide +kernel
theorem p16x_3403_s {X : Int → Int} {LX : Nat} : ck_Ok p1_O X LX 295 p16x_3403 := ck_ok_s (ck_E0) ck_X0 ck_l0 p16x_3403_e
set_option maxRecDepth 100000 in
def p16x_3404 : ck_Sum := ((1, 0, 0), 245, [.inr (.inr (.inl 226)), .inl (0, 2, none), .inl (0, 39, none), .inl (0, 299, none)], ([], [], [(226, 26, 26, ((-1), 2, none)), (226, 19, 19, (0, 299, none)), (226, 18, 18, (0, 39, none)), (226, 17, 17, (0, 2, none)), (227, 2, 9, ck_one 0), (226, 20, 20, ck_one 0), (226, 21, 21, ck_one 0), (226, 22, 22, ck_one 0), (226, 23, 23, ck_one 0), (235, 0, 11999, (0, 1, none))]), ([(226, 17, 23), (226, 26, 26), (235, 0, 29699)], []), [(.inr (some (.inl (ck_one 0))), 245, ([], [], [(226, 23, 23, ck_one 0), (226, 22, 22, ck_one 0), (226, 21, 21, ck_one 0), (226, 20, 20, ck_one 0), (226, 19, 19, (0, 299, none)), (226, 18, 18, (0, 39, none)), (226, 17, 17, (0, 2, none)), (226, 26, 26, (0, 2, none)), (235, 0, 11999, (0, 1, none))]))])
def p16x_3404_E : List (Nat × List ck_Sum) := [(294, [p16x_3400]), (291, [p16x_3401]), (295, [p16x_3402, p16x_3403])]
def p16x_3404_L : ck_AL := [some (.inr (.inr (.inl 226))), some (.inl (0, 2, none)), some (.inl (0, 39, none)), some (.inl (0, 299, none)), some (.inl (0, 11999, none)), none]
set_option maxRecDepth 100000 in
def p16x_3404_F : ck_F := ([], [], [(226, 26, 26, (0, 2, none)), (235, 0, 11999, (0, 1, none)), (226, 19, 19, (0, 299, none)), (226, 18, 18, (0, 39, none)), (226, 17, 17, (0, 2, none)), (227, 2, 9, ck_one 0), (226, 20, 20, ck_one 0), (226, 21, 21, ck_one 0), (226, 22, 22, ck_one 0), (226, 23, 23, ck_one 0)])
def p16x_3404_C : ck_C := (p16x_3404_L, p16x_3404_F, 0, .inl 4, true)
set_option maxRecDepth 100000 in
theorem p16x_3404_a : (decide (p16x_3404.2.2.1.length ≤ gm_ml 293) && ck_go p1_O none [] p16x_3404_E 293 p16x_3404.1.1 p16x_3404.2.1 p16x_3404.2.2.2.2.1 p16x_3404.2.2.2.2.2 [(14, p16x_3404_C)] 400 false [(14, p16x_3404_C, 0, 0, 245)] p16x_3404.1.2.1 p16x_3404.1.2.2 0 (p16x_3404.2.2.1.map some ++ List.replicate (gm_ml 293 - p16x_3404.2.2.1.length) none) [] p16x_3404.2.1 p16x_3404.2.2.2.1) = true := by decide +kernel
set_option maxRecDepth 100000 in
theorem p16x_3404_b : ck_go p1_O none [] p16x_3404_E 293 p16x_3404.1.1 p16x_3404.2.1 p16x_3404.2.2.2.2.1 p16x_3404.2.2.2.2.2 [] 400 true [] 0 0 34 p16x_3404_L [] 245 p16x_3404_F = true := by decide +kernel
set_option maxRecDepth 100000 in
theorem p16x_3404_f : ck_fi p16x_3404_F 235 0 11999 = some (0, 1, none) := by decide +kernel
set_option maxRecDepth 100000 in
theorem p16x_3404_g : ck_leF p1_O p16x_3404_F (([], [], [(226, 23, 23, ck_one 0), (226, 22, 22, ck_one 0), (226, 21, 21, ck_one 0), (226, 20, 20, ck_one 0), (226, 19, 19, (0, 299, none)), (226, 18, 18, (0, 39, none)), (226, 17, 17, (0, 2, none)), (226, 26, 26, (0, 2, none)), (235, 0, 11999, (0, 1, none))])) = true := by decide +kernel
theorem p16x_3404_h {X : Int → Int} {LX : Nat} : ck_OkE p1_O X LX p16x_3404_E := ck_E1 (ck_S1 p16x_3400_s ck_S0) (ck_E1 (ck_S1 p16x_3401_s ck_S0) (ck_E1 (ck_S1 p16x_3402_s (ck_S1 p16x_3403_s ck_S0)) ck_E0))
theorem p16x_3404_s {X : Int → Int} {LX : Nat} : ck_Ok p1_O X LX 293 p16x_3404 := by
  refine ck_ok_st (cuts := [(14, p16x_3404_C)]) p16x_3404_h p16x_3404_a (fun h hm => ?_)
  rw [List.mem_singleton.mp hm]
  refine ⟨rfl, fun σ K0 R0 M0 v _ bc bs L K R M hb1 hb2 hS _ => ?_⟩
  obtain ⟨hF, hl, hs, hf, hfr⟩ := hS
  obtain ⟨u0, e0, g0⟩ := hl.2 0 (.inr (.inr (.inl 226))) rfl
  cases g0
  obtain ⟨u4, e4, t, rfl, ht1, ht2, ht3, -⟩ := hl.2 4 (.inl (0, 11999, none)) rfl
  have ht2 : (0 : Int) ≤ t := ht2
  have ht3 : t ≤ (11999 : Int) := ht3
  obtain ⟨-, hM1, hM2, -⟩ := (ck_fi_s hf p16x_3404_f).2 t (by omega) (by omega)
  have hM1 : (0 : Int) ≤ M 235 t := hM1
  have hM2 : M 235 t ≤ (1 : Int) := hM2
  refine ck_flow (O := p1_O) hF (k := 226) (fl := 235) (by decide +kernel) (by decide +kernel) (by decide +kernel) e0 e4 ⟨by omega, by omega⟩ ⟨by omega, by omega⟩ (fun hp => ?_) ?_
  · have e : M 235 t - 1 = 0 := by omega
    rw [e]
    exact ⟨hF, hfr, _, List.mem_cons_self, ⟨0, rfl, ⟨by decide, by decide⟩, by decide, by decide, fun _ h => nomatch h⟩, rfl, ck_leF_s hF hf p16x_3404_g⟩
  · exact gm_Wp_wk (Nat.le_refl _) hb1 hb2 (ck_go_s (σ0 := σ) (cuts := []) p16x_3404_h ck_X0 ck_l0 400 true [] _ _ 34 _ [] _ _ σ L [] K R M (fun _ _ => rfl) (fun _ h => nomatch h) ⟨hF, hl, rfl, hf, hfr⟩ p16x_3404_b)
set_option maxRecDepth 100000 in
def p16x_5016 : ck_Sum := ((0, 0, 0), 245, [.inr (.inr (.inl 226)), .inl (10, 39, none), .inl (0, 298, none), .inl (ck_one (-1))], ([], [], [(227, 2, 9, ck_one 0)]), ([], []), [(.inr (some (.inl (10, 39, none))), 245, ([], [], []))])
set_option maxRecDepth 100000 in
theorem p16x_5016_e : ck_ok p1_O none [] [] 308 [(6, [some (.inr (.inr (.inl 226))), some (.inl (10, 39, none)), some (.inl (0, 298, none)), some (.inl (ck_one (-1))), some (.inl (10, 39, none)), some (.inl (ck_one 0)), none], ([], [], [(227, 2, 9, ck_one 0)]), 100, .inl 4, true)] 122 p16x_5016 = true := by decide +kernel
theorem p16x_5016_s {X : Int → Int} {LX : Nat} : ck_Ok p1_O X LX 308 p16x_5016 := ck_ok_s (ck_E0) ck_X0 ck_l0 p16x_5016_e
set_option maxRecDepth 100000 in
def p16x_3972 : ck_Sum := ((0, 0, 0), 245, [.inr (.inr (.inl 226)), .inl (0, 9, none), .inl (0, 298, none), .inl (ck_one (-1))], ([], [], [(227, 2, 9, ck_one 0)]), ([], []), [(.inr (some (.inl (0, 9, none))), 245, ([], [], []))])
set_option maxRecDepth 100000 in
theorem p16x_3972_e : ck_ok p1_O none [] [] 308 [(6, [some (.inr (.inr (.inl 226))), some (.inl (0, 9, none)), some (.inl (0, 298, none)), some (.inl (ck_one (-1))), some (.inl (0, 9, none)), some (.inl (ck_one 0)), none], ([], [], [(227, 2, 9, ck_one 0)]), 100, .inl 4, true)] 122 p16x_3972 = true := by decide +kernel
theorem p16x_3972_s {X : Int → Int} {LX : Nat} : ck_Ok p1_O X LX 308 p16x_3972 := ck_ok_s (ck_E0) ck_X0 ck_l0 p16x_3972_e
set_option maxRecDepth 100000 in
def p16x_5019 : ck_Sum := ((2, 0, 0), 245, [.inr (.inr (.inl 226)), .inl (0, 2, none), .inl (0, 39, none), .inl (0, 299, none), .inl (ck_one 0), .inl (ck_one (-1))], ([], [], [(226, 26, 26, ((-1), 2, none)), (227, 11, 11, ck_one 2), (227, 10, 10, ck_one 10), (227, 1, 1, ck_one 40), (227, 2, 9, ck_one 0), (236, 0, 299, ((-1), 39, none)), (226, 17, 17, (0, 2, none)), (226, 18, 18, (0, 39, none)), (226, 19, 19, (0, 299, none)), (226, 20, 20, ck_one 0), (226, 21, 21, ck_one 0), (226, 22, 22, ck_one 0), (226, 23, 23, ck_one 0), (226, 29, 29, ((-1), 0, none)), (226, 30, 30, ck_one 0), (235, 0, 11999, (0, 1, none))]), ([(226, 17, 23), (226, 26, 26), (226, 29, 30), (235, 0, 29699), (236, 0, 299), (237, 0, 299)], []), [(.inr none, 245, ([], [], [(226, 30, 30, ck_one 0), (226, 29, 29, ck_one (-1)), (226, 26, 26, ((-1), 2, none)), (226, 17, 17, (0, 2, none)), (226, 18, 18, (0, 39, none)), (226, 19, 19, (0, 299, none)), (226, 20, 20, ck_one 0), (226, 21, 21, ck_one 0), (226, 22, 22, ck_one 0), (226, 23, 23, ck_one 0), (236, 0, 299, ((-1), 39, none)), (235, 0, 11999, (0, 1, none))]))])
set_option maxRecDepth 100000 in
theorem p16x_5019_e : ck_ok p1_O none [] [(260, [p16x_3399]), (293, [p16x_3404]), (308, [p16x_5016, p16x_3972])] 307 [(3, [some (.inr (.inr (.inl 226))), some (.inl (0, 2, none)), some (.inl (0, 39, none)), some (.inl (0, 299, none)), some (.inl (ck_one 0)), some (.inl (ck_one (-1))), some (.inl (0, 299, none)), none, none], ([], [], [(226, 26, 26, ((-1), 2, none)), (227, 11, 11, ck_one 2), (227, 10, 10, ck_one 10), (227, 1, 1, ck_one 40), (227, 2, 9, ck_one 0), (236, 0, 299, ((-1), 39, none)), (226, 17, 17, (0, 2, none)), (226, 18, 18, (0, 39, none)), (226, 19, 19, (0, 299, none)), (226, 20, 20, ck_one 0), (226, 21, 21, ck_one 0), (226, 22, 22, ck_one 0), (226, 23, 23, ck_one 0), (226, 29, 29, ((-1), 0, none)), (226, 30, 30, ck_one 0), (235, 0, 11999, (0, 1, none))]), 100, .inl 6, true), (50, [some (.inr (.inr (.inl 226))), some (.inl (0, 2, none)), some (.inl (0, 39, none)), some (.inl (0, 299, none)), some (.inl (ck_one 0)), some (.inl (ck_one (-1))), some (.inl (0, 39, none)), some (.inl ((-2147483648), 2147483647, none)), some (.inl (0, 300, none))], ([], [], [(226, 30, 30, ck_one 0), (226, 29, 29, ck_one (-1)), (226, 26, 26, ((-1), 2, none)), (227, 11, 11, ck_one 2), (227, 10, 10, ck_one 10), (227, 1, 1, ck_one 40), (227, 2, 9, ck_one 0), (236, 0, 299, ((-1), 39, none)), (226, 17, 17, (0, 2, none)), (226, 18, 18, (0, 39, none)), (226, 19, 19, (0, 299, none)), (226, 20, 20, ck_one 0), (226, 21, 21, ck_one 0), (226, 22, 22, ck_one 0), (226, 23, 23, ck_one 0), (235, 0, 11999, (0, 1, none))]), 300, .inl 8, true)] 506 p16x_5019 = true := by decide +kernel
theorem p16x_5019_s {X : Int → Int} {LX : Nat} : ck_Ok p1_O X LX 307 p16x_5019 := ck_ok_s (ck_E1 (ck_S1 p16x_3399_s ck_S0) (ck_E1 (ck_S1 p16x_3404_s ck_S0) (ck_E1 (ck_S1 p16x_5016_s (ck_S1 p16x_3972_s ck_S0)) ck_E0))) ck_X0 ck_l0 p16x_5019_e
set_option maxRecDepth 100000 in
def p16x_5020 : ck_Sum := ((3, 0, 0), 245, [.inr (.inr (.inl 226)), .inl (0, 2, none), .inl (0, 39, none), .inl (0, 299, none)], ([], [], [(226, 26, 26, ((-1), 2, none)), (227, 11, 11, ck_one 2), (227, 10, 10, ck_one 10), (227, 1, 1, ck_one 40), (227, 2, 9, ck_one 0), (236, 0, 299, ((-1), 39, none)), (226, 17, 17, (0, 2, none)), (226, 18, 18, (0, 39, none)), (226, 19, 19, (0, 299, none)), (226, 20, 20, ck_one 0), (226, 21, 21, ck_one 0), (226, 22, 22, ck_one 0), (226, 23, 23, ck_one 0), (226, 29, 29, ((-1), 0, none)), (226, 30, 30, ck_one 0), (235, 0, 11999, (0, 1, none))]), ([(226, 17, 23), (226, 26, 26), (226, 29, 30), (235, 0, 29699), (236, 0, 299), (237, 0, 299)], []), [(.inr (some (.inl (ck_one (-1)))), 245, ([], [], [(226, 30, 30, ck_one 0), (226, 29, 29, ck_one (-1)), (226, 26, 26, ((-1), 2, none)), (226, 17, 17, (0, 2, none)), (226, 18, 18, (0, 39, none)), (226, 19, 19, (0, 299, none)), (226, 20, 20, ck_one 0), (226, 21, 21, ck_one 0), (226, 22, 22, ck_one 0), (226, 23, 23, ck_one 0), (236, 0, 299, ((-1), 39, none)), (235, 0, 11999, (0, 1, none))]))])
set_option maxRecDepth 100000 in
theorem p16x_5020_e : ck_ok p1_O none [] [(307, [p16x_5019])] 326 [] 90 p16x_5020 = true := by decide +kernel
theorem p16x_5020_s {X : Int → Int} {LX : Nat} : ck_Ok p1_O X LX 326 p16x_5020 := ck_ok_s (ck_E1 (ck_S1 p16x_5019_s ck_S0) ck_E0) ck_X0 ck_l0 p16x_5020_e
set_option maxRecDepth 100000 in
def p16x_5048 : ck_Sum := ((4, 0, 0), 245, [.inr (.inr (.inl 226)), .inl (0, 2, none), .inl (0, 299, none), .inl (0, 299, none), .inl (ck_one 0)], ([], [], [(226, 26, 26, ck_one (-1)), (227, 11, 11, ck_one 2), (227, 10, 10, ck_one 10), (227, 1, 1, ck_one 40), (227, 0, 0, ck_one 3), (227, 2, 9, ck_one 0), (236, 0, 299, ck_one 0), (226, 0, 0, ck_one 0), (226, 17, 17, ck_one 0), (226, 18, 18, ck_one 0), (226, 19, 19, ck_one 0), (226, 20, 20, ck_one 0), (226, 21, 21, ck_one 0), (226, 22, 22, ck_one 0), (226, 23, 23, ck_one 0), (226, 29, 29, ck_one 0), (226, 30, 30, ck_one 0), (235, 0, 11999, ck_one 0)]), ([(226, 0, 0), (226, 17, 23), (226, 26, 26), (226, 29, 30), (235, 0, 29699), (236, 0, 299), (237, 0, 299)], []), [(.inr (some (.inl (ck_one 0))), 245, ([], [], [(226, 0, 0, ck_one 0), (226, 26, 26, ((-1), 2, none)), (226, 17, 17, (0, 2, none)), (226, 18, 18, (0, 39, none)), (226, 19, 19, (0, 299, none)), (226, 20, 20, ck_one 0), (226, 21, 21, ck_one 0), (226, 22, 22, ck_one 0), (226, 23, 23, ck_one 0), (226, 29, 29, ((-1), 0, none)), (226, 30, 30, ck_one 0), (236, 0, 299, ((-1), 39, none)), (235, 0, 11999, (0, 1, none))]))])
set_option maxRecDepth 100000 in
theorem p16x_5048_e : ck_ok p1_O none [] [(289, [p16x_281]), (283, [p16x_282, p16x_351, p16x_3398]), (286, [p16x_334]), (267, [p16x_350]), (287, [p16x_3397]), (260, [p16x_3399]), (326, [p16x_5020])] 325 [(90, [some (.inr (.inr (.inl 226))), some (.inl (0, 2, none)), some (.inl (0, 299, none)), some (.inl (0, 299, none)), some (.inl (ck_one 0)), some (.inl (ck_one 0)), some (.inl (ck_one (-1))), some (.inl (ck_one (-1))), some (.inl (0, 40, none))], ([], [], [(226, 0, 0, ck_one 0), (226, 26, 26, ((-1), 2, none)), (227, 11, 11, ck_one 2), (227, 10, 10, ck_one 10), (227, 1, 1, ck_one 40), (227, 0, 0, ck_one 3), (227, 2, 9, ck_one 0), (236, 0, 299, ((-1), 39, none)), (226, 17, 17, (0, 2, none)), (226, 18, 18, (0, 39, none)), (226, 19, 19, (0, 299, none)), (226, 20, 20, ck_one 0), (226, 21, 21, ck_one 0), (226, 22, 22, ck_one 0), (226, 23, 23, ck_one 0), (226, 29, 29, ((-1), 0, none)), (226, 30, 30, ck_one 0), (235, 0, 11999, (0, 1, none))]), 100, .inl 8, true)] 266 p16x_5048 = true := by decide +kernel
theorem p16x_5048_s {X : Int → Int} {LX : Nat} : ck_Ok p1_O X LX 325 p16x_5048 := ck_ok_s (ck_E1 (ck_S1 p16x_281_s ck_S0) (ck_E1 (ck_S1 p16x_282_s (ck_S1 p16x_351_s (ck_S1 p16x_3398_s ck_S0))) (ck_E1 (ck_S1 p16x_334_s ck_S0) (ck_E1 (ck_S1 p16x_350_s ck_S0) (ck_E1 (ck_S1 p16x_3397_s ck_S0) (ck_E1 (ck_S1 p16x_3399_s ck_S0) (ck_E1 (ck_S1 p16x_5020_s ck_S0) ck_E0))))))) ck_X0 ck_l0 p16x_5048_e
set_option maxRecDepth 100000 in
def p16x_5052 : ck_Sum := ((0, 0, 0), 245, [.inl (ck_one 1), .inl (ck_one 0), .inl (ck_one 2)], ([], [], []), ([], []), [(.inr (some (.inl (ck_one 1))), 245, ([], [], []))])
set_option maxRecDepth 100000 in
theorem p16x_5052_e : ck_ok p1_O none [] [] 287 [] 88 p16x_5052 = true := by decide +kernel
theorem p16x_5052_s {X : Int → Int} {LX : Nat} : ck_Ok p1_O X LX 287 p16x_5052 := ck_ok_s (ck_E0) ck_X0 ck_l0 p16x_5052_e
set_option maxRecDepth 100000 in
def p16x_5053 : ck_Sum := ((4, 0, 0), 245, [.inr (.inr (.inl 226)), .inl (0, 2, none), .inl (0, 299, none), .inl (0, 299, none), .inl (ck_one 1)], ([], [], [(226, 26, 26, ck_one (-1)), (227, 11, 11, ck_one 2), (227, 10, 10, ck_one 10), (227, 1, 1, ck_one 40), (227, 0, 0, ck_one 3), (227, 2, 9, ck_one 0), (236, 0, 299, ck_one 0), (226, 0, 0, ck_one 0), (226, 17, 17, ck_one 0), (226, 18, 18, ck_one 0), (226, 19, 19, ck_one 0), (226, 20, 20, ck_one 0), (226, 21, 21, ck_one 0), (226, 22, 22, ck_one 0), (226, 23, 23, ck_one 0), (226, 29, 29, ck_one 0), (226, 30, 30, ck_one 0), (235, 0, 11999, ck_one 0)]), ([(226, 0, 0), (226, 17, 23), (226, 26, 26), (226, 29, 30), (235, 0, 29699), (236, 0, 299), (237, 0, 299)], []), [(.inr (some (.inl (ck_one (-1)))), 245, ([], [], [(226, 0, 0, ck_one 0), (226, 26, 26, ((-1), 2, none)), (226, 17, 17, (0, 2, none)), (226, 18, 18, (0, 39, none)), (226, 19, 19, (0, 299, none)), (226, 20, 20, ck_one 0), (226, 21, 21, ck_one 0), (226, 22, 22, ck_one 0), (226, 23, 23, ck_one 0), (226, 29, 29, ((-1), 0, none)), (226, 30, 30, ck_one 0), (236, 0, 299, ((-1), 39, none)), (235, 0, 11999, (0, 1, none))]))])
set_option maxRecDepth 100000 in
theorem p16x_5053_e : ck_ok p1_O none [] [(289, [p16x_281]), (283, [p16x_282, p16x_351, p16x_3398]), (286, [p16x_334]), (267, [p16x_350]), (287, [p16x_5052]), (260, [p16x_3399]), (326, [p16x_5020])] 325 [(90, [some (.inr (.inr (.inl 226))), some (.inl (0, 2, none)), some (.inl (0, 299, none)), some (.inl (0, 299, none)), some (.inl (ck_one 1)), some (.inl (ck_one 0)), some (.inl (ck_one (-1))), some (.inl (ck_one (-1))), some (.inl (0, 40, none))], ([], [], [(226, 0, 0, ck_one 0), (226, 26, 26, ((-1), 2, none)), (227, 11, 11, ck_one 2), (227, 10, 10, ck_one 10), (227, 1, 1, ck_one 40), (227, 0, 0, ck_one 3), (227, 2, 9, ck_one 0), (236, 0, 299, ((-1), 39, none)), (226, 17, 17, (0, 2, none)), (226, 18, 18, (0, 39, none)), (226, 19, 19, (0, 299, none)), (226, 20, 20, ck_one 0), (226, 21, 21, ck_one 0), (226, 22, 22, ck_one 0), (226, 23, 23, ck_one 0), (226, 29, 29, ((-1), 0, none)), (226, 30, 30, ck_one 0), (235, 0, 11999, (0, 1, none))]), 100, .inl 8, true)] 266 p16x_5053 = true := by decide +kernel
theorem p16x_5053_s {X : Int → Int} {LX : Nat} : ck_Ok p1_O X LX 325 p16x_5053 := ck_ok_s (ck_E1 (ck_S1 p16x_281_s ck_S0) (ck_E1 (ck_S1 p16x_282_s (ck_S1 p16x_351_s (ck_S1 p16x_3398_s ck_S0))) (ck_E1 (ck_S1 p16x_334_s ck_S0) (ck_E1 (ck_S1 p16x_350_s ck_S0) (ck_E1 (ck_S1 p16x_5052_s ck_S0) (ck_E1 (ck_S1 p16x_3399_s ck_S0) (ck_E1 (ck_S1 p16x_5020_s ck_S0) ck_E0))))))) ck_X0 ck_l0 p16x_5053_e
set_option maxRecDepth 100000 in
def p16x_5056 : ck_Sum := ((0, 0, 0), 245, [.inl (ck_one 2), .inl (ck_one 0), .inl (ck_one 2)], ([], [], []), ([], []), [(.inr (some (.inl (ck_one 1))), 245, ([], [], []))])
set_option maxRecDepth 100000 in
theorem p16x_5056_e : ck_ok p1_O none [] [] 287 [] 88 p16x_5056 = true := by decide +kernel
theorem p16x_5056_s {X : Int → Int} {LX : Nat} : ck_Ok p1_O X LX 287 p16x_5056 := ck_ok_s (ck_E0) ck_X0 ck_l0 p16x_5056_e
set_option maxRecDepth 100000 in
def p16x_5057 : ck_Sum := ((4, 0, 0), 245, [.inr (.inr (.inl 226)), .inl (0, 2, none), .inl (0, 299, none), .inl (0, 299, none), .inl (ck_one 2)], ([], [], [(226, 26, 26, ck_one (-1)), (227, 11, 11, ck_one 2), (227, 10, 10, ck_one 10), (227, 1, 1, ck_one 40), (227, 0, 0, ck_one 3), (227, 2, 9, ck_one 0), (236, 0, 299, ck_one 0), (226, 0, 0, ck_one 0), (226, 17, 17, ck_one 0), (226, 18, 18, ck_one 0), (226, 19, 19, ck_one 0), (226, 20, 20, ck_one 0), (226, 21, 21, ck_one 0), (226, 22, 22, ck_one 0), (226, 23, 23, ck_one 0), (226, 29, 29, ck_one 0), (226, 30, 30, ck_one 0), (235, 0, 11999, ck_one 0)]), ([(226, 0, 0), (226, 17, 23), (226, 26, 26), (226, 29, 30), (235, 0, 29699), (236, 0, 299), (237, 0, 299)], []), [(.inr (some (.inl (ck_one (-1)))), 245, ([], [], [(226, 0, 0, ck_one 0), (226, 26, 26, ((-1), 2, none)), (226, 17, 17, (0, 2, none)), (226, 18, 18, (0, 39, none)), (226, 19, 19, (0, 299, none)), (226, 20, 20, ck_one 0), (226, 21, 21, ck_one 0), (226, 22, 22, ck_one 0), (226, 23, 23, ck_one 0), (226, 29, 29, ((-1), 0, none)), (226, 30, 30, ck_one 0), (236, 0, 299, ((-1), 39, none)), (235, 0, 11999, (0, 1, none))]))])
set_option maxRecDepth 100000 in
theorem p16x_5057_e : ck_ok p1_O none [] [(289, [p16x_281]), (283, [p16x_282, p16x_351, p16x_3398]), (286, [p16x_334]), (267, [p16x_350]), (287, [p16x_5056]), (260, [p16x_3399]), (326, [p16x_5020])] 325 [(90, [some (.inr (.inr (.inl 226))), some (.inl (0, 2, none)), some (.inl (0, 299, none)), some (.inl (0, 299, none)), some (.inl (ck_one 2)), some (.inl (ck_one 0)), some (.inl (ck_one (-1))), some (.inl (ck_one (-1))), some (.inl (0, 40, none))], ([], [], [(226, 0, 0, ck_one 0), (226, 26, 26, ((-1), 2, none)), (227, 11, 11, ck_one 2), (227, 10, 10, ck_one 10), (227, 1, 1, ck_one 40), (227, 0, 0, ck_one 3), (227, 2, 9, ck_one 0), (236, 0, 299, ((-1), 39, none)), (226, 17, 17, (0, 2, none)), (226, 18, 18, (0, 39, none)), (226, 19, 19, (0, 299, none)), (226, 20, 20, ck_one 0), (226, 21, 21, ck_one 0), (226, 22, 22, ck_one 0), (226, 23, 23, ck_one 0), (226, 29, 29, ((-1), 0, none)), (226, 30, 30, ck_one 0), (235, 0, 11999, (0, 1, none))]), 100, .inl 8, true)] 266 p16x_5057 = true := by decide +kernel
theorem p16x_5057_s {X : Int → Int} {LX : Nat} : ck_Ok p1_O X LX 325 p16x_5057 := ck_ok_s (ck_E1 (ck_S1 p16x_281_s ck_S0) (ck_E1 (ck_S1 p16x_282_s (ck_S1 p16x_351_s (ck_S1 p16x_3398_s ck_S0))) (ck_E1 (ck_S1 p16x_334_s ck_S0) (ck_E1 (ck_S1 p16x_350_s ck_S0) (ck_E1 (ck_S1 p16x_5056_s ck_S0) (ck_E1 (ck_S1 p16x_3399_s ck_S0) (ck_E1 (ck_S1 p16x_5020_s ck_S0) ck_E0))))))) ck_X0 ck_l0 p16x_5057_e
set_option maxRecDepth 100000 in
def p16x_5060 : ck_Sum := ((0, 0, 0), 245, [.inl (3, 2147483647, none), .inl (ck_one 0), .inl (ck_one 2)], ([], [], []), ([], []), [(.inr (some (.inl (ck_one 0))), 245, ([], [], []))])
set_option maxRecDepth 100000 in
theorem p16x_5060_e : ck_ok p1_O none [] [] 287 [] 86 p16x_5060 = true := by decide +kernel
theorem p16x_5060_s {X : Int → Int} {LX : Nat} : ck_Ok p1_O X LX 287 p16x_5060 := ck_ok_s (ck_E0) ck_X0 ck_l0 p16x_5060_e
set_option maxRecDepth 100000 in
def p16x_5061 : ck_Sum := ((2, 0, 0), 245, [.inr (.inr (.inl 226)), .inl (0, 2, none), .inl (0, 299, none), .inl (0, 299, none), .inl (3, 2147483647, none)], ([], [], [(227, 0, 0, ck_one 3), (227, 2, 9, ck_one 0)]), ([(226, 0, 0)], []), [(.inr (some (.inl (ck_one 0))), 245, ([], [], [(226, 0, 0, ck_one 3)]))])
set_option maxRecDepth 100000 in
theorem p16x_5061_e : ck_ok p1_O none [] [(289, [p16x_281]), (283, [p16x_282, p16x_351, p16x_352]), (286, [p16x_334]), (267, [p16x_350]), (287, [p16x_5060])] 325 [] 146 p16x_5061 = true := by decide +kernel
theorem p16x_5061_s {X : Int → Int} {LX : Nat} : ck_Ok p1_O X LX 325 p16x_5061 := ck_ok_s (ck_E1 (ck_S1 p16x_281_s ck_S0) (ck_E1 (ck_S1 p16x_282_s (ck_S1 p16x_351_s (ck_S1 p16x_352_s ck_S0))) (ck_E1 (ck_S1 p16x_334_s ck_S0) (ck_E1 (ck_S1 p16x_350_s ck_S0) (ck_E1 (ck_S1 p16x_5060_s ck_S0) ck_E0))))) ck_X0 ck_l0 p16x_5061_e
set_option maxRecDepth 100000 in
def p16x_5065 : ck_Sum := ((0, 0, 0), 245, [.inl (300, 2147483647, none), .inl (ck_one 0), .inl (ck_one 299)], ([], [], []), ([], []), [(.inr (some (.inl (ck_one 0))), 245, ([], [], []))])
set_option maxRecDepth 100000 in
theorem p16x_5065_e : ck_ok p1_O none [] [] 287 [] 86 p16x_5065 = true := by decide +kernel
theorem p16x_5065_s {X : Int → Int} {LX : Nat} : ck_Ok p1_O X LX 287 p16x_5065 := ck_ok_s (ck_E0) ck_X0 ck_l0 p16x_5065_e
set_option maxRecDepth 100000 in
def p16x_5066 : ck_Sum := ((1, 0, 0), 245, [.inl (300, 2147483647, none)], ([], [], []), ([], []), [(.inr (some (.inl (ck_one 1))), 245, ([], [], []))])
set_option maxRecDepth 100000 in
theorem p16x_5066_e : ck_ok p1_O none [] [(287, [p16x_5065])] 286 [] 86 p16x_5066 = true := by decide +kernel
theorem p16x_5066_s {X : Int → Int} {LX : Nat} : ck_Ok p1_O X LX 286 p16x_5066 := ck_ok_s (ck_E1 (ck_S1 p16x_5065_s ck_S0) ck_E0) ck_X0 ck_l0 p16x_5066_e
set_option maxRecDepth 100000 in
def p16x_5067 : ck_Sum := ((2, 0, 0), 245, [.inr (.inr (.inl 226)), .inl (0, 2, none), .inl (0, 299, none), .inl (300, 2147483647, none), .inl ((-2147483648), (-1), none)], ([], [], [(227, 0, 0, ck_one 3)]), ([(226, 0, 0)], []), [(.inr (some (.inl (ck_one 0))), 245, ([], [], [(226, 0, 0, ck_one 2)]))])
set_option maxRecDepth 100000 in
theorem p16x_5067_e : ck_ok p1_O none [] [(289, [p16x_281]), (283, [p16x_282, p16x_285]), (286, [p16x_334, p16x_5066])] 325 [] 118 p16x_5067 = true := by decide +kernel
theorem p16x_5067_s {X : Int → Int} {LX : Nat} : ck_Ok p1_O X LX 325 p16x_5067 := ck_ok_s (ck_E1 (ck_S1 p16x_281_s ck_S0) (ck_E1 (ck_S1 p16x_282_s (ck_S1 p16x_285_s ck_S0)) (ck_E1 (ck_S1 p16x_334_s (ck_S1 p16x_5066_s ck_S0)) ck_E0))) ck_X0 ck_l0 p16x_5067_e
set_option maxRecDepth 100000 in
def p16x_5070 : ck_Sum := ((2, 0, 0), 245, [.inr (.inr (.inl 226)), .inl (0, 2, none), .inl (0, 299, none), .inl (300, 2147483647, none), .inl (ck_one 0)], ([], [], [(227, 0, 0, ck_one 3)]), ([(226, 0, 0)], []), [(.inr (some (.inl (ck_one 0))), 245, ([], [], [(226, 0, 0, ck_one 2)]))])
set_option maxRecDepth 100000 in
theorem p16x_5070_e : ck_ok p1_O none [] [(289, [p16x_281]), (283, [p16x_282, p16x_285]), (286, [p16x_334, p16x_5066])] 325 [] 118 p16x_5070 = true := by decide +kernel
theorem p16x_5070_s {X : Int → Int} {LX : Nat} : ck_Ok p1_O X LX 325 p16x_5070 := ck_ok_s (ck_E1 (ck_S1 p16x_281_s ck_S0) (ck_E1 (ck_S1 p16x_282_s (ck_S1 p16x_285_s ck_S0)) (ck_E1 (ck_S1 p16x_334_s (ck_S1 p16x_5066_s ck_S0)) ck_E0))) ck_X0 ck_l0 p16x_5070_e
set_option maxRecDepth 100000 in
def p16x_5073 : ck_Sum := ((2, 0, 0), 245, [.inr (.inr (.inl 226)), .inl (0, 2, none), .inl (0, 299, none), .inl (300, 2147483647, none), .inl (ck_one 1)], ([], [], [(227, 0, 0, ck_one 3)]), ([(226, 0, 0)], []), [(.inr (some (.inl (ck_one 0))), 245, ([], [], [(226, 0, 0, ck_one 2)]))])
set_option maxRecDepth 100000 in
theorem p16x_5073_e : ck_ok p1_O none [] [(289, [p16x_281]), (283, [p16x_282, p16x_285]), (286, [p16x_334, p16x_5066])] 325 [] 118 p16x_5073 = true := by decide +kernel
theorem p16x_5073_s {X : Int → Int} {LX : Nat} : ck_Ok p1_O X LX 325 p16x_5073 := ck_ok_s (ck_E1 (ck_S1 p16x_281_s ck_S0) (ck_E1 (ck_S1 p16x_282_s (ck_S1 p16x_285_s ck_S0)) (ck_E1 (ck_S1 p16x_334_s (ck_S1 p16x_5066_s ck_S0)) ck_E0))) ck_X0 ck_l0 p16x_5073_e
set_option maxRecDepth 100000 in
def p16x_5076 : ck_Sum := ((2, 0, 0), 245, [.inr (.inr (.inl 226)), .inl (0, 2, none), .inl (0, 299, none), .inl (300, 2147483647, none), .inl (ck_one 2)], ([], [], [(227, 0, 0, ck_one 3)]), ([(226, 0, 0)], []), [(.inr (some (.inl (ck_one 0))), 245, ([], [], [(226, 0, 0, ck_one 2)]))])
set_option maxRecDepth 100000 in
theorem p16x_5076_e : ck_ok p1_O none [] [(289, [p16x_281]), (283, [p16x_282, p16x_285]), (286, [p16x_334, p16x_5066])] 325 [] 118 p16x_5076 = true := by decide +kernel
theorem p16x_5076_s {X : Int → Int} {LX : Nat} : ck_Ok p1_O X LX 325 p16x_5076 := ck_ok_s (ck_E1 (ck_S1 p16x_281_s ck_S0) (ck_E1 (ck_S1 p16x_282_s (ck_S1 p16x_285_s ck_S0)) (ck_E1 (ck_S1 p16x_334_s (ck_S1 p16x_5066_s ck_S0)) ck_E0))) ck_X0 ck_l0 p16x_5076_e
set_option maxRecDepth 100000 in
def p16x_5079 : ck_Sum := ((2, 0, 0), 245, [.inr (.inr (.inl 226)), .inl (0, 2, none), .inl (0, 299, none), .inl (300, 2147483647, none), .inl (3, 2147483647, none)], ([], [], [(227, 0, 0, ck_one 3)]), ([(226, 0, 0)], []), [(.inr (some (.inl (ck_one 0))), 245, ([], [], [(226, 0, 0, ck_one 2)]))])
set_option maxRecDepth 100000 in
theorem p16x_5079_e : ck_ok p1_O none [] [(289, [p16x_281]), (283, [p16x_282, p16x_285]), (286, [p16x_334, p16x_5066])] 325 [] 118 p16x_5079 = true := by decide +kernel
theorem p16x_5079_s {X : Int → Int} {LX : Nat} : ck_Ok p1_O X LX 325 p16x_5079 := ck_ok_s (ck_E1 (ck_S1 p16x_281_s ck_S0) (ck_E1 (ck_S1 p16x_282_s (ck_S1 p16x_285_s ck_S0)) (ck_E1 (ck_S1 p16x_334_s (ck_S1 p16x_5066_s ck_S0)) ck_E0))) ck_X0 ck_l0 p16x_5079_e
set_option maxRecDepth 100000 in
def p16x_5082 : ck_Sum := ((2, 0, 0), 245, [.inr (.inr (.inl 226)), .inl (0, 2, none), .inl (300, 2147483647, none), .inl ((-2147483648), (-1), none), .inl ((-2147483648), (-1), none)], ([], [], [(227, 0, 0, ck_one 3)]), ([(226, 0, 0)], []), [(.inr (some (.inl (ck_one 0))), 245, ([], [], [(226, 0, 0, ck_one 2)]))])
set_option maxRecDepth 100000 in
theorem p16x_5082_e : ck_ok p1_O none [] [(289, [p16x_281]), (283, [p16x_282, p16x_285]), (286, [p16x_5066])] 325 [] 112 p16x_5082 = true := by decide +kernel
theorem p16x_5082_s {X : Int → Int} {LX : Nat} : ck_Ok p1_O X LX 325 p16x_5082 := ck_ok_s (ck_E1 (ck_S1 p16x_281_s ck_S0) (ck_E1 (ck_S1 p16x_282_s (ck_S1 p16x_285_s ck_S0)) (ck_E1 (ck_S1 p16x_5066_s ck_S0) ck_E0))) ck_X0 ck_l0 p16x_5082_e
set_option maxRecDepth 100000 in
def p16x_5085 : ck_Sum := ((2, 0, 0), 245, [.inr (.inr (.inl 226)), .inl (0, 2, none), .inl (300, 2147483647, none), .inl ((-2147483648), (-1), none), .inl (ck_one 0)], ([], [], [(227, 0, 0, ck_one 3)]), ([(226, 0, 0)], []), [(.inr (some (.inl (ck_one 0))), 245, ([], [], [(226, 0, 0, ck_one 2)]))])
set_option maxRecDepth 100000 in
theorem p16x_5085_e : ck_ok p1_O none [] [(289, [p16x_281]), (283, [p16x_282, p16x_285]), (286, [p16x_5066])] 325 [] 112 p16x_5085 = true := by decide +kernel
theorem p16x_5085_s {X : Int → Int} {LX : Nat} : ck_Ok p1_O X LX 325 p16x_5085 := ck_ok_s (ck_E1 (ck_S1 p16x_281_s ck_S0) (ck_E1 (ck_S1 p16x_282_s (ck_S1 p16x_285_s ck_S0)) (ck_E1 (ck_S1 p16x_5066_s ck_S0) ck_E0))) ck_X0 ck_l0 p16x_5085_e
set_option maxRecDepth 100000 in
def p16x_5088 : ck_Sum := ((2, 0, 0), 245, [.inr (.inr (.inl 226)), .inl (0, 2, none), .inl (300, 2147483647, none), .inl ((-2147483648), (-1), none), .inl (ck_one 1)], ([], [], [(227, 0, 0, ck_one 3)]), ([(226, 0, 0)], []), [(.inr (some (.inl (ck_one 0))), 245, ([], [], [(226, 0, 0, ck_one 2)]))])
set_option maxRecDepth 100000 in
theorem p16x_5088_e : ck_ok p1_O none [] [(289, [p16x_281]), (283, [p16x_282, p16x_285]), (286, [p16x_5066])] 325 [] 112 p16x_5088 = true := by decide +kernel
theorem p16x_5088_s {X : Int → Int} {LX : Nat} : ck_Ok p1_O X LX 325 p16x_5088 := ck_ok_s (ck_E1 (ck_S1 p16x_281_s ck_S0) (ck_E1 (ck_S1 p16x_282_s (ck_S1 p16x_285_s ck_S0)) (ck_E1 (ck_S1 p16x_5066_s ck_S0) ck_E0))) ck_X0 ck_l0 p16x_5088_e
set_option maxRecDepth 100000 in
def p16x_5091 : ck_Sum := ((2, 0, 0), 245, [.inr (.inr (.inl 226)), .inl (0, 2, none), .inl (300, 2147483647, none), .inl ((-2147483648), (-1), none), .inl (ck_one 2)], ([], [], [(227, 0, 0, ck_one 3)]), ([(226, 0, 0)], []), [(.inr (some (.inl (ck_one 0))), 245, ([], [], [(226, 0, 0, ck_one 2)]))])
set_option maxRecDepth 100000 in
theorem p16x_5091_e : ck_ok p1_O none [] [(289, [p16x_281]), (283, [p16x_282, p16x_285]), (286, [p16x_5066])] 325 [] 112 p16x_5091 = true := by decide +kernel
theorem p16x_5091_s {X : Int → Int} {LX : Nat} : ck_Ok p1_O X LX 325 p16x_5091 := ck_ok_s (ck_E1 (ck_S1 p16x_281_s ck_S0) (ck_E1 (ck_S1 p16x_282_s (ck_S1 p16x_285_s ck_S0)) (ck_E1 (ck_S1 p16x_5066_s ck_S0) ck_E0))) ck_X0 ck_l0 p16x_5091_e
set_option maxRecDepth 100000 in
def p16x_5094 : ck_Sum := ((2, 0, 0), 245, [.inr (.inr (.inl 226)), .inl (0, 2, none), .inl (300, 2147483647, none), .inl ((-2147483648), (-1), none), .inl (3, 2147483647, none)], ([], [], [(227, 0, 0, ck_one 3)]), ([(226, 0, 0)], []), [(.inr (some (.inl (ck_one 0))), 245, ([], [], [(226, 0, 0, ck_one 2)]))])
set_option maxRecDepth 100000 in
theorem p16x_5094_e : ck_ok p1_O none [] [(289, [p16x_281]), (283, [p16x_282, p16x_285]), (286, [p16x_5066])] 325 [] 112 p16x_5094 = true := by decide +kernel
theorem p16x_5094_s {X : Int → Int} {LX : Nat} : ck_Ok p1_O X LX 325 p16x_5094 := ck_ok_s (ck_E1 (ck_S1 p16x_281_s ck_S0) (ck_E1 (ck_S1 p16x_282_s (ck_S1 p16x_285_s ck_S0)) (ck_E1 (ck_S1 p16x_5066_s ck_S0) ck_E0))) ck_X0 ck_l0 p16x_5094_e
set_option maxRecDepth 100000 in
def p16x_5097 : ck_Sum := ((2, 0, 0), 245, [.inr (.inr (.inl 226)), .inl (0, 2, none), .inl (300, 2147483647, none), .inl (0, 299, none), .inl ((-2147483648), (-1), none)], ([], [], [(227, 0, 0, ck_one 3)]), ([(226, 0, 0)], []), [(.inr (some (.inl (ck_one 0))), 245, ([], [], [(226, 0, 0, ck_one 2)]))])
set_option maxRecDepth 100000 in
theorem p16x_5097_e : ck_ok p1_O none [] [(289, [p16x_281]), (283, [p16x_282, p16x_285]), (286, [p16x_5066])] 325 [] 112 p16x_5097 = true := by decide +kernel
theorem p16x_5097_s {X : Int → Int} {LX : Nat} : ck_Ok p1_O X LX 325 p16x_5097 := ck_ok_s (ck_E1 (ck_S1 p16x_281_s ck_S0) (ck_E1 (ck_S1 p16x_282_s (ck_S1 p16x_285_s ck_S0)) (ck_E1 (ck_S1 p16x_5066_s ck_S0) ck_E0))) ck_X0 ck_l0 p16x_5097_e
set_option maxRecDepth 100000 in
def p16x_5100 : ck_Sum := ((2, 0, 0), 245, [.inr (.inr (.inl 226)), .inl (0, 2, none), .inl (300, 2147483647, none), .inl (0, 299, none), .inl (ck_one 0)], ([], [], [(227, 0, 0, ck_one 3)]), ([(226, 0, 0)], []), [(.inr (some (.inl (ck_one 0))), 245, ([], [], [(226, 0, 0, ck_one 2)]))])
set_option maxRecDepth 100000 in
theorem p16x_5100_e : ck_ok p1_O none [] [(289, [p16x_281]), (283, [p16x_282, p16x_285]), (286, [p16x_5066])] 325 [] 112 p16x_5100 = true := by decide +kernel
theorem p16x_5100_s {X : Int → Int} {LX : Nat} : ck_Ok p1_O X LX 325 p16x_5100 := ck_ok_s (ck_E1 (ck_S1 p16x_281_s ck_S0) (ck_E1 (ck_S1 p16x_282_s (ck_S1 p16x_285_s ck_S0)) (ck_E1 (ck_S1 p16x_5066_s ck_S0) ck_E0))) ck_X0 ck_l0 p16x_5100_e
set_option maxRecDepth 100000 in
def p16x_5103 : ck_Sum := ((2, 0, 0), 245, [.inr (.inr (.inl 226)), .inl (0, 2, none), .inl (300, 2147483647, none), .inl (0, 299, none), .inl (ck_one 1)], ([], [], [(227, 0, 0, ck_one 3)]), ([(226, 0, 0)], []), [(.inr (some (.inl (ck_one 0))), 245, ([], [], [(226, 0, 0, ck_one 2)]))])
set_option maxRecDepth 100000 in
theorem p16x_5103_e : ck_ok p1_O none [] [(289, [p16x_281]), (283, [p16x_282, p16x_285]), (286, [p16x_5066])] 325 [] 112 p16x_5103 = true := by decide +kernel
theorem p16x_5103_s {X : Int → Int} {LX : Nat} : ck_Ok p1_O X LX 325 p16x_5103 := ck_ok_s (ck_E1 (ck_S1 p16x_281_s ck_S0) (ck_E1 (ck_S1 p16x_282_s (ck_S1 p16x_285_s ck_S0)) (ck_E1 (ck_S1 p16x_5066_s ck_S0) ck_E0))) ck_X0 ck_l0 p16x_5103_e
set_option maxRecDepth 100000 in
def p16x_5106 : ck_Sum := ((2, 0, 0), 245, [.inr (.inr (.inl 226)), .inl (0, 2, none), .inl (300, 2147483647, none), .inl (0, 299, none), .inl (ck_one 2)], ([], [], [(227, 0, 0, ck_one 3)]), ([(226, 0, 0)], []), [(.inr (some (.inl (ck_one 0))), 245, ([], [], [(226, 0, 0, ck_one 2)]))])
set_option maxRecDepth 100000 in
theorem p16x_5106_e : ck_ok p1_O none [] [(289, [p16x_281]), (283, [p16x_282, p16x_285]), (286, [p16x_5066])] 325 [] 112 p16x_5106 = true := by decide +kernel
theorem p16x_5106_s {X : Int → Int} {LX : Nat} : ck_Ok p1_O X LX 325 p16x_5106 := ck_ok_s (ck_E1 (ck_S1 p16x_281_s ck_S0) (ck_E1 (ck_S1 p16x_282_s (ck_S1 p16x_285_s ck_S0)) (ck_E1 (ck_S1 p16x_5066_s ck_S0) ck_E0))) ck_X0 ck_l0 p16x_5106_e
set_option maxRecDepth 100000 in
def p16x_5109 : ck_Sum := ((2, 0, 0), 245, [.inr (.inr (.inl 226)), .inl (0, 2, none), .inl (300, 2147483647, none), .inl (0, 299, none), .inl (3, 2147483647, none)], ([], [], [(227, 0, 0, ck_one 3)]), ([(226, 0, 0)], []), [(.inr (some (.inl (ck_one 0))), 245, ([], [], [(226, 0, 0, ck_one 2)]))])
set_option maxRecDepth 100000 in
theorem p16x_5109_e : ck_ok p1_O none [] [(289, [p16x_281]), (283, [p16x_282, p16x_285]), (286, [p16x_5066])] 325 [] 112 p16x_5109 = true := by decide +kernel
theorem p16x_5109_s {X : Int → Int} {LX : Nat} : ck_Ok p1_O X LX 325 p16x_5109 := ck_ok_s (ck_E1 (ck_S1 p16x_281_s ck_S0) (ck_E1 (ck_S1 p16x_282_s (ck_S1 p16x_285_s ck_S0)) (ck_E1 (ck_S1 p16x_5066_s ck_S0) ck_E0))) ck_X0 ck_l0 p16x_5109_e
set_option maxRecDepth 100000 in
def p16x_5112 : ck_Sum := ((2, 0, 0), 245, [.inr (.inr (.inl 226)), .inl (0, 2, none), .inl (300, 2147483647, none), .inl (300, 2147483647, none), .inl ((-2147483648), (-1), none)], ([], [], [(227, 0, 0, ck_one 3)]), ([(226, 0, 0)], []), [(.inr (some (.inl (ck_one 0))), 245, ([], [], [(226, 0, 0, ck_one 2)]))])
set_option maxRecDepth 100000 in
theorem p16x_5112_e : ck_ok p1_O none [] [(289, [p16x_281]), (283, [p16x_282, p16x_285]), (286, [p16x_5066])] 325 [] 112 p16x_5112 = true := by decide +kernel
theorem p16x_5112_s {X : Int → Int} {LX : Nat} : ck_Ok p1_O X LX 325 p16x_5112 := ck_ok_s (ck_E1 (ck_S1 p16x_281_s ck_S0) (ck_E1 (ck_S1 p16x_282_s (ck_S1 p16x_285_s ck_S0)) (ck_E1 (ck_S1 p16x_5066_s ck_S0) ck_E0))) ck_X0 ck_l0 p16x_5112_e
set_option maxRecDepth 100000 in
def p16x_5115 : ck_Sum := ((2, 0, 0), 245, [.inr (.inr (.inl 226)), .inl (0, 2, none), .inl (300, 2147483647, none), .inl (300, 2147483647, none), .inl (ck_one 0)], ([], [], [(227, 0, 0, ck_one 3)]), ([(226, 0, 0)], []), [(.inr (some (.inl (ck_one 0))), 245, ([], [], [(226, 0, 0, ck_one 2)]))])
set_option maxRecDepth 100000 in
theorem p16x_5115_e : ck_ok p1_O none [] [(289, [p16x_281]), (283, [p16x_282, p16x_285]), (286, [p16x_5066])] 325 [] 112 p16x_5115 = true := by decide +kernel
theorem p16x_5115_s {X : Int → Int} {LX : Nat} : ck_Ok p1_O X LX 325 p16x_5115 := ck_ok_s (ck_E1 (ck_S1 p16x_281_s ck_S0) (ck_E1 (ck_S1 p16x_282_s (ck_S1 p16x_285_s ck_S0)) (ck_E1 (ck_S1 p16x_5066_s ck_S0) ck_E0))) ck_X0 ck_l0 p16x_5115_e
set_option maxRecDepth 100000 in
def p16x_5118 : ck_Sum := ((2, 0, 0), 245, [.inr (.inr (.inl 226)), .inl (0, 2, none), .inl (300, 2147483647, none), .inl (300, 2147483647, none), .inl (ck_one 1)], ([], [], [(227, 0, 0, ck_one 3)]), ([(226, 0, 0)], []), [(.inr (some (.inl (ck_one 0))), 245, ([], [], [(226, 0, 0, ck_one 2)]))])
set_option maxRecDepth 100000 in
theorem p16x_5118_e : ck_ok p1_O none [] [(289, [p16x_281]), (283, [p16x_282, p16x_285]), (286, [p16x_5066])] 325 [] 112 p16x_5118 = true := by decide +kernel
theorem p16x_5118_s {X : Int → Int} {LX : Nat} : ck_Ok p1_O X LX 325 p16x_5118 := ck_ok_s (ck_E1 (ck_S1 p16x_281_s ck_S0) (ck_E1 (ck_S1 p16x_282_s (ck_S1 p16x_285_s ck_S0)) (ck_E1 (ck_S1 p16x_5066_s ck_S0) ck_E0))) ck_X0 ck_l0 p16x_5118_e
set_option maxRecDepth 100000 in
def p16x_5121 : ck_Sum := ((2, 0, 0), 245, [.inr (.inr (.inl 226)), .inl (0, 2, none), .inl (300, 2147483647, none), .inl (300, 2147483647, none), .inl (ck_one 2)], ([], [], [(227, 0, 0, ck_one 3)]), ([(226, 0, 0)], []), [(.inr (some (.inl (ck_one 0))), 245, ([], [], [(226, 0, 0, ck_one 2)]))])
set_option maxRecDepth 100000 in
theorem p16x_5121_e : ck_ok p1_O none [] [(289, [p16x_281]), (283, [p16x_282, p16x_285]), (286, [p16x_5066])] 325 [] 112 p16x_5121 = true := by decide +kernel
theorem p16x_5121_s {X : Int → Int} {LX : Nat} : ck_Ok p1_O X LX 325 p16x_5121 := ck_ok_s (ck_E1 (ck_S1 p16x_281_s ck_S0) (ck_E1 (ck_S1 p16x_282_s (ck_S1 p16x_285_s ck_S0)) (ck_E1 (ck_S1 p16x_5066_s ck_S0) ck_E0))) ck_X0 ck_l0 p16x_5121_e
set_option maxRecDepth 100000 in
def p16x_5124 : ck_Sum := ((2, 0, 0), 245, [.inr (.inr (.inl 226)), .inl (0, 2, none), .inl (300, 2147483647, none), .inl (300, 2147483647, none), .inl (3, 2147483647, none)], ([], [], [(227, 0, 0, ck_one 3)]), ([(226, 0, 0)], []), [(.inr (some (.inl (ck_one 0))), 245, ([], [], [(226, 0, 0, ck_one 2)]))])
set_option maxRecDepth 100000 in
theorem p16x_5124_e : ck_ok p1_O none [] [(289, [p16x_281]), (283, [p16x_282, p16x_285]), (286, [p16x_5066])] 325 [] 112 p16x_5124 = true := by decide +kernel
theorem p16x_5124_s {X : Int → Int} {LX : Nat} : ck_Ok p1_O X LX 325 p16x_5124 := ck_ok_s (ck_E1 (ck_S1 p16x_281_s ck_S0) (ck_E1 (ck_S1 p16x_282_s (ck_S1 p16x_285_s ck_S0)) (ck_E1 (ck_S1 p16x_5066_s ck_S0) ck_E0))) ck_X0 ck_l0 p16x_5124_e
set_option maxRecDepth 100000 in
def p16x_5129 : ck_Sum := ((1, 0, 0), 245, [.inr (.inr (.inl 226)), .inl (3, 2147483647, none)], ([], [], [(227, 0, 0, ck_one 3)]), ([], []), [(.inr (some (.inl (ck_one 1))), 245, ([], [], []))])
set_option maxRecDepth 100000 in
theorem p16x_5129_e : ck_ok p1_O none [] [(262, [p16x_137]), (287, [p16x_5060])] 289 [] 92 p16x_5129 = true := by decide +kernel
theorem p16x_5129_s {X : Int → Int} {LX : Nat} : ck_Ok p1_O X LX 289 p16x_5129 := ck_ok_s (ck_E1 (ck_S1 p16x_137_s ck_S0) (ck_E1 (ck_S1 p16x_5060_s ck_S0) ck_E0)) ck_X0 ck_l0 p16x_5129_e
set_option maxRecDepth 100000 in
def p16x_5130 : ck_Sum := ((2, 0, 0), 245, [.inr (.inr (.inl 226)), .inl (3, 2147483647, none), .inl ((-2147483648), (-1), none), .inl ((-2147483648), (-1), none), .inl ((-2147483648), (-1), none)], ([], [], [(227, 0, 0, ck_one 3)]), ([(226, 0, 0)], []), [(.inr (some (.inl (ck_one 0))), 245, ([], [], [(226, 0, 0, ck_one 1)]))])
set_option maxRecDepth 100000 in
theorem p16x_5130_e : ck_ok p1_O none [] [(289, [p16x_5129]), (283, [p16x_140])] 325 [] 94 p16x_5130 = true := by decide +kernel
theorem p16x_5130_s {X : Int → Int} {LX : Nat} : ck_Ok p1_O X LX 325 p16x_5130 := ck_ok_s (ck_E1 (ck_S1 p16x_5129_s ck_S0) (ck_E1 (ck_S1 p16x_140_s ck_S0) ck_E0)) ck_X0 ck_l0 p16x_5130_e
set_option maxRecDepth 100000 in
def p16x_5133 : ck_Sum := ((2, 0, 0), 245, [.inr (.inr (.inl 226)), .inl (3, 2147483647, none), .inl ((-2147483648), (-1), none), .inl ((-2147483648), (-1), none), .inl (ck_one 0)], ([], [], [(227, 0, 0, ck_one 3)]), ([(226, 0, 0)], []), [(.inr (some (.inl (ck_one 0))), 245, ([], [], [(226, 0, 0, ck_one 1)]))])
set_option maxRecDepth 100000 in
theorem p16x_5133_e : ck_ok p1_O none [] [(289, [p16x_5129]), (283, [p16x_140])] 325 [] 94 p16x_5133 = true := by decide +kernel
theorem p16x_5133_s {X : Int → Int} {LX : Nat} : ck_Ok p1_O X LX 325 p16x_5133 := ck_ok_s (ck_E1 (ck_S1 p16x_5129_s ck_S0) (ck_E1 (ck_S1 p16x_140_s ck_S0) ck_E0)) ck_X0 ck_l0 p16x_5133_e
set_option maxRecDepth 100000 in
def p16x_5136 : ck_Sum := ((2, 0, 0), 245, [.inr (.inr (.inl 226)), .inl (3, 2147483647, none), .inl ((-2147483648), (-1), none), .inl ((-2147483648), (-1), none), .inl (ck_one 1)], ([], [], [(227, 0, 0, ck_one 3)]), ([(226, 0, 0)], []), [(.inr (some (.inl (ck_one 0))), 245, ([], [], [(226, 0, 0, ck_one 1)]))])
set_option maxRecDepth 100000 in
theorem p16x_5136_e : ck_ok p1_O none [] [(289, [p16x_5129]), (283, [p16x_140])] 325 [] 94 p16x_5136 = true := by decide +kernel
theorem p16x_5136_s {X : Int → Int} {LX : Nat} : ck_Ok p1_O X LX 325 p16x_5136 := ck_ok_s (ck_E1 (ck_S1 p16x_5129_s ck_S0) (ck_E1 (ck_S1 p16x_140_s ck_S0) ck_E0)) ck_X0 ck_l0 p16x_5136_e
set_option maxRecDepth 100000 in
def p16x_5139 : ck_Sum := ((2, 0, 0), 245, [.inr (.inr (.inl 226)), .inl (3, 2147483647, none), .inl ((-2147483648), (-1), none), .inl ((-2147483648), (-1), none), .inl (ck_one 2)], ([], [], [(227, 0, 0, ck_one 3)]), ([(226, 0, 0)], []), [(.inr (some (.inl (ck_one 0))), 245, ([], [], [(226, 0, 0, ck_one 1)]))])
set_option maxRecDepth 100000 in
theorem p16x_5139_e : ck_ok p1_O none [] [(289, [p16x_5129]), (283, [p16x_140])] 325 [] 94 p16x_5139 = true := by decide +kernel
theorem p16x_5139_s {X : Int → Int} {LX : Nat} : ck_Ok p1_O X LX 325 p16x_5139 := ck_ok_s (ck_E1 (ck_S1 p16x_5129_s ck_S0) (ck_E1 (ck_S1 p16x_140_s ck_S0) ck_E0)) ck_X0 ck_l0 p16x_5139_e
set_option maxRecDepth 100000 in
def p16x_5142 : ck_Sum := ((2, 0, 0), 245, [.inr (.inr (.inl 226)), .inl (3, 2147483647, none), .inl ((-2147483648), (-1), none), .inl ((-2147483648), (-1), none), .inl (3, 2147483647, none)], ([], [], [(227, 0, 0, ck_one 3)]), ([(226, 0, 0)], []), [(.inr (some (.inl (ck_one 0))), 245, ([], [], [(226, 0, 0, ck_one 1)]))])
set_option maxRecDepth 100000 in
theorem p16x_5142_e : ck_ok p1_O none [] [(289, [p16x_5129]), (283, [p16x_140])] 325 [] 94 p16x_5142 = true := by decide +kernel
theorem p16x_5142_s {X : Int → Int} {LX : Nat} : ck_Ok p1_O X LX 325 p16x_5142 := ck_ok_s (ck_E1 (ck_S1 p16x_5129_s ck_S0) (ck_E1 (ck_S1 p16x_140_s ck_S0) ck_E0)) ck_X0 ck_l0 p16x_5142_e
set_option maxRecDepth 100000 in
def p16x_5145 : ck_Sum := ((2, 0, 0), 245, [.inr (.inr (.inl 226)), .inl (3, 2147483647, none), .inl ((-2147483648), (-1), none), .inl (0, 299, none), .inl ((-2147483648), (-1), none)], ([], [], [(227, 0, 0, ck_one 3)]), ([(226, 0, 0)], []), [(.inr (some (.inl (ck_one 0))), 245, ([], [], [(226, 0, 0, ck_one 1)]))])
set_option maxRecDepth 100000 in
theorem p16x_5145_e : ck_ok p1_O none [] [(289, [p16x_5129]), (283, [p16x_140])] 325 [] 94 p16x_5145 = true := by decide +kernel
theorem p16x_5145_s {X : Int → Int} {LX : Nat} : ck_Ok p1_O X LX 325 p16x_5145 := ck_ok_s (ck_E1 (ck_S1 p16x_5129_s ck_S0) (ck_E1 (ck_S1 p16x_140_s ck_S0) ck_E0)) ck_X0 ck_l0 p16x_5145_e
set_option maxRecDepth 100000 in
def p16x_5148 : ck_Sum := ((2, 0, 0), 245, [.inr (.inr (.inl 226)), .inl (3, 2147483647, none), .inl ((-2147483648), (-1), none), .inl (0, 299, none), .inl (ck_one 0)], ([], [], [(227, 0, 0, ck_one 3)]), ([(226, 0, 0)], []), [(.inr (some (.inl (ck_one 0))), 245, ([], [], [(226, 0, 0, ck_one 1)]))])
set_option maxRecDepth 100000 in
theorem p16x_5148_e : ck_ok p1_O none [] [(289, [p16x_5129]), (283, [p16x_140])] 325 [] 94 p16x_5148 = true := by decide +kernel
theorem p16x_5148_s {X : Int → Int} {LX : Nat} : ck_Ok p1_O X LX 325 p16x_5148 := ck_ok_s (ck_E1 (ck_S1 p16x_5129_s ck_S0) (ck_E1 (ck_S1 p16x_140_s ck_S0) ck_E0)) ck_X0 ck_l0 p16x_5148_e
set_option maxRecDepth 100000 in
def p16x_5151 : ck_Sum := ((2, 0, 0), 245, [.inr (.inr (.inl 226)), .inl (3, 2147483647, none), .inl ((-2147483648), (-1), none), .inl (0, 299, none), .inl (ck_one 1)], ([], [], [(227, 0, 0, ck_one 3)]), ([(226, 0, 0)], []), [(.inr (some (.inl (ck_one 0))), 245, ([], [], [(226, 0, 0, ck_one 1)]))])
set_option maxRecDepth 100000 in
theorem p16x_5151_e : ck_ok p1_O none [] [(289, [p16x_5129]), (283, [p16x_140])] 325 [] 94 p16x_5151 = true := by decide +kernel
theorem p16x_5151_s {X : Int → Int} {LX : Nat} : ck_Ok p1_O X LX 325 p16x_5151 := ck_ok_s (ck_E1 (ck_S1 p16x_5129_s ck_S0) (ck_E1 (ck_S1 p16x_140_s ck_S0) ck_E0)) ck_X0 ck_l0 p16x_5151_e
set_option maxRecDepth 100000 in
def p16x_5154 : ck_Sum := ((2, 0, 0), 245, [.inr (.inr (.inl 226)), .inl (3, 2147483647, none), .inl ((-2147483648), (-1), none), .inl (0, 299, none), .inl (ck_one 2)], ([], [], [(227, 0, 0, ck_one 3)]), ([(226, 0, 0)], []), [(.inr (some (.inl (ck_one 0))), 245, ([], [], [(226, 0, 0, ck_one 1)]))])
set_option maxRecDepth 100000 in
theorem p16x_5154_e : ck_ok p1_O none [] [(289, [p16x_5129]), (283, [p16x_140])] 325 [] 94 p16x_5154 = true := by decide +kernel
theorem p16x_5154_s {X : Int → Int} {LX : Nat} : ck_Ok p1_O X LX 325 p16x_5154 := ck_ok_s (ck_E1 (ck_S1 p16x_5129_s ck_S0) (ck_E1 (ck_S1 p16x_140_s ck_S0) ck_E0)) ck_X0 ck_l0 p16x_5154_e
set_option maxRecDepth 100000 in
def p16x_5157 : ck_Sum := ((2, 0, 0), 245, [.inr (.inr (.inl 226)), .inl (3, 2147483647, none), .inl ((-2147483648), (-1), none), .inl (0, 299, none), .inl (3, 2147483647, none)], ([], [], [(227, 0, 0, ck_one 3)]), ([(226, 0, 0)], []), [(.inr (some (.inl (ck_one 0))), 245, ([], [], [(226, 0, 0, ck_one 1)]))])
set_option maxRecDepth 100000 in
theorem p16x_5157_e : ck_ok p1_O none [] [(289, [p16x_5129]), (283, [p16x_140])] 325 [] 94 p16x_5157 = true := by decide +kernel
theorem p16x_5157_s {X : Int → Int} {LX : Nat} : ck_Ok p1_O X LX 325 p16x_5157 := ck_ok_s (ck_E1 (ck_S1 p16x_5129_s ck_S0) (ck_E1 (ck_S1 p16x_140_s ck_S0) ck_E0)) ck_X0 ck_l0 p16x_5157_e
set_option maxRecDepth 100000 in
def p16x_5160 : ck_Sum := ((2, 0, 0), 245, [.inr (.inr (.inl 226)), .inl (3, 2147483647, none), .inl ((-2147483648), (-1), none), .inl (300, 2147483647, none), .inl ((-2147483648), (-1), none)], ([], [], [(227, 0, 0, ck_one 3)]), ([(226, 0, 0)], []), [(.inr (some (.inl (ck_one 0))), 245, ([], [], [(226, 0, 0, ck_one 1)]))])
set_option maxRecDepth 100000 in
theorem p16x_5160_e : ck_ok p1_O none [] [(289, [p16x_5129]), (283, [p16x_140])] 325 [] 94 p16x_5160 = true := by decide +kernel
theorem p16x_5160_s {X : Int → Int} {LX : Nat} : ck_Ok p1_O X LX 325 p16x_5160 := ck_ok_s (ck_E1 (ck_S1 p16x_5129_s ck_S0) (ck_E1 (ck_S1 p16x_140_s ck_S0) ck_E0)) ck_X0 ck_l0 p16x_5160_e
set_option maxRecDepth 100000 in
def p16x_5163 : ck_Sum := ((2, 0, 0), 245, [.inr (.inr (.inl 226)), .inl (3, 2147483647, none), .inl ((-2147483648), (-1), none), .inl (300, 2147483647, none), .inl (ck_one 0)], ([], [], [(227, 0, 0, ck_one 3)]), ([(226, 0, 0)], []), [(.inr (some (.inl (ck_one 0))), 245, ([], [], [(226, 0, 0, ck_one 1)]))])
set_option maxRecDepth 100000 in
theorem p16x_5163_e : ck_ok p1_O none [] [(289, [p16x_5129]), (283, [p16x_140])] 325 [] 94 p16x_5163 = true := by decide +kernel
theorem p16x_5163_s {X : Int → Int} {LX : Nat} : ck_Ok p1_O X LX 325 p16x_5163 := ck_ok_s (ck_E1 (ck_S1 p16x_5129_s ck_S0) (ck_E1 (ck_S1 p16x_140_s ck_S0) ck_E0)) ck_X0 ck_l0 p16x_5163_e
set_option maxRecDepth 100000 in
def p16x_5166 : ck_Sum := ((2, 0, 0), 245, [.inr (.inr (.inl 226)), .inl (3, 2147483647, none), .inl ((-2147483648), (-1), none), .inl (300, 2147483647, none), .inl (ck_one 1)], ([], [], [(227, 0, 0, ck_one 3)]), ([(226, 0, 0)], []), [(.inr (some (.inl (ck_one 0))), 245, ([], [], [(226, 0, 0, ck_one 1)]))])
set_option maxRecDepth 100000 in
theorem p16x_5166_e : ck_ok p1_O none [] [(289, [p16x_5129]), (283, [p16x_140])] 325 [] 94 p16x_5166 = true := by decide +kernel
theorem p16x_5166_s {X : Int → Int} {LX : Nat} : ck_Ok p1_O X LX 325 p16x_5166 := ck_ok_s (ck_E1 (ck_S1 p16x_5129_s ck_S0) (ck_E1 (ck_S1 p16x_140_s ck_S0) ck_E0)) ck_X0 ck_l0 p16x_5166_e
set_option maxRecDepth 100000 in
def p16x_5169 : ck_Sum := ((2, 0, 0), 245, [.inr (.inr (.inl 226)), .inl (3, 2147483647, none), .inl ((-2147483648), (-1), none), .inl (300, 2147483647, none), .inl (ck_one 2)], ([], [], [(227, 0, 0, ck_one 3)]), ([(226, 0, 0)], []), [(.inr (some (.inl (ck_one 0))), 245, ([], [], [(226, 0, 0, ck_one 1)]))])
set_option maxRecDepth 100000 in
theorem p16x_5169_e : ck_ok p1_O none [] [(289, [p16x_5129]), (283, [p16x_140])] 325 [] 94 p16x_5169 = true := by decide +kernel
theorem p16x_5169_s {X : Int → Int} {LX : Nat} : ck_Ok p1_O X LX 325 p16x_5169 := ck_ok_s (ck_E1 (ck_S1 p16x_5129_s ck_S0) (ck_E1 (ck_S1 p16x_140_s ck_S0) ck_E0)) ck_X0 ck_l0 p16x_5169_e
set_option maxRecDepth 100000 in
def p16x_5172 : ck_Sum := ((2, 0, 0), 245, [.inr (.inr (.inl 226)), .inl (3, 2147483647, none), .inl ((-2147483648), (-1), none), .inl (300, 2147483647, none), .inl (3, 2147483647, none)], ([], [], [(227, 0, 0, ck_one 3)]), ([(226, 0, 0)], []), [(.inr (some (.inl (ck_one 0))), 245, ([], [], [(226, 0, 0, ck_one 1)]))])
set_option maxRecDepth 100000 in
theorem p16x_5172_e : ck_ok p1_O none [] [(289, [p16x_5129]), (283, [p16x_140])] 325 [] 94 p16x_5172 = true := by decide +kernel
theorem p16x_5172_s {X : Int → Int} {LX : Nat} : ck_Ok p1_O X LX 325 p16x_5172 := ck_ok_s (ck_E1 (ck_S1 p16x_5129_s ck_S0) (ck_E1 (ck_S1 p16x_140_s ck_S0) ck_E0)) ck_X0 ck_l0 p16x_5172_e
set_option maxRecDepth 100000 in
def p16x_5175 : ck_Sum := ((2, 0, 0), 245, [.inr (.inr (.inl 226)), .inl (3, 2147483647, none), .inl (0, 299, none), .inl ((-2147483648), (-1), none), .inl ((-2147483648), (-1), none)], ([], [], [(227, 0, 0, ck_one 3)]), ([(226, 0, 0)], []), [(.inr (some (.inl (ck_one 0))), 245, ([], [], [(226, 0, 0, ck_one 1)]))])
set_option maxRecDepth 100000 in
theorem p16x_5175_e : ck_ok p1_O none [] [(289, [p16x_5129]), (283, [p16x_140])] 325 [] 94 p16x_5175 = true := by decide +kernel
theorem p16x_5175_s {X : Int → Int} {LX : Nat} : ck_Ok p1_O X LX 325 p16x_5175 := ck_ok_s (ck_E1 (ck_S1 p16x_5129_s ck_S0) (ck_E1 (ck_S1 p16x_140_s ck_S0) ck_E0)) ck_X0 ck_l0 p16x_5175_e
set_option maxRecDepth 100000 in
def p16x_5178 : ck_Sum := ((2, 0, 0), 245, [.inr (.inr (.inl 226)), .inl (3, 2147483647, none), .inl (0, 299, none), .inl ((-2147483648), (-1), none), .inl (ck_one 0)], ([], [], [(227, 0, 0, ck_one 3)]), ([(226, 0, 0)], []), [(.inr (some (.inl (ck_one 0))), 245, ([], [], [(226, 0, 0, ck_one 1)]))])
set_option maxRecDepth 100000 in
theorem p16x_5178_e : ck_ok p1_O none [] [(289, [p16x_5129]), (283, [p16x_140])] 325 [] 94 p16x_5178 = true := by decide +kernel
theorem p16x_5178_s {X : Int → Int} {LX : Nat} : ck_Ok p1_O X LX 325 p16x_5178 := ck_ok_s (ck_E1 (ck_S1 p16x_5129_s ck_S0) (ck_E1 (ck_S1 p16x_140_s ck_S0) ck_E0)) ck_X0 ck_l0 p16x_5178_e
set_option maxRecDepth 100000 in
def p16x_5181 : ck_Sum := ((2, 0, 0), 245, [.inr (.inr (.inl 226)), .inl (3, 2147483647, none), .inl (0, 299, none), .inl ((-2147483648), (-1), none), .inl (ck_one 1)], ([], [], [(227, 0, 0, ck_one 3)]), ([(226, 0, 0)], []), [(.inr (some (.inl (ck_one 0))), 245, ([], [], [(226, 0, 0, ck_one 1)]))])
set_option maxRecDepth 100000 in
theorem p16x_5181_e : ck_ok p1_O none [] [(289, [p16x_5129]), (283, [p16x_140])] 325 [] 94 p16x_5181 = true := by decide +kernel
theorem p16x_5181_s {X : Int → Int} {LX : Nat} : ck_Ok p1_O X LX 325 p16x_5181 := ck_ok_s (ck_E1 (ck_S1 p16x_5129_s ck_S0) (ck_E1 (ck_S1 p16x_140_s ck_S0) ck_E0)) ck_X0 ck_l0 p16x_5181_e
set_option maxRecDepth 100000 in
def p16x_5184 : ck_Sum := ((2, 0, 0), 245, [.inr (.inr (.inl 226)), .inl (3, 2147483647, none), .inl (0, 299, none), .inl ((-2147483648), (-1), none), .inl (ck_one 2)], ([], [], [(227, 0, 0, ck_one 3)]), ([(226, 0, 0)], []), [(.inr (some (.inl (ck_one 0))), 245, ([], [], [(226, 0, 0, ck_one 1)]))])
set_option maxRecDepth 100000 in
theorem p16x_5184_e : ck_ok p1_O none [] [(289, [p16x_5129]), (283, [p16x_140])] 325 [] 94 p16x_5184 = true := by decide +kernel
theorem p16x_5184_s {X : Int → Int} {LX : Nat} : ck_Ok p1_O X LX 325 p16x_5184 := ck_ok_s (ck_E1 (ck_S1 p16x_5129_s ck_S0) (ck_E1 (ck_S1 p16x_140_s ck_S0) ck_E0)) ck_X0 ck_l0 p16x_5184_e
set_option maxRecDepth 100000 in
def p16x_5187 : ck_Sum := ((2, 0, 0), 245, [.inr (.inr (.inl 226)), .inl (3, 2147483647, none), .inl (0, 299, none), .inl ((-2147483648), (-1), none), .inl (3, 2147483647, none)], ([], [], [(227, 0, 0, ck_one 3)]), ([(226, 0, 0)], []), [(.inr (some (.inl (ck_one 0))), 245, ([], [], [(226, 0, 0, ck_one 1)]))])
set_option maxRecDepth 100000 in
theorem p16x_5187_e : ck_ok p1_O none [] [(289, [p16x_5129]), (283, [p16x_140])] 325 [] 94 p16x_5187 = true := by decide +kernel
theorem p16x_5187_s {X : Int → Int} {LX : Nat} : ck_Ok p1_O X LX 325 p16x_5187 := ck_ok_s (ck_E1 (ck_S1 p16x_5129_s ck_S0) (ck_E1 (ck_S1 p16x_140_s ck_S0) ck_E0)) ck_X0 ck_l0 p16x_5187_e
set_option maxRecDepth 100000 in
def p16x_5190 : ck_Sum := ((2, 0, 0), 245, [.inr (.inr (.inl 226)), .inl (3, 2147483647, none), .inl (0, 299, none), .inl (0, 299, none), .inl ((-2147483648), (-1), none)], ([], [], [(227, 0, 0, ck_one 3)]), ([(226, 0, 0)], []), [(.inr (some (.inl (ck_one 0))), 245, ([], [], [(226, 0, 0, ck_one 1)]))])
set_option maxRecDepth 100000 in
theorem p16x_5190_e : ck_ok p1_O none [] [(289, [p16x_5129]), (283, [p16x_140])] 325 [] 94 p16x_5190 = true := by decide +kernel
theorem p16x_5190_s {X : Int → Int} {LX : Nat} : ck_Ok p1_O X LX 325 p16x_5190 := ck_ok_s (ck_E1 (ck_S1 p16x_5129_s ck_S0) (ck_E1 (ck_S1 p16x_140_s ck_S0) ck_E0)) ck_X0 ck_l0 p16x_5190_e
set_option maxRecDepth 100000 in
def p16x_5193 : ck_Sum := ((2, 0, 0), 245, [.inr (.inr (.inl 226)), .inl (3, 2147483647, none), .inl (0, 299, none), .inl (0, 299, none), .inl (ck_one 0)], ([], [], [(227, 0, 0, ck_one 3)]), ([(226, 0, 0)], []), [(.inr (some (.inl (ck_one 0))), 245, ([], [], [(226, 0, 0, ck_one 1)]))])
set_option maxRecDepth 100000 in
theorem p16x_5193_e : ck_ok p1_O none [] [(289, [p16x_5129]), (283, [p16x_140])] 325 [] 94 p16x_5193 = true := by decide +kernel
theorem p16x_5193_s {X : Int → Int} {LX : Nat} : ck_Ok p1_O X LX 325 p16x_5193 := ck_ok_s (ck_E1 (ck_S1 p16x_5129_s ck_S0) (ck_E1 (ck_S1 p16x_140_s ck_S0) ck_E0)) ck_X0 ck_l0 p16x_5193_e
set_option maxRecDepth 100000 in
def p16x_5196 : ck_Sum := ((2, 0, 0), 245, [.inr (.inr (.inl 226)), .inl (3, 2147483647, none), .inl (0, 299, none), .inl (0, 299, none), .inl (ck_one 1)], ([], [], [(227, 0, 0, ck_one 3)]), ([(226, 0, 0)], []), [(.inr (some (.inl (ck_one 0))), 245, ([], [], [(226, 0, 0, ck_one 1)]))])
set_option maxRecDepth 100000 in
theorem p16x_5196_e : ck_ok p1_O none [] [(289, [p16x_5129]), (283, [p16x_140])] 325 [] 94 p16x_5196 = true := by decide +kernel
theorem p16x_5196_s {X : Int → Int} {LX : Nat} : ck_Ok p1_O X LX 325 p16x_5196 := ck_ok_s (ck_E1 (ck_S1 p16x_5129_s ck_S0) (ck_E1 (ck_S1 p16x_140_s ck_S0) ck_E0)) ck_X0 ck_l0 p16x_5196_e
set_option maxRecDepth 100000 in
def p16x_5199 : ck_Sum := ((2, 0, 0), 245, [.inr (.inr (.inl 226)), .inl (3, 2147483647, none), .inl (0, 299, none), .inl (0, 299, none), .inl (ck_one 2)], ([], [], [(227, 0, 0, ck_one 3)]), ([(226, 0, 0)], []), [(.inr (some (.inl (ck_one 0))), 245, ([], [], [(226, 0, 0, ck_one 1)]))])
set_option maxRecDepth 100000 in
theorem p16x_5199_e : ck_ok p1_O none [] [(289, [p16x_5129]), (283, [p16x_140])] 325 [] 94 p16x_5199 = true := by decide +kernel
theorem p16x_5199_s {X : Int → Int} {LX : Nat} : ck_Ok p1_O X LX 325 p16x_5199 := ck_ok_s (ck_E1 (ck_S1 p16x_5129_s ck_S0) (ck_E1 (ck_S1 p16x_140_s ck_S0) ck_E0)) ck_X0 ck_l0 p16x_5199_e
set_option maxRecDepth 100000 in
def p16x_5202 : ck_Sum := ((2, 0, 0), 245, [.inr (.inr (.inl 226)), .inl (3, 2147483647, none), .inl (0, 299, none), .inl (0, 299, none), .inl (3, 2147483647, none)], ([], [], [(227, 0, 0, ck_one 3)]), ([(226, 0, 0)], []), [(.inr (some (.inl (ck_one 0))), 245, ([], [], [(226, 0, 0, ck_one 1)]))])
set_option maxRecDepth 100000 in
theorem p16x_5202_e : ck_ok p1_O none [] [(289, [p16x_5129]), (283, [p16x_140])] 325 [] 94 p16x_5202 = true := by decide +kernel
theorem p16x_5202_s {X : Int → Int} {LX : Nat} : ck_Ok p1_O X LX 325 p16x_5202 := ck_ok_s (ck_E1 (ck_S1 p16x_5129_s ck_S0) (ck_E1 (ck_S1 p16x_140_s ck_S0) ck_E0)) ck_X0 ck_l0 p16x_5202_e
set_option maxRecDepth 100000 in
def p16x_5205 : ck_Sum := ((2, 0, 0), 245, [.inr (.inr (.inl 226)), .inl (3, 2147483647, none), .inl (0, 299, none), .inl (300, 2147483647, none), .inl ((-2147483648), (-1), none)], ([], [], [(227, 0, 0, ck_one 3)]), ([(226, 0, 0)], []), [(.inr (some (.inl (ck_one 0))), 245, ([], [], [(226, 0, 0, ck_one 1)]))])
set_option maxRecDepth 100000 in
theorem p16x_5205_e : ck_ok p1_O none [] [(289, [p16x_5129]), (283, [p16x_140])] 325 [] 94 p16x_5205 = true := by decide +kernel
theorem p16x_5205_s {X : Int → Int} {LX : Nat} : ck_Ok p1_O X LX 325 p16x_5205 := ck_ok_s (ck_E1 (ck_S1 p16x_5129_s ck_S0) (ck_E1 (ck_S1 p16x_140_s ck_S0) ck_E0)) ck_X0 ck_l0 p16x_5205_e
set_option maxRecDepth 100000 in
def p16x_5208 : ck_Sum := ((2, 0, 0), 245, [.inr (.inr (.inl 226)), .inl (3, 2147483647, none), .inl (0, 299, none), .inl (300, 2147483647, none), .inl (ck_one 0)], ([], [], [(227, 0, 0, ck_one 3)]), ([(226, 0, 0)], []), [(.inr (some (.inl (ck_one 0))), 245, ([], [], [(226, 0, 0, ck_one 1)]))])
set_option maxRecDepth 100000 in
theorem p16x_5208_e : ck_ok p1_O none [] [(289, [p16x_5129]), (283, [p16x_140])] 325 [] 94 p16x_5208 = true := by decide +kernel
theorem p16x_5208_s {X : Int → Int} {LX : Nat} : ck_Ok p1_O X LX 325 p16x_5208 := ck_ok_s (ck_E1 (ck_S1 p16x_5129_s ck_S0) (ck_E1 (ck_S1 p16x_140_s ck_S0) ck_E0)) ck_X0 ck_l0 p16x_5208_e
set_option maxRecDepth 100000 in
def p16x_5211 : ck_Sum := ((2, 0, 0), 245, [.inr (.inr (.inl 226)), .inl (3, 2147483647, none), .inl (0, 299, none), .inl (300, 2147483647, none), .inl (ck_one 1)], ([], [], [(227, 0, 0, ck_one 3)]), ([(226, 0, 0)], []), [(.inr (some (.inl (ck_one 0))), 245, ([], [], [(226, 0, 0, ck_one 1)]))])
set_option maxRecDepth 100000 in
theorem p16x_5211_e : ck_ok p1_O none [] [(289, [p16x_5129]), (283, [p16x_140])] 325 [] 94 p16x_5211 = true := by decide +kernel
theorem p16x_5211_s {X : Int → Int} {LX : Nat} : ck_Ok p1_O X LX 325 p16x_5211 := ck_ok_s (ck_E1 (ck_S1 p16x_5129_s ck_S0) (ck_E1 (ck_S1 p16x_140_s ck_S0) ck_E0)) ck_X0 ck_l0 p16x_5211_e
set_option maxRecDepth 100000 in
def p16x_5214 : ck_Sum := ((2, 0, 0), 245, [.inr (.inr (.inl 226)), .inl (3, 2147483647, none), .inl (0, 299, none), .inl (300, 2147483647, none), .inl (ck_one 2)], ([], [], [(227, 0, 0, ck_one 3)]), ([(226, 0, 0)], []), [(.inr (some (.inl (ck_one 0))), 245, ([], [], [(226, 0, 0, ck_one 1)]))])
set_option maxRecDepth 100000 in
theorem p16x_5214_e : ck_ok p1_O none [] [(289, [p16x_5129]), (283, [p16x_140])] 325 [] 94 p16x_5214 = true := by decide +kernel
theorem p16x_5214_s {X : Int → Int} {LX : Nat} : ck_Ok p1_O X LX 325 p16x_5214 := ck_ok_s (ck_E1 (ck_S1 p16x_5129_s ck_S0) (ck_E1 (ck_S1 p16x_140_s ck_S0) ck_E0)) ck_X0 ck_l0 p16x_5214_e
set_option maxRecDepth 100000 in
def p16x_5217 : ck_Sum := ((2, 0, 0), 245, [.inr (.inr (.inl 226)), .inl (3, 2147483647, none), .inl (0, 299, none), .inl (300, 2147483647, none), .inl (3, 2147483647, none)], ([], [], [(227, 0, 0, ck_one 3)]), ([(226, 0, 0)], []), [(.inr (some (.inl (ck_one 0))), 245, ([], [], [(226, 0, 0, ck_one 1)]))])
set_option maxRecDepth 100000 in
theorem p16x_5217_e : ck_ok p1_O none [] [(289, [p16x_5129]), (283, [p16x_140])] 325 [] 94 p16x_5217 = true := by decide +kernel
theorem p16x_5217_s {X : Int → Int} {LX : Nat} : ck_Ok p1_O X LX 325 p16x_5217 := ck_ok_s (ck_E1 (ck_S1 p16x_5129_s ck_S0) (ck_E1 (ck_S1 p16x_140_s ck_S0) ck_E0)) ck_X0 ck_l0 p16x_5217_e
set_option maxRecDepth 100000 in
def p16x_5220 : ck_Sum := ((2, 0, 0), 245, [.inr (.inr (.inl 226)), .inl (3, 2147483647, none), .inl (300, 2147483647, none), .inl ((-2147483648), (-1), none), .inl ((-2147483648), (-1), none)], ([], [], [(227, 0, 0, ck_one 3)]), ([(226, 0, 0)], []), [(.inr (some (.inl (ck_one 0))), 245, ([], [], [(226, 0, 0, ck_one 1)]))])
set_option maxRecDepth 100000 in
theorem p16x_5220_e : ck_ok p1_O none [] [(289, [p16x_5129]), (283, [p16x_140])] 325 [] 94 p16x_5220 = true := by decide +kernel
theorem p16x_5220_s {X : Int → Int} {LX : Nat} : ck_Ok p1_O X LX 325 p16x_5220 := ck_ok_s (ck_E1 (ck_S1 p16x_5129_s ck_S0) (ck_E1 (ck_S1 p16x_140_s ck_S0) ck_E0)) ck_X0 ck_l0 p16x_5220_e
set_option maxRecDepth 100000 in
def p16x_5223 : ck_Sum := ((2, 0, 0), 245, [.inr (.inr (.inl 226)), .inl (3, 2147483647, none), .inl (300, 2147483647, none), .inl ((-2147483648), (-1), none), .inl (ck_one 0)], ([], [], [(227, 0, 0, ck_one 3)]), ([(226, 0, 0)], []), [(.inr (some (.inl (ck_one 0))), 245, ([], [], [(226, 0, 0, ck_one 1)]))])
set_option maxRecDepth 100000 in
theorem p16x_5223_e : ck_ok p1_O none [] [(289, [p16x_5129]), (283, [p16x_140])] 325 [] 94 p16x_5223 = true := by decide +kernel
theorem p16x_5223_s {X : Int → Int} {LX : Nat} : ck_Ok p1_O X LX 325 p16x_5223 := ck_ok_s (ck_E1 (ck_S1 p16x_5129_s ck_S0) (ck_E1 (ck_S1 p16x_140_s ck_S0) ck_E0)) ck_X0 ck_l0 p16x_5223_e
set_option maxRecDepth 100000 in
def p16x_5226 : ck_Sum := ((2, 0, 0), 245, [.inr (.inr (.inl 226)), .inl (3, 2147483647, none), .inl (300, 2147483647, none), .inl ((-2147483648), (-1), none), .inl (ck_one 1)], ([], [], [(227, 0, 0, ck_one 3)]), ([(226, 0, 0)], []), [(.inr (some (.inl (ck_one 0))), 245, ([], [], [(226, 0, 0, ck_one 1)]))])
set_option maxRecDepth 100000 in
theorem p16x_5226_e : ck_ok p1_O none [] [(289, [p16x_5129]), (283, [p16x_140])] 325 [] 94 p16x_5226 = true := by decide +kernel
theorem p16x_5226_s {X : Int → Int} {LX : Nat} : ck_Ok p1_O X LX 325 p16x_5226 := ck_ok_s (ck_E1 (ck_S1 p16x_5129_s ck_S0) (ck_E1 (ck_S1 p16x_140_s ck_S0) ck_E0)) ck_X0 ck_l0 p16x_5226_e
set_option maxRecDepth 100000 in
def p16x_5229 : ck_Sum := ((2, 0, 0), 245, [.inr (.inr (.inl 226)), .inl (3, 2147483647, none), .inl (300, 2147483647, none), .inl ((-2147483648), (-1), none), .inl (ck_one 2)], ([], [], [(227, 0, 0, ck_one 3)]), ([(226, 0, 0)], []), [(.inr (some (.inl (ck_one 0))), 245, ([], [], [(226, 0, 0, ck_one 1)]))])
set_option maxRecDepth 100000 in
theorem p16x_5229_e : ck_ok p1_O none [] [(289, [p16x_5129]), (283, [p16x_140])] 325 [] 94 p16x_5229 = true := by decide +kernel
theorem p16x_5229_s {X : Int → Int} {LX : Nat} : ck_Ok p1_O X LX 325 p16x_5229 := ck_ok_s (ck_E1 (ck_S1 p16x_5129_s ck_S0) (ck_E1 (ck_S1 p16x_140_s ck_S0) ck_E0)) ck_X0 ck_l0 p16x_5229_e
set_option maxRecDepth 100000 in
def p16x_5232 : ck_Sum := ((2, 0, 0), 245, [.inr (.inr (.inl 226)), .inl (3, 2147483647, none), .inl (300, 2147483647, none), .inl ((-2147483648), (-1), none), .inl (3, 2147483647, none)], ([], [], [(227, 0, 0, ck_one 3)]), ([(226, 0, 0)], []), [(.inr (some (.inl (ck_one 0))), 245, ([], [], [(226, 0, 0, ck_one 1)]))])
set_option maxRecDepth 100000 in
theorem p16x_5232_e : ck_ok p1_O none [] [(289, [p16x_5129]), (283, [p16x_140])] 325 [] 94 p16x_5232 = true := by decide +kernel
theorem p16x_5232_s {X : Int → Int} {LX : Nat} : ck_Ok p1_O X LX 325 p16x_5232 := ck_ok_s (ck_E1 (ck_S1 p16x_5129_s ck_S0) (ck_E1 (ck_S1 p16x_140_s ck_S0) ck_E0)) ck_X0 ck_l0 p16x_5232_e
set_option maxRecDepth 100000 in
def p16x_5235 : ck_Sum := ((2, 0, 0), 245, [.inr (.inr (.inl 226)), .inl (3, 2147483647, none), .inl (300, 2147483647, none), .inl (0, 299, none), .inl ((-2147483648), (-1), none)], ([], [], [(227, 0, 0, ck_one 3)]), ([(226, 0, 0)], []), [(.inr (some (.inl (ck_one 0))), 245, ([], [], [(226, 0, 0, ck_one 1)]))])
set_option maxRecDepth 100000 in
theorem p16x_5235_e : ck_ok p1_O none [] [(289, [p16x_5129]), (283, [p16x_140])] 325 [] 94 p16x_5235 = true := by decide +kernel
theorem p16x_5235_s {X : Int → Int} {LX : Nat} : ck_Ok p1_O X LX 325 p16x_5235 := ck_ok_s (ck_E1 (ck_S1 p16x_5129_s ck_S0) (ck_E1 (ck_S1 p16x_140_s ck_S0) ck_E0)) ck_X0 ck_l0 p16x_5235_e
set_option maxRecDepth 100000 in
def p16x_5238 : ck_Sum := ((2, 0, 0), 245, [.inr (.inr (.inl 226)), .inl (3, 2147483647, none), .inl (300, 2147483647, none), .inl (0, 299, none), .inl (ck_one 0)], ([], [], [(227, 0, 0, ck_one 3)]), ([(226, 0, 0)], []), [(.inr (some (.inl (ck_one 0))), 245, ([], [], [(226, 0, 0, ck_one 1)]))])
set_option maxRecDepth 100000 in
theorem p16x_5238_e : ck_ok p1_O none [] [(289, [p16x_5129]), (283, [p16x_140])] 325 [] 94 p16x_5238 = true := by decide +kernel
theorem p16x_5238_s {X : Int → Int} {LX : Nat} : ck_Ok p1_O X LX 325 p16x_5238 := ck_ok_s (ck_E1 (ck_S1 p16x_5129_s ck_S0) (ck_E1 (ck_S1 p16x_140_s ck_S0) ck_E0)) ck_X0 ck_l0 p16x_5238_e
set_option maxRecDepth 100000 in
def p16x_5241 : ck_Sum := ((2, 0, 0), 245, [.inr (.inr (.inl 226)), .inl (3, 2147483647, none), .inl (300, 2147483647, none), .inl (0, 299, none), .inl (ck_one 1)], ([], [], [(227, 0, 0, ck_one 3)]), ([(226, 0, 0)], []), [(.inr (some (.inl (ck_one 0))), 245, ([], [], [(226, 0, 0, ck_one 1)]))])
set_option maxRecDepth 100000 in
theorem p16x_5241_e : ck_ok p1_O none [] [(289, [p16x_5129]), (283, [p16x_140])] 325 [] 94 p16x_5241 = true := by decide +kernel
theorem p16x_5241_s {X : Int → Int} {LX : Nat} : ck_Ok p1_O X LX 325 p16x_5241 := ck_ok_s (ck_E1 (ck_S1 p16x_5129_s ck_S0) (ck_E1 (ck_S1 p16x_140_s ck_S0) ck_E0)) ck_X0 ck_l0 p16x_5241_e
set_option maxRecDepth 100000 in
def p16x_5244 : ck_Sum := ((2, 0, 0), 245, [.inr (.inr (.inl 226)), .inl (3, 2147483647, none), .inl (300, 2147483647, none), .inl (0, 299, none), .inl (ck_one 2)], ([], [], [(227, 0, 0, ck_one 3)]), ([(226, 0, 0)], []), [(.inr (some (.inl (ck_one 0))), 245, ([], [], [(226, 0, 0, ck_one 1)]))])
set_option maxRecDepth 100000 in
theorem p16x_5244_e : ck_ok p1_O none [] [(289, [p16x_5129]), (283, [p16x_140])] 325 [] 94 p16x_5244 = true := by decide +kernel
theorem p16x_5244_s {X : Int → Int} {LX : Nat} : ck_Ok p1_O X LX 325 p16x_5244 := ck_ok_s (ck_E1 (ck_S1 p16x_5129_s ck_S0) (ck_E1 (ck_S1 p16x_140_s ck_S0) ck_E0)) ck_X0 ck_l0 p16x_5244_e
set_option maxRecDepth 100000 in
def p16x_5247 : ck_Sum := ((2, 0, 0), 245, [.inr (.inr (.inl 226)), .inl (3, 2147483647, none), .inl (300, 2147483647, none), .inl (0, 299, none), .inl (3, 2147483647, none)], ([], [], [(227, 0, 0, ck_one 3)]), ([(226, 0, 0)], []), [(.inr (some (.inl (ck_one 0))), 245, ([], [], [(226, 0, 0, ck_one 1)]))])
set_option maxRecDepth 100000 in
theorem p16x_5247_e : ck_ok p1_O none [] [(289, [p16x_5129]), (283, [p16x_140])] 325 [] 94 p16x_5247 = true := by decide +kernel
theorem p16x_5247_s {X : Int → Int} {LX : Nat} : ck_Ok p1_O X LX 325 p16x_5247 := ck_ok_s (ck_E1 (ck_S1 p16x_5129_s ck_S0) (ck_E1 (ck_S1 p16x_140_s ck_S0) ck_E0)) ck_X0 ck_l0 p16x_5247_e
set_option maxRecDepth 100000 in
def p16x_5250 : ck_Sum := ((2, 0, 0), 245, [.inr (.inr (.inl 226)), .inl (3, 2147483647, none), .inl (300, 2147483647, none), .inl (300, 2147483647, none), .inl ((-2147483648), (-1), none)], ([], [], [(227, 0, 0, ck_one 3)]), ([(226, 0, 0)], []), [(.inr (some (.inl (ck_one 0))), 245, ([], [], [(226, 0, 0, ck_one 1)]))])
set_option maxRecDepth 100000 in
theorem p16x_5250_e : ck_ok p1_O none [] [(289, [p16x_5129]), (283, [p16x_140])] 325 [] 94 p16x_5250 = true := by decide +kernel
theorem p16x_5250_s {X : Int → Int} {LX : Nat} : ck_Ok p1_O X LX 325 p16x_5250 := ck_ok_s (ck_E1 (ck_S1 p16x_5129_s ck_S0) (ck_E1 (ck_S1 p16x_140_s ck_S0) ck_E0)) ck_X0 ck_l0 p16x_5250_e
set_option maxRecDepth 100000 in
def p16x_5253 : ck_Sum := ((2, 0, 0), 245, [.inr (.inr (.inl 226)), .inl (3, 2147483647, none), .inl (300, 2147483647, none), .inl (300, 2147483647, none), .inl (ck_one 0)], ([], [], [(227, 0, 0, ck_one 3)]), ([(226, 0, 0)], []), [(.inr (some (.inl (ck_one 0))), 245, ([], [], [(226, 0, 0, ck_one 1)]))])
set_option maxRecDepth 100000 in
theorem p16x_5253_e : ck_ok p1_O none [] [(289, [p16x_5129]), (283, [p16x_140])] 325 [] 94 p16x_5253 = true := by decide +kernel
theorem p16x_5253_s {X : Int → Int} {LX : Nat} : ck_Ok p1_O X LX 325 p16x_5253 := ck_ok_s (ck_E1 (ck_S1 p16x_5129_s ck_S0) (ck_E1 (ck_S1 p16x_140_s ck_S0) ck_E0)) ck_X0 ck_l0 p16x_5253_e
set_option maxRecDepth 100000 in
def p16x_5256 : ck_Sum := ((2, 0, 0), 245, [.inr (.inr (.inl 226)), .inl (3, 2147483647, none), .inl (300, 2147483647, none), .inl (300, 2147483647, none), .inl (ck_one 1)], ([], [], [(227, 0, 0, ck_one 3)]), ([(226, 0, 0)], []), [(.inr (some (.inl (ck_one 0))), 245, ([], [], [(226, 0, 0, ck_one 1)]))])
set_option maxRecDepth 100000 in
theorem p16x_5256_e : ck_ok p1_O none [] [(289, [p16x_5129]), (283, [p16x_140])] 325 [] 94 p16x_5256 = true := by decide +kernel
theorem p16x_5256_s {X : Int → Int} {LX : Nat} : ck_Ok p1_O X LX 325 p16x_5256 := ck_ok_s (ck_E1 (ck_S1 p16x_5129_s ck_S0) (ck_E1 (ck_S1 p16x_140_s ck_S0) ck_E0)) ck_X0 ck_l0 p16x_5256_e
set_option maxRecDepth 100000 in
def p16x_5259 : ck_Sum := ((2, 0, 0), 245, [.inr (.inr (.inl 226)), .inl (3, 2147483647, none), .inl (300, 2147483647, none), .inl (300, 2147483647, none), .inl (ck_one 2)], ([], [], [(227, 0, 0, ck_one 3)]), ([(226, 0, 0)], []), [(.inr (some (.inl (ck_one 0))), 245, ([], [], [(226, 0, 0, ck_one 1)]))])
set_option maxRecDepth 100000 in
theorem p16x_5259_e : ck_ok p1_O none [] [(289, [p16x_5129]), (283, [p16x_140])] 325 [] 94 p16x_5259 = true := by decide +kernel
theorem p16x_5259_s {X : Int → Int} {LX : Nat} : ck_Ok p1_O X LX 325 p16x_5259 := ck_ok_s (ck_E1 (ck_S1 p16x_5129_s ck_S0) (ck_E1 (ck_S1 p16x_140_s ck_S0) ck_E0)) ck_X0 ck_l0 p16x_5259_e
set_option maxRecDepth 100000 in
def p16x_5262 : ck_Sum := ((2, 0, 0), 245, [.inr (.inr (.inl 226)), .inl (3, 2147483647, none), .inl (300, 2147483647, none), .inl (300, 2147483647, none), .inl (3, 2147483647, none)], ([], [], [(227, 0, 0, ck_one 3)]), ([(226, 0, 0)], []), [(.inr (some (.inl (ck_one 0))), 245, ([], [], [(226, 0, 0, ck_one 1)]))])
set_option maxRecDepth 100000 in
theorem p16x_5262_e : ck_ok p1_O none [] [(289, [p16x_5129]), (283, [p16x_140])] 325 [] 94 p16x_5262 = true := by decide +kernel
theorem p16x_5262_s {X : Int → Int} {LX : Nat} : ck_Ok p1_O X LX 325 p16x_5262 := ck_ok_s (ck_E1 (ck_S1 p16x_5129_s ck_S0) (ck_E1 (ck_S1 p16x_140_s ck_S0) ck_E0)) ck_X0 ck_l0 p16x_5262_e
set_option maxRecDepth 100000 in
def p16x_142 : ck_Sum := ((0, 0, 0), 245, [.inr (.inr (.inl 226))], ([], [], [(226, 0, 0, ck_one 1)]), ([], []), [(.inr (some (.inl (ck_one 1))), 245, ([], [], []))])
set_option maxRecDepth 100000 in
theorem p16x_142_e : ck_ok p1_O none [] [] 234 [] 76 p16x_142 = true := by decide +kernel
theorem p16x_142_s {X : Int → Int} {LX : Nat} : ck_Ok p1_O X LX 234 p16x_142 := ck_ok_s (ck_E0) ck_X0 ck_l0 p16x_142_e
set_option maxRecDepth 100000 in
def p16x_287 : ck_Sum := ((0, 0, 0), 245, [.inr (.inr (.inl 226))], ([], [], [(226, 0, 0, ck_one 2)]), ([], []), [(.inr (some (.inl (ck_one 2))), 245, ([], [], []))])
set_option maxRecDepth 100000 in
theorem p16x_287_e : ck_ok p1_O none [] [] 234 [] 76 p16x_287 = true := by decide +kernel
theorem p16x_287_s {X : Int → Int} {LX : Nat} : ck_Ok p1_O X LX 234 p16x_287 := ck_ok_s (ck_E0) ck_X0 ck_l0 p16x_287_e
set_option maxRecDepth 100000 in
def p16x_354 : ck_Sum := ((0, 0, 0), 245, [.inr (.inr (.inl 226))], ([], [], [(226, 0, 0, ck_one 3)]), ([], []), [(.inr (some (.inl (ck_one 3))), 245, ([], [], []))])
set_option maxRecDepth 100000 in
theorem p16x_354_e : ck_ok p1_O none [] [] 234 [] 76 p16x_354 = true := by decide +kernel
theorem p16x_354_s {X : Int → Int} {LX : Nat} : ck_Ok p1_O X LX 234 p16x_354 := ck_ok_s (ck_E0) ck_X0 ck_l0 p16x_354_e
set_option maxRecDepth 100000 in
def p16x_5049 : ck_Sum := ((0, 0, 0), 245, [.inr (.inr (.inl 226))], ([], [], [(226, 0, 0, ck_one 0)]), ([], []), [(.inr (some (.inl (ck_one 0))), 245, ([], [], []))])
set_option maxRecDepth 100000 in
theorem p16x_5049_e : ck_ok p1_O none [] [] 234 [] 76 p16x_5049 = true := by decide +kernel
theorem p16x_5049_s {X : Int → Int} {LX : Nat} : ck_Ok p1_O X LX 234 p16x_5049 := ck_ok_s (ck_E0) ck_X0 ck_l0 p16x_5049_e
set_option maxRecDepth 100000 in
def p16_F : ck_F := ([], [(3, 8, 0), (16, 8, 0), (29, 8, 0), (44, 8, 0), (57, 8, 0), (70, 8, 0), (83, 8, 0), (96, 8, 0), (109, 8, 0), (122, 8, 0), (135, 8, 0), (148, 8, 0), (161, 8, 0), (174, 8, 0), (187, 8, 0)], [(245, 0, 0, ck_one 0), (226, 26, 26, ck_one (-1)), (227, 11, 11, ck_one 2), (227, 10, 10, ck_one 10), (227, 1, 1, ck_one 40), (227, 0, 0, ck_one 3), (227, 2, 9, ck_one 0), (236, 0, 299, ck_one 0), (226, 0, 0, ck_one 0), (226, 17, 17, ck_one 0), (226, 18, 18, ck_one 0), (226, 19, 19, ck_one 0), (226, 20, 20, ck_one 0), (226, 21, 21, ck_one 0), (226, 22, 22, ck_one 0), (226, 23, 23, ck_one 0), (226, 29, 29, ck_one 0), (226, 30, 30, ck_one 0), (206, 8, 8, ck_one 0), (206, 7, 7, ck_one 0), (206, 5, 5, ck_one 0), (206, 4, 4, ck_one (-1)), (206, 3, 3, ck_one 0), (206, 2, 2, ck_one 0), (3, 6, 6, ck_one 0), (3, 3, 3, ck_one 2), (3, 2, 2, ck_one 10), (3, 1, 1, ck_one 40), (3, 0, 0, ck_one 3), (203, 0, 299, ck_one 0), (202, 0, 593, ck_one 0), (235, 0, 11999, ck_one 0)])
def p16_E : List (Nat × List ck_Sum) := [(166, [p16x_136, p16x_144, p16x_147, p16x_150, p16x_153, p16x_156, p16x_159, p16x_162, p16x_165, p16x_168, p16x_171, p16x_174, p16x_177, p16x_180, p16x_183, p16x_186, p16x_189, p16x_192, p16x_195, p16x_198, p16x_201, p16x_204, p16x_207, p16x_210, p16x_213, p16x_216, p16x_219, p16x_222, p16x_225, p16x_228, p16x_231, p16x_234, p16x_237, p16x_240, p16x_243, p16x_246, p16x_249, p16x_252, p16x_255, p16x_258, p16x_261, p16x_264, p16x_267, p16x_270, p16x_273, p16x_279, p16x_289, p16x_292, p16x_295, p16x_298, p16x_301, p16x_304, p16x_307, p16x_310, p16x_313, p16x_316, p16x_319, p16x_322, p16x_325, p16x_328, p16x_332, p16x_337, p16x_340, p16x_343, p16x_346, p16x_349, p16x_3396, p16x_5051, p16x_5055, p16x_5059, p16x_5064, p16x_5069, p16x_5072, p16x_5075, p16x_5078, p16x_5081, p16x_5084, p16x_5087, p16x_5090, p16x_5093, p16x_5096, p16x_5099, p16x_5102, p16x_5105, p16x_5108, p16x_5111, p16x_5114, p16x_5117, p16x_5120, p16x_5123, p16x_5128, p16x_5132, p16x_5135, p16x_5138, p16x_5141, p16x_5144, p16x_5147, p16x_5150, p16x_5153, p16x_5156, p16x_5159, p16x_5162, p16x_5165, p16x_5168, p16x_5171, p16x_5174, p16x_5177, p16x_5180, p16x_5183, p16x_5186, p16x_5189, p16x_5192, p16x_5195, p16x_5198, p16x_5201, p16x_5204, p16x_5207, p16x_5210, p16x_5213, p16x_5216, p16x_5219, p16x_5222, p16x_5225, p16x_5228, p16x_5231, p16x_5234, p16x_5237, p16x_5240, p16x_5243, p16x_5246, p16x_5249, p16x_5252, p16x_5255, p16x_5258, p16x_5261]), (325, [p16x_141, p16x_145, p16x_148, p16x_151, p16x_154, p16x_157, p16x_160, p16x_163, p16x_166, p16x_169, p16x_172, p16x_175, p16x_178, p16x_181, p16x_184, p16x_187, p16x_190, p16x_193, p16x_196, p16x_199, p16x_202, p16x_205, p16x_208, p16x_211, p16x_214, p16x_217, p16x_220, p16x_223, p16x_226, p16x_229, p16x_232, p16x_235, p16x_238, p16x_241, p16x_244, p16x_247, p16x_250, p16x_253, p16x_256, p16x_259, p16x_262, p16x_265, p16x_268, p16x_271, p16x_274, p16x_286, p16x_290, p16x_293, p16x_296, p16x_299, p16x_302, p16x_305, p16x_308, p16x_311, p16x_314, p16x_317, p16x_320, p16x_323, p16x_326, p16x_329, p16x_335, p16x_338, p16x_341, p16x_344, p16x_347, p16x_353, p16x_5048, p16x_5053, p16x_5057, p16x_5061, p16x_5067, p16x_5070, p16x_5073, p16x_5076, p16x_5079, p16x_5082, p16x_5085, p16x_5088, p16x_5091, p16x_5094, p16x_5097, p16x_5100, p16x_5103, p16x_5106, p16x_5109, p16x_5112, p16x_5115, p16x_5118, p16x_5121, p16x_5124, p16x_5130, p16x_5133, p16x_5136, p16x_5139, p16x_5142, p16x_5145, p16x_5148, p16x_5151, p16x_5154, p16x_5157, p16x_5160, p16x_5163, p16x_5166, p16x_5169, p16x_5172, p16x_5175, p16x_5178, p16x_5181, p16x_5184, p16x_5187, p16x_5190, p16x_5193, p16x_5196, p16x_5199, p16x_5202, p16x_5205, p16x_5208, p16x_5211, p16x_5214, p16x_5217, p16x_5220, p16x_5223, p16x_5226, p16x_5229, p16x_5232, p16x_5235, p16x_5238, p16x_5241, p16x_5244, p16x_5247, p16x_5250, p16x_5253, p16x_5256, p16x_5259, p16x_5262]), (234, [p16x_142, p16x_287, p16x_354, p16x_5049])]
theorem p16_h {X : Int → Int} {LX : Nat} : ck_OkE p1_O X LX p16_E := ck_E1 (ck_S1 p16x_136_s (ck_S1 p16x_144_s (ck_S1 p16x_147_s (ck_S1 p16x_150_s (ck_S1 p16x_153_s (ck_S1 p16x_156_s (ck_S1 p16x_159_s (ck_S1 p16x_162_s (ck_S1 p16x_165_s (ck_S1 p16x_168_s (ck_S1 p16x_171_s (ck_S1 p16x_174_s (ck_S1 p16x_177_s (ck_S1 p16x_180_s (ck_S1 p16x_183_s (ck_S1 p16x_186_s (ck_S1 p16x_189_s (ck_S1 p16x_192_s (ck_S1 p16x_195_s (ck_S1 p16x_198_s (ck_S1 p16x_201_s (ck_S1 p16x_204_s (ck_S1 p16x_207_s (ck_S1 p16x_210_s (ck_S1 p16x_213_s (ck_S1 p16x_216_s (ck_S1 p16x_219_s (ck_S1 p16x_222_s (ck_S1 p16x_225_s (ck_S1 p16x_228_s (ck_S1 p16x_231_s (ck_S1 p16x_234_s (ck_S1 p16x_237_s (ck_S1 p16x_240_s (ck_S1 p16x_243_s (ck_S1 p16x_246_s (ck_S1 p16x_249_s (ck_S1 p16x_252_s (ck_S1 p16x_255_s (ck_S1 p16x_258_s (ck_S1 p16x_261_s (ck_S1 p16x_264_s (ck_S1 p16x_267_s (ck_S1 p16x_270_s (ck_S1 p16x_273_s (ck_S1 p16x_279_s (ck_S1 p16x_289_s (ck_S1 p16x_292_s (ck_S1 p16x_295_s (ck_S1 p16x_298_s (ck_S1 p16x_301_s (ck_S1 p16x_304_s (ck_S1 p16x_307_s (ck_S1 p16x_310_s (ck_S1 p16x_313_s (ck_S1 p16x_316_s (ck_S1 p16x_319_s (ck_S1 p16x_322_s (ck_S1 p16x_325_s (ck_S1 p16x_328_s (ck_S1 p16x_332_s (ck_S1 p16x_337_s (ck_S1 p16x_340_s (ck_S1 p16x_343_s (ck_S1 p16x_346_s (ck_S1 p16x_349_s (ck_S1 p16x_3396_s (ck_S1 p16x_5051_s (ck_S1 p16x_5055_s (ck_S1 p16x_5059_s (ck_S1 p16x_5064_s (ck_S1 p16x_5069_s (ck_S1 p16x_5072_s (ck_S1 p16x_5075_s (ck_S1 p16x_5078_s (ck_S1 p16x_5081_s (ck_S1 p16x_5084_s (ck_S1 p16x_5087_s (ck_S1 p16x_5090_s (ck_S1 p16x_5093_s (ck_S1 p16x_5096_s (ck_S1 p16x_5099_s (ck_S1 p16x_5102_s (ck_S1 p16x_5105_s (ck_S1 p16x_5108_s (ck_S1 p16x_5111_s (ck_S1 p16x_5114_s (ck_S1 p16x_5117_s (ck_S1 p16x_5120_s (ck_S1 p16x_5123_s (ck_S1 p16x_5128_s (ck_S1 p16x_5132_s (ck_S1 p16x_5135_s (ck_S1 p16x_5138_s (ck_S1 p16x_5141_s (ck_S1 p16x_5144_s (ck_S1 p16x_5147_s (ck_S1 p16x_5150_s (ck_S1 p16x_5153_s (ck_S1 p16x_5156_s (ck_S1 p16x_5159_s (ck_S1 p16x_5162_s (ck_S1 p16x_5165_s (ck_S1 p16x_5168_s (ck_S1 p16x_5171_s (ck_S1 p16x_5174_s (ck_S1 p16x_5177_s (ck_S1 p16x_5180_s (ck_S1 p16x_5183_s (ck_S1 p16x_5186_s (ck_S1 p16x_5189_s (ck_S1 p16x_5192_s (ck_S1 p16x_5195_s (ck_S1 p16x_5198_s (ck_S1 p16x_5201_s (ck_S1 p16x_5204_s (ck_S1 p16x_5207_s (ck_S1 p16x_5210_s (ck_S1 p16x_5213_s (ck_S1 p16x_5216_s (ck_S1 p16x_5219_s (ck_S1 p16x_5222_s (ck_S1 p16x_5225_s (ck_S1 p16x_5228_s (ck_S1 p16x_5231_s (ck_S1 p16x_5234_s (ck_S1 p16x_5237_s (ck_S1 p16x_5240_s (ck_S1 p16x_5243_s (ck_S1 p16x_5246_s (ck_S1 p16x_5249_s (ck_S1 p16x_5252_s (ck_S1 p16x_5255_s (ck_S1 p16x_5258_s (ck_S1 p16x_5261_s ck_S0))))))))))))))))))))))))))))))))))))))))))))))))))))))))))))))))))))))))))))))))))))))))))))))))))))))))))))))))))))))))))))))))))))))) (ck_E1 (ck_S1 p16x_141_s (ck_S1 p16x_145_s (ck_S1 p16x_148_s (ck_S1 p16x_151_s (ck_S1 p16x_154_s (ck_S1 p16x_157_s (ck_S1 p16x_160_s (ck_S1 p16x_163_s (ck_S1 p16x_166_s (ck_S1 p16x_169_s (ck_S1 p16x_172_s (ck_S1 p16x_175_s (ck_S1 p16x_178_s (ck_S1 p16x_181_s (ck_S1 p16x_184_s (ck_S1 p16x_187_s (ck_S1 p16x_190_s (ck_S1 p16x_193_s (ck_S1 p16x_196_s (ck_S1 p16x_199_s (ck_S1 p16x_202_s (ck_S1 p16x_205_s (ck_S1 p16x_208_s (ck_S1 p16x_211_s (ck_S1 p16x_214_s (ck_S1 p16x_217_s (ck_S1 p16x_220_s (ck_S1 p16x_223_s (ck_S1 p16x_226_s (ck_S1 p16x_229_s (ck_S1 p16x_232_s (ck_S1 p16x_235_s (ck_S1 p16x_238_s (ck_S1 p16x_241_s (ck_S1 p16x_244_s (ck_S1 p16x_247_s (ck_S1 p16x_250_s (ck_S1 p16x_253_s (ck_S1 p16x_256_s (ck_S1 p16x_259_s (ck_S1 p16x_262_s (ck_S1 p16x_265_s (ck_S1 p16x_268_s (ck_S1 p16x_271_s (ck_S1 p16x_274_s (ck_S1 p16x_286_s (ck_S1 p16x_290_s (ck_S1 p16x_293_s (ck_S1 p16x_296_s (ck_S1 p16x_299_s (ck_S1 p16x_302_s (ck_S1 p16x_305_s (ck_S1 p16x_308_s (ck_S1 p16x_311_s (ck_S1 p16x_314_s (ck_S1 p16x_317_s (ck_S1 p16x_320_s (ck_S1 p16x_323_s (ck_S1 p16x_326_s (ck_S1 p16x_329_s (ck_S1 p16x_335_s (ck_S1 p16x_338_s (ck_S1 p16x_341_s (ck_S1 p16x_344_s (ck_S1 p16x_347_s (ck_S1 p16x_353_s (ck_S1 p16x_5048_s (ck_S1 p16x_5053_s (ck_S1 p16x_5057_s (ck_S1 p16x_5061_s (ck_S1 p16x_5067_s (ck_S1 p16x_5070_s (ck_S1 p16x_5073_s (ck_S1 p16x_5076_s (ck_S1 p16x_5079_s (ck_S1 p16x_5082_s (ck_S1 p16x_5085_s (ck_S1 p16x_5088_s (ck_S1 p16x_5091_s (ck_S1 p16x_5094_s (ck_S1 p16x_5097_s (ck_S1 p16x_5100_s (ck_S1 p16x_5103_s (ck_S1 p16x_5106_s (ck_S1 p16x_5109_s (ck_S1 p16x_5112_s (ck_S1 p16x_5115_s (ck_S1 p16x_5118_s (ck_S1 p16x_5121_s (ck_S1 p16x_5124_s (ck_S1 p16x_5130_s (ck_S1 p16x_5133_s (ck_S1 p16x_5136_s (ck_S1 p16x_5139_s (ck_S1 p16x_5142_s (ck_S1 p16x_5145_s (ck_S1 p16x_5148_s (ck_S1 p16x_5151_s (ck_S1 p16x_5154_s (ck_S1 p16x_5157_s (ck_S1 p16x_5160_s (ck_S1 p16x_5163_s (ck_S1 p16x_5166_s (ck_S1 p16x_5169_s (ck_S1 p16x_5172_s (ck_S1 p16x_5175_s (ck_S1 p16x_5178_s (ck_S1 p16x_5181_s (ck_S1 p16x_5184_s (ck_S1 p16x_5187_s (ck_S1 p16x_5190_s (ck_S1 p16x_5193_s (ck_S1 p16x_5196_s (ck_S1 p16x_5199_s (ck_S1 p16x_5202_s (ck_S1 p16x_5205_s (ck_S1 p16x_5208_s (ck_S1 p16x_5211_s (ck_S1 p16x_5214_s (ck_S1 p16x_5217_s (ck_S1 p16x_5220_s (ck_S1 p16x_5223_s (ck_S1 p16x_5226_s (ck_S1 p16x_5229_s (ck_S1 p16x_5232_s (ck_S1 p16x_5235_s (ck_S1 p16x_5238_s (ck_S1 p16x_5241_s (ck_S1 p16x_5244_s (ck_S1 p16x_5247_s (ck_S1 p16x_5250_s (ck_S1 p16x_5253_s (ck_S1 p16x_5256_s (ck_S1 p16x_5259_s (ck_S1 p16x_5262_s ck_S0))))))))))))))))))))))))))))))))))))))))))))))))))))))))))))))))))))))))))))))))))))))))))))))))))))))))))))))))))))))))))))))))))))))) (ck_E1 (ck_S1 p16x_142_s (ck_S1 p16x_287_s (ck_S1 p16x_354_s (ck_S1 p16x_5049_s ck_S0)))) ck_E0))
set_option maxRecDepth 100000 in
theorem p16_b : (ck_prod [(1, [((-2147483648), (-1)), (0, 2), (3, 2147483647)]), (2, [((-2147483648), (-1)), (0, 299), (300, 2147483647)]), (3, [((-2147483648), (-1)), (0, 299), (300, 2147483647)]), (4, [((-2147483648), (-1)), (0, 0), (1, 1), (2, 2), (3, 2147483647)])]).all (fun xf => ck_go p1_O (some 6) xf p16_E 370 280 245 p1_W p1_outs [] 192 false [] 1000 2000 1167 p1_L [] 245 p16_F) = true := by decide +kernel
theorem p16_s {X : Int → Int} {LX : Nat} (hLX : 6 = LX) (hX : ∀ j, gm_ir (X j)) {σ : Nat → Int} {L : gm_L} {K0 K : gm_K} {R0 R : gm_R} {M0 M : gm_M} (hS : ck_St p1_O σ p1_W 245 K0 R0 M0 p1_L [] p16_F L [] 245 K R M) : gm_Wp X LX 280 1000 2000 370 1167 L [] 245 K R M (ck_Q p1_O σ p1_W 245 K0 R0 M0 p1_outs) := ck_boxes p16_h hLX hX (by decide +kernel) p16_b hS
