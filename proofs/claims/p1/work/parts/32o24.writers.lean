/-! writers, on a new object: laid by wip/am/p1g.py. -/
set_option maxRecDepth 100000 in
def p24x_133 : ck_Sum := ((6, 1, 6), 245, [.inr (.inr (.inl 1)), .inl ((-2147483648), (-1), none), .inl (ck_one 3)], ([], [], []), ([], []), [(.inl 3, 245, ([], [], []))])
set_option maxRecDepth 100000 in
theorem p24x_133_e : ck_ok p1_O none [] [] 133 [] 76 p24x_133 = true := by decide +kernel
theorem p24x_133_s {X : Int → Int} {LX : Nat} : ck_Ok p1_O X LX 133 p24x_133 := ck_ok_s (ck_E0) ck_X0 ck_l0 p24x_133_e
set_option maxRecDepth 100000 in
def p24x_134 : ck_Sum := ((7, 1, 6), 245, [.inr (.inr (.inl 1)), .inl ((-2147483648), (-1), none)], ([], [], [(3, 0, 0, ck_one 3)]), ([], []), [(.inl 3, 245, ([], [], []))])
set_option maxRecDepth 100000 in
theorem p24x_134_e : ck_ok p1_O none [] [(133, [p24x_133])] 132 [] 82 p24x_134 = true := by decide +kernel
theorem p24x_134_s {X : Int → Int} {LX : Nat} : ck_Ok p1_O X LX 132 p24x_134 := ck_ok_s (ck_E1 (ck_S1 p24x_133_s ck_S0) ck_E0) ck_X0 ck_l0 p24x_134_e
set_option maxRecDepth 100000 in
def p24x_135 : ck_Sum := ((8, 1, 6), 245, [.inr (.inr (.inl 1)), .inl ((-2147483648), (-1), none), .inl ((-2147483648), (-1), none), .inl ((-2147483648), (-1), none)], ([], [], [(3, 0, 0, ck_one 3)]), ([], []), [(.inl 3, 245, ([], [], []))])
set_option maxRecDepth 100000 in
theorem p24x_135_e : ck_ok p1_O none [] [(132, [p24x_134])] 186 [] 76 p24x_135 = true := by decide +kernel
theorem p24x_135_s {X : Int → Int} {LX : Nat} : ck_Ok p1_O X LX 186 p24x_135 := ck_ok_s (ck_E1 (ck_S1 p24x_134_s ck_S0) ck_E0) ck_X0 ck_l0 p24x_135_e
set_option maxRecDepth 100000 in
def p24x_136 : ck_Sum := ((9, 1, 6), 245, [.inr (.inr (.inl 1)), .inl ((-2147483648), (-1), none), .inl ((-2147483648), (-1), none), .inl ((-2147483648), (-1), none), .inr (.inr (.inl 245))], ([], [], [(3, 0, 0, ck_one 3)]), ([], []), [(.inr (some (.inl (ck_one 1))), 245, ([], [], []))])
set_option maxRecDepth 100000 in
theorem p24x_136_e : ck_ok p1_O none [] [(186, [p24x_135])] 185 [] 90 p24x_136 = true := by decide +kernel
theorem p24x_136_s {X : Int → Int} {LX : Nat} : ck_Ok p1_O X LX 185 p24x_136 := ck_ok_s (ck_E1 (ck_S1 p24x_135_s ck_S0) ck_E0) ck_X0 ck_l0 p24x_136_e
set_option maxRecDepth 100000 in
def p24x_143 : ck_Sum := ((8, 1, 6), 245, [.inr (.inr (.inl 1)), .inl ((-2147483648), (-1), none), .inl ((-2147483648), (-1), none), .inl (0, 99, none)], ([], [], [(3, 0, 0, ck_one 3)]), ([], []), [(.inl 3, 245, ([], [], []))])
set_option maxRecDepth 100000 in
theorem p24x_143_e : ck_ok p1_O none [] [(132, [p24x_134])] 186 [] 76 p24x_143 = true := by decide +kernel
theorem p24x_143_s {X : Int → Int} {LX : Nat} : ck_Ok p1_O X LX 186 p24x_143 := ck_ok_s (ck_E1 (ck_S1 p24x_134_s ck_S0) ck_E0) ck_X0 ck_l0 p24x_143_e
set_option maxRecDepth 100000 in
def p24x_144 : ck_Sum := ((9, 1, 6), 245, [.inr (.inr (.inl 1)), .inl ((-2147483648), (-1), none), .inl ((-2147483648), (-1), none), .inl (0, 99, none), .inr (.inr (.inl 245))], ([], [], [(3, 0, 0, ck_one 3)]), ([], []), [(.inr (some (.inl (ck_one 1))), 245, ([], [], []))])
set_option maxRecDepth 100000 in
theorem p24x_144_e : ck_ok p1_O none [] [(186, [p24x_143])] 185 [] 90 p24x_144 = true := by decide +kernel
theorem p24x_144_s {X : Int → Int} {LX : Nat} : ck_Ok p1_O X LX 185 p24x_144 := ck_ok_s (ck_E1 (ck_S1 p24x_143_s ck_S0) ck_E0) ck_X0 ck_l0 p24x_144_e
set_option maxRecDepth 100000 in
def p24x_146 : ck_Sum := ((8, 1, 6), 245, [.inr (.inr (.inl 1)), .inl ((-2147483648), (-1), none), .inl ((-2147483648), (-1), none), .inl (100, 2147483647, none)], ([], [], [(3, 0, 0, ck_one 3)]), ([], []), [(.inl 3, 245, ([], [], []))])
set_option maxRecDepth 100000 in
theorem p24x_146_e : ck_ok p1_O none [] [(132, [p24x_134])] 186 [] 76 p24x_146 = true := by decide +kernel
theorem p24x_146_s {X : Int → Int} {LX : Nat} : ck_Ok p1_O X LX 186 p24x_146 := ck_ok_s (ck_E1 (ck_S1 p24x_134_s ck_S0) ck_E0) ck_X0 ck_l0 p24x_146_e
set_option maxRecDepth 100000 in
def p24x_147 : ck_Sum := ((9, 1, 6), 245, [.inr (.inr (.inl 1)), .inl ((-2147483648), (-1), none), .inl ((-2147483648), (-1), none), .inl (100, 2147483647, none), .inr (.inr (.inl 245))], ([], [], [(3, 0, 0, ck_one 3)]), ([], []), [(.inr (some (.inl (ck_one 1))), 245, ([], [], []))])
set_option maxRecDepth 100000 in
theorem p24x_147_e : ck_ok p1_O none [] [(186, [p24x_146])] 185 [] 90 p24x_147 = true := by decide +kernel
theorem p24x_147_s {X : Int → Int} {LX : Nat} : ck_Ok p1_O X LX 185 p24x_147 := ck_ok_s (ck_E1 (ck_S1 p24x_146_s ck_S0) ck_E0) ck_X0 ck_l0 p24x_147_e
set_option maxRecDepth 100000 in
def p24x_149 : ck_Sum := ((8, 1, 6), 245, [.inr (.inr (.inl 1)), .inl ((-2147483648), (-1), none), .inl (0, 299, none), .inl ((-2147483648), (-1), none)], ([], [], [(3, 0, 0, ck_one 3)]), ([], []), [(.inl 3, 245, ([], [], []))])
set_option maxRecDepth 100000 in
theorem p24x_149_e : ck_ok p1_O none [] [(132, [p24x_134])] 186 [] 76 p24x_149 = true := by decide +kernel
theorem p24x_149_s {X : Int → Int} {LX : Nat} : ck_Ok p1_O X LX 186 p24x_149 := ck_ok_s (ck_E1 (ck_S1 p24x_134_s ck_S0) ck_E0) ck_X0 ck_l0 p24x_149_e
set_option maxRecDepth 100000 in
def p24x_150 : ck_Sum := ((9, 1, 6), 245, [.inr (.inr (.inl 1)), .inl ((-2147483648), (-1), none), .inl (0, 299, none), .inl ((-2147483648), (-1), none), .inr (.inr (.inl 245))], ([], [], [(3, 0, 0, ck_one 3)]), ([], []), [(.inr (some (.inl (ck_one 1))), 245, ([], [], []))])
set_option maxRecDepth 100000 in
theorem p24x_150_e : ck_ok p1_O none [] [(186, [p24x_149])] 185 [] 90 p24x_150 = true := by decide +kernel
theorem p24x_150_s {X : Int → Int} {LX : Nat} : ck_Ok p1_O X LX 185 p24x_150 := ck_ok_s (ck_E1 (ck_S1 p24x_149_s ck_S0) ck_E0) ck_X0 ck_l0 p24x_150_e
set_option maxRecDepth 100000 in
def p24x_152 : ck_Sum := ((8, 1, 6), 245, [.inr (.inr (.inl 1)), .inl ((-2147483648), (-1), none), .inl (0, 299, none), .inl (0, 99, none)], ([], [], [(3, 0, 0, ck_one 3)]), ([], []), [(.inl 3, 245, ([], [], []))])
set_option maxRecDepth 100000 in
theorem p24x_152_e : ck_ok p1_O none [] [(132, [p24x_134])] 186 [] 76 p24x_152 = true := by decide +kernel
theorem p24x_152_s {X : Int → Int} {LX : Nat} : ck_Ok p1_O X LX 186 p24x_152 := ck_ok_s (ck_E1 (ck_S1 p24x_134_s ck_S0) ck_E0) ck_X0 ck_l0 p24x_152_e
set_option maxRecDepth 100000 in
def p24x_153 : ck_Sum := ((9, 1, 6), 245, [.inr (.inr (.inl 1)), .inl ((-2147483648), (-1), none), .inl (0, 299, none), .inl (0, 99, none), .inr (.inr (.inl 245))], ([], [], [(3, 0, 0, ck_one 3)]), ([], []), [(.inr (some (.inl (ck_one 1))), 245, ([], [], []))])
set_option maxRecDepth 100000 in
theorem p24x_153_e : ck_ok p1_O none [] [(186, [p24x_152])] 185 [] 90 p24x_153 = true := by decide +kernel
theorem p24x_153_s {X : Int → Int} {LX : Nat} : ck_Ok p1_O X LX 185 p24x_153 := ck_ok_s (ck_E1 (ck_S1 p24x_152_s ck_S0) ck_E0) ck_X0 ck_l0 p24x_153_e
set_option maxRecDepth 100000 in
def p24x_155 : ck_Sum := ((8, 1, 6), 245, [.inr (.inr (.inl 1)), .inl ((-2147483648), (-1), none), .inl (0, 299, none), .inl (100, 2147483647, none)], ([], [], [(3, 0, 0, ck_one 3)]), ([], []), [(.inl 3, 245, ([], [], []))])
set_option maxRecDepth 100000 in
theorem p24x_155_e : ck_ok p1_O none [] [(132, [p24x_134])] 186 [] 76 p24x_155 = true := by decide +kernel
theorem p24x_155_s {X : Int → Int} {LX : Nat} : ck_Ok p1_O X LX 186 p24x_155 := ck_ok_s (ck_E1 (ck_S1 p24x_134_s ck_S0) ck_E0) ck_X0 ck_l0 p24x_155_e
set_option maxRecDepth 100000 in
def p24x_156 : ck_Sum := ((9, 1, 6), 245, [.inr (.inr (.inl 1)), .inl ((-2147483648), (-1), none), .inl (0, 299, none), .inl (100, 2147483647, none), .inr (.inr (.inl 245))], ([], [], [(3, 0, 0, ck_one 3)]), ([], []), [(.inr (some (.inl (ck_one 1))), 245, ([], [], []))])
set_option maxRecDepth 100000 in
theorem p24x_156_e : ck_ok p1_O none [] [(186, [p24x_155])] 185 [] 90 p24x_156 = true := by decide +kernel
theorem p24x_156_s {X : Int → Int} {LX : Nat} : ck_Ok p1_O X LX 185 p24x_156 := ck_ok_s (ck_E1 (ck_S1 p24x_155_s ck_S0) ck_E0) ck_X0 ck_l0 p24x_156_e
set_option maxRecDepth 100000 in
def p24x_158 : ck_Sum := ((8, 1, 6), 245, [.inr (.inr (.inl 1)), .inl ((-2147483648), (-1), none), .inl (300, 2147483647, none), .inl ((-2147483648), (-1), none)], ([], [], [(3, 0, 0, ck_one 3)]), ([], []), [(.inl 3, 245, ([], [], []))])
set_option maxRecDepth 100000 in
theorem p24x_158_e : ck_ok p1_O none [] [(132, [p24x_134])] 186 [] 76 p24x_158 = true := by decide +kernel
theorem p24x_158_s {X : Int → Int} {LX : Nat} : ck_Ok p1_O X LX 186 p24x_158 := ck_ok_s (ck_E1 (ck_S1 p24x_134_s ck_S0) ck_E0) ck_X0 ck_l0 p24x_158_e
set_option maxRecDepth 100000 in
def p24x_159 : ck_Sum := ((9, 1, 6), 245, [.inr (.inr (.inl 1)), .inl ((-2147483648), (-1), none), .inl (300, 2147483647, none), .inl ((-2147483648), (-1), none), .inr (.inr (.inl 245))], ([], [], [(3, 0, 0, ck_one 3)]), ([], []), [(.inr (some (.inl (ck_one 1))), 245, ([], [], []))])
set_option maxRecDepth 100000 in
theorem p24x_159_e : ck_ok p1_O none [] [(186, [p24x_158])] 185 [] 90 p24x_159 = true := by decide +kernel
theorem p24x_159_s {X : Int → Int} {LX : Nat} : ck_Ok p1_O X LX 185 p24x_159 := ck_ok_s (ck_E1 (ck_S1 p24x_158_s ck_S0) ck_E0) ck_X0 ck_l0 p24x_159_e
set_option maxRecDepth 100000 in
def p24x_161 : ck_Sum := ((8, 1, 6), 245, [.inr (.inr (.inl 1)), .inl ((-2147483648), (-1), none), .inl (300, 2147483647, none), .inl (0, 99, none)], ([], [], [(3, 0, 0, ck_one 3)]), ([], []), [(.inl 3, 245, ([], [], []))])
set_option maxRecDepth 100000 in
theorem p24x_161_e : ck_ok p1_O none [] [(132, [p24x_134])] 186 [] 76 p24x_161 = true := by decide +kernel
theorem p24x_161_s {X : Int → Int} {LX : Nat} : ck_Ok p1_O X LX 186 p24x_161 := ck_ok_s (ck_E1 (ck_S1 p24x_134_s ck_S0) ck_E0) ck_X0 ck_l0 p24x_161_e
set_option maxRecDepth 100000 in
def p24x_162 : ck_Sum := ((9, 1, 6), 245, [.inr (.inr (.inl 1)), .inl ((-2147483648), (-1), none), .inl (300, 2147483647, none), .inl (0, 99, none), .inr (.inr (.inl 245))], ([], [], [(3, 0, 0, ck_one 3)]), ([], []), [(.inr (some (.inl (ck_one 1))), 245, ([], [], []))])
set_option maxRecDepth 100000 in
theorem p24x_162_e : ck_ok p1_O none [] [(186, [p24x_161])] 185 [] 90 p24x_162 = true := by decide +kernel
theorem p24x_162_s {X : Int → Int} {LX : Nat} : ck_Ok p1_O X LX 185 p24x_162 := ck_ok_s (ck_E1 (ck_S1 p24x_161_s ck_S0) ck_E0) ck_X0 ck_l0 p24x_162_e
set_option maxRecDepth 100000 in
def p24x_164 : ck_Sum := ((8, 1, 6), 245, [.inr (.inr (.inl 1)), .inl ((-2147483648), (-1), none), .inl (300, 2147483647, none), .inl (100, 2147483647, none)], ([], [], [(3, 0, 0, ck_one 3)]), ([], []), [(.inl 3, 245, ([], [], []))])
set_option maxRecDepth 100000 in
theorem p24x_164_e : ck_ok p1_O none [] [(132, [p24x_134])] 186 [] 76 p24x_164 = true := by decide +kernel
theorem p24x_164_s {X : Int → Int} {LX : Nat} : ck_Ok p1_O X LX 186 p24x_164 := ck_ok_s (ck_E1 (ck_S1 p24x_134_s ck_S0) ck_E0) ck_X0 ck_l0 p24x_164_e
set_option maxRecDepth 100000 in
def p24x_165 : ck_Sum := ((9, 1, 6), 245, [.inr (.inr (.inl 1)), .inl ((-2147483648), (-1), none), .inl (300, 2147483647, none), .inl (100, 2147483647, none), .inr (.inr (.inl 245))], ([], [], [(3, 0, 0, ck_one 3)]), ([], []), [(.inr (some (.inl (ck_one 1))), 245, ([], [], []))])
set_option maxRecDepth 100000 in
theorem p24x_165_e : ck_ok p1_O none [] [(186, [p24x_164])] 185 [] 90 p24x_165 = true := by decide +kernel
theorem p24x_165_s {X : Int → Int} {LX : Nat} : ck_Ok p1_O X LX 185 p24x_165 := ck_ok_s (ck_E1 (ck_S1 p24x_164_s ck_S0) ck_E0) ck_X0 ck_l0 p24x_165_e
set_option maxRecDepth 100000 in
def p24x_167 : ck_Sum := ((0, 0, 0), 245, [.inr (.inr (.inl 1)), .inl (0, 2, none), .inl (ck_one 3)], ([], [], []), ([], []), [(.inr none, 245, ([], [], []))])
set_option maxRecDepth 100000 in
theorem p24x_167_e : ck_ok p1_O none [] [] 133 [] 82 p24x_167 = true := by decide +kernel
theorem p24x_167_s {X : Int → Int} {LX : Nat} : ck_Ok p1_O X LX 133 p24x_167 := ck_ok_s (ck_E0) ck_X0 ck_l0 p24x_167_e
set_option maxRecDepth 100000 in
def p24x_168 : ck_Sum := ((1, 0, 0), 245, [.inr (.inr (.inl 1)), .inl (0, 2, none)], ([], [], [(3, 0, 0, ck_one 3)]), ([], []), [(.inr none, 245, ([], [], []))])
set_option maxRecDepth 100000 in
theorem p24x_168_e : ck_ok p1_O none [] [(133, [p24x_167])] 132 [] 84 p24x_168 = true := by decide +kernel
theorem p24x_168_s {X : Int → Int} {LX : Nat} : ck_Ok p1_O X LX 132 p24x_168 := ck_ok_s (ck_E1 (ck_S1 p24x_167_s ck_S0) ck_E0) ck_X0 ck_l0 p24x_168_e
set_option maxRecDepth 100000 in
def p24x_169 : ck_Sum := ((6, 1, 6), 245, [.inr (.inr (.inl 1)), .inl ((-2147483648), (-1), none)], ([], [], []), ([], []), [(.inl 0, 245, ([], [], []))])
set_option maxRecDepth 100000 in
theorem p24x_169_e : ck_ok p1_O none [] [] 129 [] 76 p24x_169 = true := by decide +kernel
theorem p24x_169_s {X : Int → Int} {LX : Nat} : ck_Ok p1_O X LX 129 p24x_169 := ck_ok_s (ck_E0) ck_X0 ck_l0 p24x_169_e
set_option maxRecDepth 100000 in
def p24x_170 : ck_Sum := ((7, 1, 6), 245, [.inr (.inr (.inl 1)), .inl ((-2147483648), (-1), none), .inl ((-2147483648), (-1), none)], ([], [], []), ([], []), [(.inl 0, 245, ([], [], []))])
set_option maxRecDepth 100000 in
theorem p24x_170_e : ck_ok p1_O none [] [(129, [p24x_169])] 187 [] 76 p24x_170 = true := by decide +kernel
theorem p24x_170_s {X : Int → Int} {LX : Nat} : ck_Ok p1_O X LX 187 p24x_170 := ck_ok_s (ck_E1 (ck_S1 p24x_169_s ck_S0) ck_E0) ck_X0 ck_l0 p24x_170_e
set_option maxRecDepth 100000 in
def p24x_171 : ck_Sum := ((8, 1, 6), 245, [.inr (.inr (.inl 1)), .inl (0, 2, none), .inl ((-2147483648), (-1), none), .inl ((-2147483648), (-1), none)], ([], [], [(3, 0, 0, ck_one 3)]), ([], []), [(.inl 0, 245, ([], [], []))])
set_option maxRecDepth 100000 in
theorem p24x_171_e : ck_ok p1_O none [] [(132, [p24x_168]), (187, [p24x_170])] 186 [] 84 p24x_171 = true := by decide +kernel
theorem p24x_171_s {X : Int → Int} {LX : Nat} : ck_Ok p1_O X LX 186 p24x_171 := ck_ok_s (ck_E1 (ck_S1 p24x_168_s ck_S0) (ck_E1 (ck_S1 p24x_170_s ck_S0) ck_E0)) ck_X0 ck_l0 p24x_171_e
set_option maxRecDepth 100000 in
def p24x_172 : ck_Sum := ((9, 1, 6), 245, [.inr (.inr (.inl 1)), .inl (0, 2, none), .inl ((-2147483648), (-1), none), .inl ((-2147483648), (-1), none), .inr (.inr (.inl 245))], ([], [], [(3, 0, 0, ck_one 3)]), ([], []), [(.inr (some (.inl (ck_one 2))), 245, ([], [], []))])
set_option maxRecDepth 100000 in
theorem p24x_172_e : ck_ok p1_O none [] [(186, [p24x_171])] 185 [] 90 p24x_172 = true := by decide +kernel
theorem p24x_172_s {X : Int → Int} {LX : Nat} : ck_Ok p1_O X LX 185 p24x_172 := ck_ok_s (ck_E1 (ck_S1 p24x_171_s ck_S0) ck_E0) ck_X0 ck_l0 p24x_172_e
set_option maxRecDepth 100000 in
def p24x_181 : ck_Sum := ((7, 1, 6), 245, [.inr (.inr (.inl 1)), .inl ((-2147483648), (-1), none), .inl (0, 99, none)], ([], [], []), ([], []), [(.inl 0, 245, ([], [], []))])
set_option maxRecDepth 100000 in
theorem p24x_181_e : ck_ok p1_O none [] [(129, [p24x_169])] 187 [] 76 p24x_181 = true := by decide +kernel
theorem p24x_181_s {X : Int → Int} {LX : Nat} : ck_Ok p1_O X LX 187 p24x_181 := ck_ok_s (ck_E1 (ck_S1 p24x_169_s ck_S0) ck_E0) ck_X0 ck_l0 p24x_181_e
set_option maxRecDepth 100000 in
def p24x_182 : ck_Sum := ((8, 1, 6), 245, [.inr (.inr (.inl 1)), .inl (0, 2, none), .inl ((-2147483648), (-1), none), .inl (0, 99, none)], ([], [], [(3, 0, 0, ck_one 3)]), ([], []), [(.inl 0, 245, ([], [], []))])
set_option maxRecDepth 100000 in
theorem p24x_182_e : ck_ok p1_O none [] [(132, [p24x_168]), (187, [p24x_181])] 186 [] 84 p24x_182 = true := by decide +kernel
theorem p24x_182_s {X : Int → Int} {LX : Nat} : ck_Ok p1_O X LX 186 p24x_182 := ck_ok_s (ck_E1 (ck_S1 p24x_168_s ck_S0) (ck_E1 (ck_S1 p24x_181_s ck_S0) ck_E0)) ck_X0 ck_l0 p24x_182_e
set_option maxRecDepth 100000 in
def p24x_183 : ck_Sum := ((9, 1, 6), 245, [.inr (.inr (.inl 1)), .inl (0, 2, none), .inl ((-2147483648), (-1), none), .inl (0, 99, none), .inr (.inr (.inl 245))], ([], [], [(3, 0, 0, ck_one 3)]), ([], []), [(.inr (some (.inl (ck_one 2))), 245, ([], [], []))])
set_option maxRecDepth 100000 in
theorem p24x_183_e : ck_ok p1_O none [] [(186, [p24x_182])] 185 [] 90 p24x_183 = true := by decide +kernel
theorem p24x_183_s {X : Int → Int} {LX : Nat} : ck_Ok p1_O X LX 185 p24x_183 := ck_ok_s (ck_E1 (ck_S1 p24x_182_s ck_S0) ck_E0) ck_X0 ck_l0 p24x_183_e
set_option maxRecDepth 100000 in
def p24x_185 : ck_Sum := ((7, 1, 6), 245, [.inr (.inr (.inl 1)), .inl ((-2147483648), (-1), none), .inl (100, 2147483647, none)], ([], [], []), ([], []), [(.inl 0, 245, ([], [], []))])
set_option maxRecDepth 100000 in
theorem p24x_185_e : ck_ok p1_O none [] [(129, [p24x_169])] 187 [] 76 p24x_185 = true := by decide +kernel
theorem p24x_185_s {X : Int → Int} {LX : Nat} : ck_Ok p1_O X LX 187 p24x_185 := ck_ok_s (ck_E1 (ck_S1 p24x_169_s ck_S0) ck_E0) ck_X0 ck_l0 p24x_185_e
set_option maxRecDepth 100000 in
def p24x_186 : ck_Sum := ((8, 1, 6), 245, [.inr (.inr (.inl 1)), .inl (0, 2, none), .inl ((-2147483648), (-1), none), .inl (100, 2147483647, none)], ([], [], [(3, 0, 0, ck_one 3)]), ([], []), [(.inl 0, 245, ([], [], []))])
set_option maxRecDepth 100000 in
theorem p24x_186_e : ck_ok p1_O none [] [(132, [p24x_168]), (187, [p24x_185])] 186 [] 84 p24x_186 = true := by decide +kernel
theorem p24x_186_s {X : Int → Int} {LX : Nat} : ck_Ok p1_O X LX 186 p24x_186 := ck_ok_s (ck_E1 (ck_S1 p24x_168_s ck_S0) (ck_E1 (ck_S1 p24x_185_s ck_S0) ck_E0)) ck_X0 ck_l0 p24x_186_e
set_option maxRecDepth 100000 in
def p24x_187 : ck_Sum := ((9, 1, 6), 245, [.inr (.inr (.inl 1)), .inl (0, 2, none), .inl ((-2147483648), (-1), none), .inl (100, 2147483647, none), .inr (.inr (.inl 245))], ([], [], [(3, 0, 0, ck_one 3)]), ([], []), [(.inr (some (.inl (ck_one 2))), 245, ([], [], []))])
set_option maxRecDepth 100000 in
theorem p24x_187_e : ck_ok p1_O none [] [(186, [p24x_186])] 185 [] 90 p24x_187 = true := by decide +kernel
theorem p24x_187_s {X : Int → Int} {LX : Nat} : ck_Ok p1_O X LX 185 p24x_187 := ck_ok_s (ck_E1 (ck_S1 p24x_186_s ck_S0) ck_E0) ck_X0 ck_l0 p24x_187_e
set_option maxRecDepth 100000 in
def p24x_189 : ck_Sum := ((0, 0, 0), 245, [.inr (.inr (.inl 1)), .inl (0, 299, none)], ([], [], []), ([], []), [(.inr none, 245, ([], [], []))])
set_option maxRecDepth 100000 in
theorem p24x_189_e : ck_ok p1_O none [] [] 129 [] 82 p24x_189 = true := by decide +kernel
theorem p24x_189_s {X : Int → Int} {LX : Nat} : ck_Ok p1_O X LX 129 p24x_189 := ck_ok_s (ck_E0) ck_X0 ck_l0 p24x_189_e
set_option maxRecDepth 100000 in
def p24x_190 : ck_Sum := ((6, 1, 6), 245, [.inr (.inr (.inl 1)), .inl (0, 299, none), .inl ((-2147483648), (-1), none)], ([], [], []), ([], []), [(.inl 0, 245, ([], [], []))])
set_option maxRecDepth 100000 in
theorem p24x_190_e : ck_ok p1_O none [] [(129, [p24x_189])] 187 [] 82 p24x_190 = true := by decide +kernel
theorem p24x_190_s {X : Int → Int} {LX : Nat} : ck_Ok p1_O X LX 187 p24x_190 := ck_ok_s (ck_E1 (ck_S1 p24x_189_s ck_S0) ck_E0) ck_X0 ck_l0 p24x_190_e
set_option maxRecDepth 100000 in
def p24x_191 : ck_Sum := ((7, 1, 6), 245, [.inr (.inr (.inl 1)), .inl (0, 2, none), .inl (0, 299, none), .inl ((-2147483648), (-1), none)], ([], [], [(3, 0, 0, ck_one 3)]), ([], []), [(.inl 0, 245, ([], [], []))])
set_option maxRecDepth 100000 in
theorem p24x_191_e : ck_ok p1_O none [] [(132, [p24x_168]), (187, [p24x_190])] 186 [] 84 p24x_191 = true := by decide +kernel
theorem p24x_191_s {X : Int → Int} {LX : Nat} : ck_Ok p1_O X LX 186 p24x_191 := ck_ok_s (ck_E1 (ck_S1 p24x_168_s ck_S0) (ck_E1 (ck_S1 p24x_190_s ck_S0) ck_E0)) ck_X0 ck_l0 p24x_191_e
set_option maxRecDepth 100000 in
def p24x_192 : ck_Sum := ((8, 1, 6), 245, [.inr (.inr (.inl 1)), .inl (0, 2, none), .inl (0, 299, none), .inl ((-2147483648), (-1), none), .inr (.inr (.inl 245))], ([], [], [(3, 0, 0, ck_one 3)]), ([], []), [(.inr (some (.inl (ck_one 2))), 245, ([], [], []))])
set_option maxRecDepth 100000 in
theorem p24x_192_e : ck_ok p1_O none [] [(186, [p24x_191])] 185 [] 90 p24x_192 = true := by decide +kernel
theorem p24x_192_s {X : Int → Int} {LX : Nat} : ck_Ok p1_O X LX 185 p24x_192 := ck_ok_s (ck_E1 (ck_S1 p24x_191_s ck_S0) ck_E0) ck_X0 ck_l0 p24x_192_e
set_option maxRecDepth 100000 in
def p24x_197 : ck_Sum := ((1, 0, 0), 245, [.inr (.inr (.inl 1)), .inl (0, 299, none), .inl (0, 99, none)], ([], [], []), ([], []), [(.inr none, 245, ([], [], []))])
set_option maxRecDepth 100000 in
theorem p24x_197_e : ck_ok p1_O none [] [(129, [p24x_189])] 187 [] 88 p24x_197 = true := by decide +kernel
theorem p24x_197_s {X : Int → Int} {LX : Nat} : ck_Ok p1_O X LX 187 p24x_197 := ck_ok_s (ck_E1 (ck_S1 p24x_189_s ck_S0) ck_E0) ck_X0 ck_l0 p24x_197_e
set_option maxRecDepth 100000 in
def p24x_198 : ck_Sum := ((0, 0, 0), 245, [.inr (.inr (.inl 8))], ([], [], [(8, 3, 3, ck_one 0)]), ([], []), [(.inr (some (.inl (ck_one 0))), 245, ([], [], []))])
set_option maxRecDepth 100000 in
theorem p24x_198_e : ck_ok p1_O none [] [] 9 [] 76 p24x_198 = true := by decide +kernel
theorem p24x_198_s {X : Int → Int} {LX : Nat} : ck_Ok p1_O X LX 9 p24x_198 := ck_ok_s (ck_E0) ck_X0 ck_l0 p24x_198_e
set_option maxRecDepth 100000 in
def p24x_199 : ck_Sum := ((2, 0, 0), 245, [.inr (.inr (.inl 1)), .inl (0, 2, none), .inl (0, 299, none), .inl (0, 99, none)], ([], [], [(8, 3, 3, ck_one 0), (3, 0, 0, ck_one 3)]), ([], []), [(.inr (some (.inl (ck_one 0))), 245, ([], [], []))])
set_option maxRecDepth 100000 in
theorem p24x_199_e : ck_ok p1_O none [] [(132, [p24x_168]), (187, [p24x_197]), (9, [p24x_198])] 186 [(17, [some (.inr (.inr (.inl 1))), some (.inl (0, 2, none)), some (.inl (0, 299, none)), some (.inl (0, 99, none)), some (.inl (ck_one 0)), some (.inl (ck_one 0))], ([], [], [(8, 3, 3, ck_one 0), (3, 0, 0, ck_one 3)]), 100, .inl 4, true)] 138 p24x_199 = true := by decide +kernel
theorem p24x_199_s {X : Int → Int} {LX : Nat} : ck_Ok p1_O X LX 186 p24x_199 := ck_ok_s (ck_E1 (ck_S1 p24x_168_s ck_S0) (ck_E1 (ck_S1 p24x_197_s ck_S0) (ck_E1 (ck_S1 p24x_198_s ck_S0) ck_E0))) ck_X0 ck_l0 p24x_199_e
set_option maxRecDepth 100000 in
def p24x_200 : ck_Sum := ((3, 0, 0), 245, [.inr (.inr (.inl 1)), .inl (0, 2, none), .inl (0, 299, none), .inl (0, 99, none), .inr (.inr (.inl 245))], ([], [], [(8, 3, 3, ck_one 0), (3, 0, 0, ck_one 3)]), ([(245, 0, 0)], []), [(.inr (some (.inl (ck_one 0))), 245, ([], [], [(245, 0, 0, ck_one 0)]))])
set_option maxRecDepth 100000 in
theorem p24x_200_e : ck_ok p1_O none [] [(186, [p24x_199])] 185 [] 94 p24x_200 = true := by decide +kernel
theorem p24x_200_s {X : Int → Int} {LX : Nat} : ck_Ok p1_O X LX 185 p24x_200 := ck_ok_s (ck_E1 (ck_S1 p24x_199_s ck_S0) ck_E0) ck_X0 ck_l0 p24x_200_e
set_option maxRecDepth 100000 in
def p24x_206 : ck_Sum := ((6, 1, 6), 245, [.inr (.inr (.inl 1)), .inl (0, 299, none), .inl (100, 2147483647, none)], ([], [], []), ([], []), [(.inl 0, 245, ([], [], []))])
set_option maxRecDepth 100000 in
theorem p24x_206_e : ck_ok p1_O none [] [(129, [p24x_189])] 187 [] 88 p24x_206 = true := by decide +kernel
theorem p24x_206_s {X : Int → Int} {LX : Nat} : ck_Ok p1_O X LX 187 p24x_206 := ck_ok_s (ck_E1 (ck_S1 p24x_189_s ck_S0) ck_E0) ck_X0 ck_l0 p24x_206_e
set_option maxRecDepth 100000 in
def p24x_207 : ck_Sum := ((7, 1, 6), 245, [.inr (.inr (.inl 1)), .inl (0, 2, none), .inl (0, 299, none), .inl (100, 2147483647, none)], ([], [], [(3, 0, 0, ck_one 3)]), ([], []), [(.inl 0, 245, ([], [], []))])
set_option maxRecDepth 100000 in
theorem p24x_207_e : ck_ok p1_O none [] [(132, [p24x_168]), (187, [p24x_206])] 186 [] 84 p24x_207 = true := by decide +kernel
theorem p24x_207_s {X : Int → Int} {LX : Nat} : ck_Ok p1_O X LX 186 p24x_207 := ck_ok_s (ck_E1 (ck_S1 p24x_168_s ck_S0) (ck_E1 (ck_S1 p24x_206_s ck_S0) ck_E0)) ck_X0 ck_l0 p24x_207_e
set_option maxRecDepth 100000 in
def p24x_208 : ck_Sum := ((8, 1, 6), 245, [.inr (.inr (.inl 1)), .inl (0, 2, none), .inl (0, 299, none), .inl (100, 2147483647, none), .inr (.inr (.inl 245))], ([], [], [(3, 0, 0, ck_one 3)]), ([], []), [(.inr (some (.inl (ck_one 2))), 245, ([], [], []))])
set_option maxRecDepth 100000 in
theorem p24x_208_e : ck_ok p1_O none [] [(186, [p24x_207])] 185 [] 90 p24x_208 = true := by decide +kernel
theorem p24x_208_s {X : Int → Int} {LX : Nat} : ck_Ok p1_O X LX 185 p24x_208 := ck_ok_s (ck_E1 (ck_S1 p24x_207_s ck_S0) ck_E0) ck_X0 ck_l0 p24x_208_e
set_option maxRecDepth 100000 in
def p24x_211 : ck_Sum := ((6, 1, 6), 245, [.inr (.inr (.inl 1)), .inl (300, 2147483647, none)], ([], [], []), ([], []), [(.inl 0, 245, ([], [], []))])
set_option maxRecDepth 100000 in
theorem p24x_211_e : ck_ok p1_O none [] [] 129 [] 82 p24x_211 = true := by decide +kernel
theorem p24x_211_s {X : Int → Int} {LX : Nat} : ck_Ok p1_O X LX 129 p24x_211 := ck_ok_s (ck_E0) ck_X0 ck_l0 p24x_211_e
set_option maxRecDepth 100000 in
def p24x_212 : ck_Sum := ((7, 1, 6), 245, [.inr (.inr (.inl 1)), .inl (300, 2147483647, none), .inl ((-2147483648), (-1), none)], ([], [], []), ([], []), [(.inl 0, 245, ([], [], []))])
set_option maxRecDepth 100000 in
theorem p24x_212_e : ck_ok p1_O none [] [(129, [p24x_211])] 187 [] 76 p24x_212 = true := by decide +kernel
theorem p24x_212_s {X : Int → Int} {LX : Nat} : ck_Ok p1_O X LX 187 p24x_212 := ck_ok_s (ck_E1 (ck_S1 p24x_211_s ck_S0) ck_E0) ck_X0 ck_l0 p24x_212_e
set_option maxRecDepth 100000 in
def p24x_213 : ck_Sum := ((8, 1, 6), 245, [.inr (.inr (.inl 1)), .inl (0, 2, none), .inl (300, 2147483647, none), .inl ((-2147483648), (-1), none)], ([], [], [(3, 0, 0, ck_one 3)]), ([], []), [(.inl 0, 245, ([], [], []))])
set_option maxRecDepth 100000 in
theorem p24x_213_e : ck_ok p1_O none [] [(132, [p24x_168]), (187, [p24x_212])] 186 [] 84 p24x_213 = true := by decide +kernel
theorem p24x_213_s {X : Int → Int} {LX : Nat} : ck_Ok p1_O X LX 186 p24x_213 := ck_ok_s (ck_E1 (ck_S1 p24x_168_s ck_S0) (ck_E1 (ck_S1 p24x_212_s ck_S0) ck_E0)) ck_X0 ck_l0 p24x_213_e
set_option maxRecDepth 100000 in
def p24x_214 : ck_Sum := ((9, 1, 6), 245, [.inr (.inr (.inl 1)), .inl (0, 2, none), .inl (300, 2147483647, none), .inl ((-2147483648), (-1), none), .inr (.inr (.inl 245))], ([], [], [(3, 0, 0, ck_one 3)]), ([], []), [(.inr (some (.inl (ck_one 2))), 245, ([], [], []))])
set_option maxRecDepth 100000 in
theorem p24x_214_e : ck_ok p1_O none [] [(186, [p24x_213])] 185 [] 90 p24x_214 = true := by decide +kernel
theorem p24x_214_s {X : Int → Int} {LX : Nat} : ck_Ok p1_O X LX 185 p24x_214 := ck_ok_s (ck_E1 (ck_S1 p24x_213_s ck_S0) ck_E0) ck_X0 ck_l0 p24x_214_e
set_option maxRecDepth 100000 in
def p24x_218 : ck_Sum := ((7, 1, 6), 245, [.inr (.inr (.inl 1)), .inl (300, 2147483647, none), .inl (0, 99, none)], ([], [], []), ([], []), [(.inl 0, 245, ([], [], []))])
set_option maxRecDepth 100000 in
theorem p24x_218_e : ck_ok p1_O none [] [(129, [p24x_211])] 187 [] 76 p24x_218 = true := by decide +kernel
theorem p24x_218_s {X : Int → Int} {LX : Nat} : ck_Ok p1_O X LX 187 p24x_218 := ck_ok_s (ck_E1 (ck_S1 p24x_211_s ck_S0) ck_E0) ck_X0 ck_l0 p24x_218_e
set_option maxRecDepth 100000 in
def p24x_219 : ck_Sum := ((8, 1, 6), 245, [.inr (.inr (.inl 1)), .inl (0, 2, none), .inl (300, 2147483647, none), .inl (0, 99, none)], ([], [], [(3, 0, 0, ck_one 3)]), ([], []), [(.inl 0, 245, ([], [], []))])
set_option maxRecDepth 100000 in
theorem p24x_219_e : ck_ok p1_O none [] [(132, [p24x_168]), (187, [p24x_218])] 186 [] 84 p24x_219 = true := by decide +kernel
theorem p24x_219_s {X : Int → Int} {LX : Nat} : ck_Ok p1_O X LX 186 p24x_219 := ck_ok_s (ck_E1 (ck_S1 p24x_168_s ck_S0) (ck_E1 (ck_S1 p24x_218_s ck_S0) ck_E0)) ck_X0 ck_l0 p24x_219_e
set_option maxRecDepth 100000 in
def p24x_220 : ck_Sum := ((9, 1, 6), 245, [.inr (.inr (.inl 1)), .inl (0, 2, none), .inl (300, 2147483647, none), .inl (0, 99, none), .inr (.inr (.inl 245))], ([], [], [(3, 0, 0, ck_one 3)]), ([], []), [(.inr (some (.inl (ck_one 2))), 245, ([], [], []))])
set_option maxRecDepth 100000 in
theorem p24x_220_e : ck_ok p1_O none [] [(186, [p24x_219])] 185 [] 90 p24x_220 = true := by decide +kernel
theorem p24x_220_s {X : Int → Int} {LX : Nat} : ck_Ok p1_O X LX 185 p24x_220 := ck_ok_s (ck_E1 (ck_S1 p24x_219_s ck_S0) ck_E0) ck_X0 ck_l0 p24x_220_e
set_option maxRecDepth 100000 in
def p24x_222 : ck_Sum := ((7, 1, 6), 245, [.inr (.inr (.inl 1)), .inl (300, 2147483647, none), .inl (100, 2147483647, none)], ([], [], []), ([], []), [(.inl 0, 245, ([], [], []))])
set_option maxRecDepth 100000 in
theorem p24x_222_e : ck_ok p1_O none [] [(129, [p24x_211])] 187 [] 76 p24x_222 = true := by decide +kernel
theorem p24x_222_s {X : Int → Int} {LX : Nat} : ck_Ok p1_O X LX 187 p24x_222 := ck_ok_s (ck_E1 (ck_S1 p24x_211_s ck_S0) ck_E0) ck_X0 ck_l0 p24x_222_e
set_option maxRecDepth 100000 in
def p24x_223 : ck_Sum := ((8, 1, 6), 245, [.inr (.inr (.inl 1)), .inl (0, 2, none), .inl (300, 2147483647, none), .inl (100, 2147483647, none)], ([], [], [(3, 0, 0, ck_one 3)]), ([], []), [(.inl 0, 245, ([], [], []))])
set_option maxRecDepth 100000 in
theorem p24x_223_e : ck_ok p1_O none [] [(132, [p24x_168]), (187, [p24x_222])] 186 [] 84 p24x_223 = true := by decide +kernel
theorem p24x_223_s {X : Int → Int} {LX : Nat} : ck_Ok p1_O X LX 186 p24x_223 := ck_ok_s (ck_E1 (ck_S1 p24x_168_s ck_S0) (ck_E1 (ck_S1 p24x_222_s ck_S0) ck_E0)) ck_X0 ck_l0 p24x_223_e
set_option maxRecDepth 100000 in
def p24x_224 : ck_Sum := ((9, 1, 6), 245, [.inr (.inr (.inl 1)), .inl (0, 2, none), .inl (300, 2147483647, none), .inl (100, 2147483647, none), .inr (.inr (.inl 245))], ([], [], [(3, 0, 0, ck_one 3)]), ([], []), [(.inr (some (.inl (ck_one 2))), 245, ([], [], []))])
set_option maxRecDepth 100000 in
theorem p24x_224_e : ck_ok p1_O none [] [(186, [p24x_223])] 185 [] 90 p24x_224 = true := by decide +kernel
theorem p24x_224_s {X : Int → Int} {LX : Nat} : ck_Ok p1_O X LX 185 p24x_224 := ck_ok_s (ck_E1 (ck_S1 p24x_223_s ck_S0) ck_E0) ck_X0 ck_l0 p24x_224_e
set_option maxRecDepth 100000 in
def p24x_226 : ck_Sum := ((6, 1, 6), 245, [.inr (.inr (.inl 1)), .inl (3, 2147483647, none), .inl (ck_one 3)], ([], [], []), ([], []), [(.inl 3, 245, ([], [], []))])
set_option maxRecDepth 100000 in
theorem p24x_226_e : ck_ok p1_O none [] [] 133 [] 82 p24x_226 = true := by decide +kernel
theorem p24x_226_s {X : Int → Int} {LX : Nat} : ck_Ok p1_O X LX 133 p24x_226 := ck_ok_s (ck_E0) ck_X0 ck_l0 p24x_226_e
set_option maxRecDepth 100000 in
def p24x_227 : ck_Sum := ((7, 1, 6), 245, [.inr (.inr (.inl 1)), .inl (3, 2147483647, none)], ([], [], [(3, 0, 0, ck_one 3)]), ([], []), [(.inl 3, 245, ([], [], []))])
set_option maxRecDepth 100000 in
theorem p24x_227_e : ck_ok p1_O none [] [(133, [p24x_226])] 132 [] 82 p24x_227 = true := by decide +kernel
theorem p24x_227_s {X : Int → Int} {LX : Nat} : ck_Ok p1_O X LX 132 p24x_227 := ck_ok_s (ck_E1 (ck_S1 p24x_226_s ck_S0) ck_E0) ck_X0 ck_l0 p24x_227_e
set_option maxRecDepth 100000 in
def p24x_228 : ck_Sum := ((8, 1, 6), 245, [.inr (.inr (.inl 1)), .inl (3, 2147483647, none), .inl ((-2147483648), (-1), none), .inl ((-2147483648), (-1), none)], ([], [], [(3, 0, 0, ck_one 3)]), ([], []), [(.inl 3, 245, ([], [], []))])
set_option maxRecDepth 100000 in
theorem p24x_228_e : ck_ok p1_O none [] [(132, [p24x_227])] 186 [] 76 p24x_228 = true := by decide +kernel
theorem p24x_228_s {X : Int → Int} {LX : Nat} : ck_Ok p1_O X LX 186 p24x_228 := ck_ok_s (ck_E1 (ck_S1 p24x_227_s ck_S0) ck_E0) ck_X0 ck_l0 p24x_228_e
set_option maxRecDepth 100000 in
def p24x_229 : ck_Sum := ((9, 1, 6), 245, [.inr (.inr (.inl 1)), .inl (3, 2147483647, none), .inl ((-2147483648), (-1), none), .inl ((-2147483648), (-1), none), .inr (.inr (.inl 245))], ([], [], [(3, 0, 0, ck_one 3)]), ([], []), [(.inr (some (.inl (ck_one 1))), 245, ([], [], []))])
set_option maxRecDepth 100000 in
theorem p24x_229_e : ck_ok p1_O none [] [(186, [p24x_228])] 185 [] 90 p24x_229 = true := by decide +kernel
theorem p24x_229_s {X : Int → Int} {LX : Nat} : ck_Ok p1_O X LX 185 p24x_229 := ck_ok_s (ck_E1 (ck_S1 p24x_228_s ck_S0) ck_E0) ck_X0 ck_l0 p24x_229_e
set_option maxRecDepth 100000 in
def p24x_233 : ck_Sum := ((8, 1, 6), 245, [.inr (.inr (.inl 1)), .inl (3, 2147483647, none), .inl ((-2147483648), (-1), none), .inl (0, 99, none)], ([], [], [(3, 0, 0, ck_one 3)]), ([], []), [(.inl 3, 245, ([], [], []))])
set_option maxRecDepth 100000 in
theorem p24x_233_e : ck_ok p1_O none [] [(132, [p24x_227])] 186 [] 76 p24x_233 = true := by decide +kernel
theorem p24x_233_s {X : Int → Int} {LX : Nat} : ck_Ok p1_O X LX 186 p24x_233 := ck_ok_s (ck_E1 (ck_S1 p24x_227_s ck_S0) ck_E0) ck_X0 ck_l0 p24x_233_e
set_option maxRecDepth 100000 in
def p24x_234 : ck_Sum := ((9, 1, 6), 245, [.inr (.inr (.inl 1)), .inl (3, 2147483647, none), .inl ((-2147483648), (-1), none), .inl (0, 99, none), .inr (.inr (.inl 245))], ([], [], [(3, 0, 0, ck_one 3)]), ([], []), [(.inr (some (.inl (ck_one 1))), 245, ([], [], []))])
set_option maxRecDepth 100000 in
theorem p24x_234_e : ck_ok p1_O none [] [(186, [p24x_233])] 185 [] 90 p24x_234 = true := by decide +kernel
theorem p24x_234_s {X : Int → Int} {LX : Nat} : ck_Ok p1_O X LX 185 p24x_234 := ck_ok_s (ck_E1 (ck_S1 p24x_233_s ck_S0) ck_E0) ck_X0 ck_l0 p24x_234_e
set_option maxRecDepth 100000 in
def p24x_236 : ck_Sum := ((8, 1, 6), 245, [.inr (.inr (.inl 1)), .inl (3, 2147483647, none), .inl ((-2147483648), (-1), none), .inl (100, 2147483647, none)], ([], [], [(3, 0, 0, ck_one 3)]), ([], []), [(.inl 3, 245, ([], [], []))])
set_option maxRecDepth 100000 in
theorem p24x_236_e : ck_ok p1_O none [] [(132, [p24x_227])] 186 [] 76 p24x_236 = true := by decide +kernel
theorem p24x_236_s {X : Int → Int} {LX : Nat} : ck_Ok p1_O X LX 186 p24x_236 := ck_ok_s (ck_E1 (ck_S1 p24x_227_s ck_S0) ck_E0) ck_X0 ck_l0 p24x_236_e
set_option maxRecDepth 100000 in
def p24x_237 : ck_Sum := ((9, 1, 6), 245, [.inr (.inr (.inl 1)), .inl (3, 2147483647, none), .inl ((-2147483648), (-1), none), .inl (100, 2147483647, none), .inr (.inr (.inl 245))], ([], [], [(3, 0, 0, ck_one 3)]), ([], []), [(.inr (some (.inl (ck_one 1))), 245, ([], [], []))])
set_option maxRecDepth 100000 in
theorem p24x_237_e : ck_ok p1_O none [] [(186, [p24x_236])] 185 [] 90 p24x_237 = true := by decide +kernel
theorem p24x_237_s {X : Int → Int} {LX : Nat} : ck_Ok p1_O X LX 185 p24x_237 := ck_ok_s (ck_E1 (ck_S1 p24x_236_s ck_S0) ck_E0) ck_X0 ck_l0 p24x_237_e
set_option maxRecDepth 100000 in
def p24x_239 : ck_Sum := ((8, 1, 6), 245, [.inr (.inr (.inl 1)), .inl (3, 2147483647, none), .inl (0, 299, none), .inl ((-2147483648), (-1), none)], ([], [], [(3, 0, 0, ck_one 3)]), ([], []), [(.inl 3, 245, ([], [], []))])
set_option maxRecDepth 100000 in
theorem p24x_239_e : ck_ok p1_O none [] [(132, [p24x_227])] 186 [] 76 p24x_239 = true := by decide +kernel
theorem p24x_239_s {X : Int → Int} {LX : Nat} : ck_Ok p1_O X LX 186 p24x_239 := ck_ok_s (ck_E1 (ck_S1 p24x_227_s ck_S0) ck_E0) ck_X0 ck_l0 p24x_239_e
set_option maxRecDepth 100000 in
def p24x_240 : ck_Sum := ((9, 1, 6), 245, [.inr (.inr (.inl 1)), .inl (3, 2147483647, none), .inl (0, 299, none), .inl ((-2147483648), (-1), none), .inr (.inr (.inl 245))], ([], [], [(3, 0, 0, ck_one 3)]), ([], []), [(.inr (some (.inl (ck_one 1))), 245, ([], [], []))])
set_option maxRecDepth 100000 in
theorem p24x_240_e : ck_ok p1_O none [] [(186, [p24x_239])] 185 [] 90 p24x_240 = true := by decide +kernel
theorem p24x_240_s {X : Int → Int} {LX : Nat} : ck_Ok p1_O X LX 185 p24x_240 := ck_ok_s (ck_E1 (ck_S1 p24x_239_s ck_S0) ck_E0) ck_X0 ck_l0 p24x_240_e
set_option maxRecDepth 100000 in
def p24x_242 : ck_Sum := ((8, 1, 6), 245, [.inr (.inr (.inl 1)), .inl (3, 2147483647, none), .inl (0, 299, none), .inl (0, 99, none)], ([], [], [(3, 0, 0, ck_one 3)]), ([], []), [(.inl 3, 245, ([], [], []))])
set_option maxRecDepth 100000 in
theorem p24x_242_e : ck_ok p1_O none [] [(132, [p24x_227])] 186 [] 76 p24x_242 = true := by decide +kernel
theorem p24x_242_s {X : Int → Int} {LX : Nat} : ck_Ok p1_O X LX 186 p24x_242 := ck_ok_s (ck_E1 (ck_S1 p24x_227_s ck_S0) ck_E0) ck_X0 ck_l0 p24x_242_e
set_option maxRecDepth 100000 in
def p24x_243 : ck_Sum := ((9, 1, 6), 245, [.inr (.inr (.inl 1)), .inl (3, 2147483647, none), .inl (0, 299, none), .inl (0, 99, none), .inr (.inr (.inl 245))], ([], [], [(3, 0, 0, ck_one 3)]), ([], []), [(.inr (some (.inl (ck_one 1))), 245, ([], [], []))])
set_option maxRecDepth 100000 in
theorem p24x_243_e : ck_ok p1_O none [] [(186, [p24x_242])] 185 [] 90 p24x_243 = true := by decide +kernel
theorem p24x_243_s {X : Int → Int} {LX : Nat} : ck_Ok p1_O X LX 185 p24x_243 := ck_ok_s (ck_E1 (ck_S1 p24x_242_s ck_S0) ck_E0) ck_X0 ck_l0 p24x_243_e
set_option maxRecDepth 100000 in
def p24x_245 : ck_Sum := ((8, 1, 6), 245, [.inr (.inr (.inl 1)), .inl (3, 2147483647, none), .inl (0, 299, none), .inl (100, 2147483647, none)], ([], [], [(3, 0, 0, ck_one 3)]), ([], []), [(.inl 3, 245, ([], [], []))])
set_option maxRecDepth 100000 in
theorem p24x_245_e : ck_ok p1_O none [] [(132, [p24x_227])] 186 [] 76 p24x_245 = true := by decide +kernel
theorem p24x_245_s {X : Int → Int} {LX : Nat} : ck_Ok p1_O X LX 186 p24x_245 := ck_ok_s (ck_E1 (ck_S1 p24x_227_s ck_S0) ck_E0) ck_X0 ck_l0 p24x_245_e
set_option maxRecDepth 100000 in
def p24x_246 : ck_Sum := ((9, 1, 6), 245, [.inr (.inr (.inl 1)), .inl (3, 2147483647, none), .inl (0, 299, none), .inl (100, 2147483647, none), .inr (.inr (.inl 245))], ([], [], [(3, 0, 0, ck_one 3)]), ([], []), [(.inr (some (.inl (ck_one 1))), 245, ([], [], []))])
set_option maxRecDepth 100000 in
theorem p24x_246_e : ck_ok p1_O none [] [(186, [p24x_245])] 185 [] 90 p24x_246 = true := by decide +kernel
theorem p24x_246_s {X : Int → Int} {LX : Nat} : ck_Ok p1_O X LX 185 p24x_246 := ck_ok_s (ck_E1 (ck_S1 p24x_245_s ck_S0) ck_E0) ck_X0 ck_l0 p24x_246_e
set_option maxRecDepth 100000 in
def p24x_248 : ck_Sum := ((8, 1, 6), 245, [.inr (.inr (.inl 1)), .inl (3, 2147483647, none), .inl (300, 2147483647, none), .inl ((-2147483648), (-1), none)], ([], [], [(3, 0, 0, ck_one 3)]), ([], []), [(.inl 3, 245, ([], [], []))])
set_option maxRecDepth 100000 in
theorem p24x_248_e : ck_ok p1_O none [] [(132, [p24x_227])] 186 [] 76 p24x_248 = true := by decide +kernel
theorem p24x_248_s {X : Int → Int} {LX : Nat} : ck_Ok p1_O X LX 186 p24x_248 := ck_ok_s (ck_E1 (ck_S1 p24x_227_s ck_S0) ck_E0) ck_X0 ck_l0 p24x_248_e
set_option maxRecDepth 100000 in
def p24x_249 : ck_Sum := ((9, 1, 6), 245, [.inr (.inr (.inl 1)), .inl (3, 2147483647, none), .inl (300, 2147483647, none), .inl ((-2147483648), (-1), none), .inr (.inr (.inl 245))], ([], [], [(3, 0, 0, ck_one 3)]), ([], []), [(.inr (some (.inl (ck_one 1))), 245, ([], [], []))])
set_option maxRecDepth 100000 in
theorem p24x_249_e : ck_ok p1_O none [] [(186, [p24x_248])] 185 [] 90 p24x_249 = true := by decide +kernel
theorem p24x_249_s {X : Int → Int} {LX : Nat} : ck_Ok p1_O X LX 185 p24x_249 := ck_ok_s (ck_E1 (ck_S1 p24x_248_s ck_S0) ck_E0) ck_X0 ck_l0 p24x_249_e
set_option maxRecDepth 100000 in
def p24x_251 : ck_Sum := ((8, 1, 6), 245, [.inr (.inr (.inl 1)), .inl (3, 2147483647, none), .inl (300, 2147483647, none), .inl (0, 99, none)], ([], [], [(3, 0, 0, ck_one 3)]), ([], []), [(.inl 3, 245, ([], [], []))])
set_option maxRecDepth 100000 in
theorem p24x_251_e : ck_ok p1_O none [] [(132, [p24x_227])] 186 [] 76 p24x_251 = true := by decide +kernel
theorem p24x_251_s {X : Int → Int} {LX : Nat} : ck_Ok p1_O X LX 186 p24x_251 := ck_ok_s (ck_E1 (ck_S1 p24x_227_s ck_S0) ck_E0) ck_X0 ck_l0 p24x_251_e
set_option maxRecDepth 100000 in
def p24x_252 : ck_Sum := ((9, 1, 6), 245, [.inr (.inr (.inl 1)), .inl (3, 2147483647, none), .inl (300, 2147483647, none), .inl (0, 99, none), .inr (.inr (.inl 245))], ([], [], [(3, 0, 0, ck_one 3)]), ([], []), [(.inr (some (.inl (ck_one 1))), 245, ([], [], []))])
set_option maxRecDepth 100000 in
theorem p24x_252_e : ck_ok p1_O none [] [(186, [p24x_251])] 185 [] 90 p24x_252 = true := by decide +kernel
theorem p24x_252_s {X : Int → Int} {LX : Nat} : ck_Ok p1_O X LX 185 p24x_252 := ck_ok_s (ck_E1 (ck_S1 p24x_251_s ck_S0) ck_E0) ck_X0 ck_l0 p24x_252_e
set_option maxRecDepth 100000 in
def p24x_254 : ck_Sum := ((8, 1, 6), 245, [.inr (.inr (.inl 1)), .inl (3, 2147483647, none), .inl (300, 2147483647, none), .inl (100, 2147483647, none)], ([], [], [(3, 0, 0, ck_one 3)]), ([], []), [(.inl 3, 245, ([], [], []))])
set_option maxRecDepth 100000 in
theorem p24x_254_e : ck_ok p1_O none [] [(132, [p24x_227])] 186 [] 76 p24x_254 = true := by decide +kernel
theorem p24x_254_s {X : Int → Int} {LX : Nat} : ck_Ok p1_O X LX 186 p24x_254 := ck_ok_s (ck_E1 (ck_S1 p24x_227_s ck_S0) ck_E0) ck_X0 ck_l0 p24x_254_e
set_option maxRecDepth 100000 in
def p24x_255 : ck_Sum := ((9, 1, 6), 245, [.inr (.inr (.inl 1)), .inl (3, 2147483647, none), .inl (300, 2147483647, none), .inl (100, 2147483647, none), .inr (.inr (.inl 245))], ([], [], [(3, 0, 0, ck_one 3)]), ([], []), [(.inr (some (.inl (ck_one 1))), 245, ([], [], []))])
set_option maxRecDepth 100000 in
theorem p24x_255_e : ck_ok p1_O none [] [(186, [p24x_254])] 185 [] 90 p24x_255 = true := by decide +kernel
theorem p24x_255_s {X : Int → Int} {LX : Nat} : ck_Ok p1_O X LX 185 p24x_255 := ck_ok_s (ck_E1 (ck_S1 p24x_254_s ck_S0) ck_E0) ck_X0 ck_l0 p24x_255_e
set_option maxRecDepth 100000 in
def p24x_137 : ck_Sum := ((0, 0, 0), 245, [.inr (.inr (.inl 226))], ([], [], [(227, 0, 0, ck_one 3)]), ([], []), [(.inr (some (.inl (ck_one 3))), 245, ([], [], []))])
set_option maxRecDepth 100000 in
theorem p24x_137_e : ck_ok p1_O none [] [] 262 [] 80 p24x_137 = true := by decide +kernel
theorem p24x_137_s {X : Int → Int} {LX : Nat} : ck_Ok p1_O X LX 262 p24x_137 := ck_ok_s (ck_E0) ck_X0 ck_l0 p24x_137_e
set_option maxRecDepth 100000 in
def p24x_138 : ck_Sum := ((0, 0, 0), 245, [.inl ((-2147483648), (-1), none), .inl (ck_one 0), .inl (ck_one 2)], ([], [], []), ([], []), [(.inr (some (.inl (ck_one 0))), 245, ([], [], []))])
set_option maxRecDepth 100000 in
theorem p24x_138_e : ck_ok p1_O none [] [] 287 [] 80 p24x_138 = true := by decide +kernel
theorem p24x_138_s {X : Int → Int} {LX : Nat} : ck_Ok p1_O X LX 287 p24x_138 := ck_ok_s (ck_E0) ck_X0 ck_l0 p24x_138_e
set_option maxRecDepth 100000 in
def p24x_139 : ck_Sum := ((1, 0, 0), 245, [.inr (.inr (.inl 226)), .inl ((-2147483648), (-1), none)], ([], [], [(227, 0, 0, ck_one 3)]), ([], []), [(.inr (some (.inl (ck_one 1))), 245, ([], [], []))])
set_option maxRecDepth 100000 in
theorem p24x_139_e : ck_ok p1_O none [] [(262, [p24x_137]), (287, [p24x_138])] 289 [] 92 p24x_139 = true := by decide +kernel
theorem p24x_139_s {X : Int → Int} {LX : Nat} : ck_Ok p1_O X LX 289 p24x_139 := ck_ok_s (ck_E1 (ck_S1 p24x_137_s ck_S0) (ck_E1 (ck_S1 p24x_138_s ck_S0) ck_E0)) ck_X0 ck_l0 p24x_139_e
set_option maxRecDepth 100000 in
def p24x_140 : ck_Sum := ((0, 0, 0), 245, [.inr (.inr (.inl 226)), .inl (ck_one 1), .inl (ck_one 1)], ([], [], []), ([(226, 0, 0)], []), [(.inr (some (.inl (ck_one 1))), 245, ([], [], [(226, 0, 0, ck_one 1)]))])
set_option maxRecDepth 100000 in
theorem p24x_140_e : ck_ok p1_O none [] [] 283 [] 84 p24x_140 = true := by decide +kernel
theorem p24x_140_s {X : Int → Int} {LX : Nat} : ck_Ok p1_O X LX 283 p24x_140 := ck_ok_s (ck_E0) ck_X0 ck_l0 p24x_140_e
set_option maxRecDepth 100000 in
def p24x_141 : ck_Sum := ((2, 0, 0), 245, [.inr (.inr (.inl 226)), .inl ((-2147483648), (-1), none), .inl ((-2147483648), (-1), none), .inl ((-2147483648), (-1), none)], ([], [], [(227, 0, 0, ck_one 3)]), ([(226, 0, 0)], []), [(.inr (some (.inl (ck_one 0))), 245, ([], [], [(226, 0, 0, ck_one 1)]))])
set_option maxRecDepth 100000 in
theorem p24x_141_e : ck_ok p1_O none [] [(289, [p24x_139]), (283, [p24x_140])] 339 [] 94 p24x_141 = true := by decide +kernel
theorem p24x_141_s {X : Int → Int} {LX : Nat} : ck_Ok p1_O X LX 339 p24x_141 := ck_ok_s (ck_E1 (ck_S1 p24x_139_s ck_S0) (ck_E1 (ck_S1 p24x_140_s ck_S0) ck_E0)) ck_X0 ck_l0 p24x_141_e
set_option maxRecDepth 100000 in
def p24x_145 : ck_Sum := ((2, 0, 0), 245, [.inr (.inr (.inl 226)), .inl ((-2147483648), (-1), none), .inl ((-2147483648), (-1), none), .inl (0, 99, none)], ([], [], [(227, 0, 0, ck_one 3)]), ([(226, 0, 0)], []), [(.inr (some (.inl (ck_one 0))), 245, ([], [], [(226, 0, 0, ck_one 1)]))])
set_option maxRecDepth 100000 in
theorem p24x_145_e : ck_ok p1_O none [] [(289, [p24x_139]), (283, [p24x_140])] 339 [] 94 p24x_145 = true := by decide +kernel
theorem p24x_145_s {X : Int → Int} {LX : Nat} : ck_Ok p1_O X LX 339 p24x_145 := ck_ok_s (ck_E1 (ck_S1 p24x_139_s ck_S0) (ck_E1 (ck_S1 p24x_140_s ck_S0) ck_E0)) ck_X0 ck_l0 p24x_145_e
set_option maxRecDepth 100000 in
def p24x_148 : ck_Sum := ((2, 0, 0), 245, [.inr (.inr (.inl 226)), .inl ((-2147483648), (-1), none), .inl ((-2147483648), (-1), none), .inl (100, 2147483647, none)], ([], [], [(227, 0, 0, ck_one 3)]), ([(226, 0, 0)], []), [(.inr (some (.inl (ck_one 0))), 245, ([], [], [(226, 0, 0, ck_one 1)]))])
set_option maxRecDepth 100000 in
theorem p24x_148_e : ck_ok p1_O none [] [(289, [p24x_139]), (283, [p24x_140])] 339 [] 94 p24x_148 = true := by decide +kernel
theorem p24x_148_s {X : Int → Int} {LX : Nat} : ck_Ok p1_O X LX 339 p24x_148 := ck_ok_s (ck_E1 (ck_S1 p24x_139_s ck_S0) (ck_E1 (ck_S1 p24x_140_s ck_S0) ck_E0)) ck_X0 ck_l0 p24x_148_e
set_option maxRecDepth 100000 in
def p24x_151 : ck_Sum := ((2, 0, 0), 245, [.inr (.inr (.inl 226)), .inl ((-2147483648), (-1), none), .inl (0, 299, none), .inl ((-2147483648), (-1), none)], ([], [], [(227, 0, 0, ck_one 3)]), ([(226, 0, 0)], []), [(.inr (some (.inl (ck_one 0))), 245, ([], [], [(226, 0, 0, ck_one 1)]))])
set_option maxRecDepth 100000 in
theorem p24x_151_e : ck_ok p1_O none [] [(289, [p24x_139]), (283, [p24x_140])] 339 [] 94 p24x_151 = true := by decide +kernel
theorem p24x_151_s {X : Int → Int} {LX : Nat} : ck_Ok p1_O X LX 339 p24x_151 := ck_ok_s (ck_E1 (ck_S1 p24x_139_s ck_S0) (ck_E1 (ck_S1 p24x_140_s ck_S0) ck_E0)) ck_X0 ck_l0 p24x_151_e
set_option maxRecDepth 100000 in
def p24x_154 : ck_Sum := ((2, 0, 0), 245, [.inr (.inr (.inl 226)), .inl ((-2147483648), (-1), none), .inl (0, 299, none), .inl (0, 99, none)], ([], [], [(227, 0, 0, ck_one 3)]), ([(226, 0, 0)], []), [(.inr (some (.inl (ck_one 0))), 245, ([], [], [(226, 0, 0, ck_one 1)]))])
set_option maxRecDepth 100000 in
theorem p24x_154_e : ck_ok p1_O none [] [(289, [p24x_139]), (283, [p24x_140])] 339 [] 94 p24x_154 = true := by decide +kernel
theorem p24x_154_s {X : Int → Int} {LX : Nat} : ck_Ok p1_O X LX 339 p24x_154 := ck_ok_s (ck_E1 (ck_S1 p24x_139_s ck_S0) (ck_E1 (ck_S1 p24x_140_s ck_S0) ck_E0)) ck_X0 ck_l0 p24x_154_e
set_option maxRecDepth 100000 in
def p24x_157 : ck_Sum := ((2, 0, 0), 245, [.inr (.inr (.inl 226)), .inl ((-2147483648), (-1), none), .inl (0, 299, none), .inl (100, 2147483647, none)], ([], [], [(227, 0, 0, ck_one 3)]), ([(226, 0, 0)], []), [(.inr (some (.inl (ck_one 0))), 245, ([], [], [(226, 0, 0, ck_one 1)]))])
set_option maxRecDepth 100000 in
theorem p24x_157_e : ck_ok p1_O none [] [(289, [p24x_139]), (283, [p24x_140])] 339 [] 94 p24x_157 = true := by decide +kernel
theorem p24x_157_s {X : Int → Int} {LX : Nat} : ck_Ok p1_O X LX 339 p24x_157 := ck_ok_s (ck_E1 (ck_S1 p24x_139_s ck_S0) (ck_E1 (ck_S1 p24x_140_s ck_S0) ck_E0)) ck_X0 ck_l0 p24x_157_e
set_option maxRecDepth 100000 in
def p24x_160 : ck_Sum := ((2, 0, 0), 245, [.inr (.inr (.inl 226)), .inl ((-2147483648), (-1), none), .inl (300, 2147483647, none), .inl ((-2147483648), (-1), none)], ([], [], [(227, 0, 0, ck_one 3)]), ([(226, 0, 0)], []), [(.inr (some (.inl (ck_one 0))), 245, ([], [], [(226, 0, 0, ck_one 1)]))])
set_option maxRecDepth 100000 in
theorem p24x_160_e : ck_ok p1_O none [] [(289, [p24x_139]), (283, [p24x_140])] 339 [] 94 p24x_160 = true := by decide +kernel
theorem p24x_160_s {X : Int → Int} {LX : Nat} : ck_Ok p1_O X LX 339 p24x_160 := ck_ok_s (ck_E1 (ck_S1 p24x_139_s ck_S0) (ck_E1 (ck_S1 p24x_140_s ck_S0) ck_E0)) ck_X0 ck_l0 p24x_160_e
set_option maxRecDepth 100000 in
def p24x_163 : ck_Sum := ((2, 0, 0), 245, [.inr (.inr (.inl 226)), .inl ((-2147483648), (-1), none), .inl (300, 2147483647, none), .inl (0, 99, none)], ([], [], [(227, 0, 0, ck_one 3)]), ([(226, 0, 0)], []), [(.inr (some (.inl (ck_one 0))), 245, ([], [], [(226, 0, 0, ck_one 1)]))])
set_option maxRecDepth 100000 in
theorem p24x_163_e : ck_ok p1_O none [] [(289, [p24x_139]), (283, [p24x_140])] 339 [] 94 p24x_163 = true := by decide +kernel
theorem p24x_163_s {X : Int → Int} {LX : Nat} : ck_Ok p1_O X LX 339 p24x_163 := ck_ok_s (ck_E1 (ck_S1 p24x_139_s ck_S0) (ck_E1 (ck_S1 p24x_140_s ck_S0) ck_E0)) ck_X0 ck_l0 p24x_163_e
set_option maxRecDepth 100000 in
def p24x_166 : ck_Sum := ((2, 0, 0), 245, [.inr (.inr (.inl 226)), .inl ((-2147483648), (-1), none), .inl (300, 2147483647, none), .inl (100, 2147483647, none)], ([], [], [(227, 0, 0, ck_one 3)]), ([(226, 0, 0)], []), [(.inr (some (.inl (ck_one 0))), 245, ([], [], [(226, 0, 0, ck_one 1)]))])
set_option maxRecDepth 100000 in
theorem p24x_166_e : ck_ok p1_O none [] [(289, [p24x_139]), (283, [p24x_140])] 339 [] 94 p24x_166 = true := by decide +kernel
theorem p24x_166_s {X : Int → Int} {LX : Nat} : ck_Ok p1_O X LX 339 p24x_166 := ck_ok_s (ck_E1 (ck_S1 p24x_139_s ck_S0) (ck_E1 (ck_S1 p24x_140_s ck_S0) ck_E0)) ck_X0 ck_l0 p24x_166_e
set_option maxRecDepth 100000 in
def p24x_173 : ck_Sum := ((0, 0, 0), 245, [.inl (0, 2, none), .inl (ck_one 0), .inl (ck_one 2)], ([], [], []), ([], []), [(.inr (some (.inl (ck_one 1))), 245, ([], [], []))])
set_option maxRecDepth 100000 in
theorem p24x_173_e : ck_ok p1_O none [] [] 287 [] 88 p24x_173 = true := by decide +kernel
theorem p24x_173_s {X : Int → Int} {LX : Nat} : ck_Ok p1_O X LX 287 p24x_173 := ck_ok_s (ck_E0) ck_X0 ck_l0 p24x_173_e
set_option maxRecDepth 100000 in
def p24x_174 : ck_Sum := ((1, 0, 0), 245, [.inr (.inr (.inl 226)), .inl (0, 2, none)], ([], [], [(227, 0, 0, ck_one 3)]), ([], []), [(.inr (some (.inl (ck_one 0))), 245, ([], [], []))])
set_option maxRecDepth 100000 in
theorem p24x_174_e : ck_ok p1_O none [] [(262, [p24x_137]), (287, [p24x_173])] 289 [] 90 p24x_174 = true := by decide +kernel
theorem p24x_174_s {X : Int → Int} {LX : Nat} : ck_Ok p1_O X LX 289 p24x_174 := ck_ok_s (ck_E1 (ck_S1 p24x_137_s ck_S0) (ck_E1 (ck_S1 p24x_173_s ck_S0) ck_E0)) ck_X0 ck_l0 p24x_174_e
set_option maxRecDepth 100000 in
def p24x_175 : ck_Sum := ((0, 0, 0), 245, [.inr (.inr (.inl 226)), .inl (ck_one 0), .inl (ck_one 1)], ([], [], []), ([], []), [(.inr (some (.inl (ck_one 0))), 245, ([], [], []))])
set_option maxRecDepth 100000 in
theorem p24x_175_e : ck_ok p1_O none [] [] 283 [] 78 p24x_175 = true := by decide +kernel
theorem p24x_175_s {X : Int → Int} {LX : Nat} : ck_Ok p1_O X LX 283 p24x_175 := ck_ok_s (ck_E0) ck_X0 ck_l0 p24x_175_e
set_option maxRecDepth 100000 in
def p24x_178 : ck_Sum := ((0, 0, 0), 245, [.inr (.inr (.inl 226)), .inl (ck_one 1), .inl (ck_one 2)], ([], [], []), ([(226, 0, 0)], []), [(.inr (some (.inl (ck_one 1))), 245, ([], [], [(226, 0, 0, ck_one 2)]))])
set_option maxRecDepth 100000 in
theorem p24x_178_e : ck_ok p1_O none [] [] 283 [] 84 p24x_178 = true := by decide +kernel
theorem p24x_178_s {X : Int → Int} {LX : Nat} : ck_Ok p1_O X LX 283 p24x_178 := ck_ok_s (ck_E0) ck_X0 ck_l0 p24x_178_e
set_option maxRecDepth 100000 in
def p24x_176 : ck_Sum := ((0, 0, 0), 245, [.inl ((-2147483648), (-1), none), .inl (ck_one 0), .inl (ck_one 299)], ([], [], []), ([], []), [(.inr (some (.inl (ck_one 0))), 245, ([], [], []))])
set_option maxRecDepth 100000 in
theorem p24x_176_e : ck_ok p1_O none [] [] 287 [] 80 p24x_176 = true := by decide +kernel
theorem p24x_176_s {X : Int → Int} {LX : Nat} : ck_Ok p1_O X LX 287 p24x_176 := ck_ok_s (ck_E0) ck_X0 ck_l0 p24x_176_e
set_option maxRecDepth 100000 in
def p24x_177 : ck_Sum := ((1, 0, 0), 245, [.inl ((-2147483648), (-1), none)], ([], [], []), ([], []), [(.inr (some (.inl (ck_one 1))), 245, ([], [], []))])
set_option maxRecDepth 100000 in
theorem p24x_177_e : ck_ok p1_O none [] [(287, [p24x_176])] 286 [] 86 p24x_177 = true := by decide +kernel
theorem p24x_177_s {X : Int → Int} {LX : Nat} : ck_Ok p1_O X LX 286 p24x_177 := ck_ok_s (ck_E1 (ck_S1 p24x_176_s ck_S0) ck_E0) ck_X0 ck_l0 p24x_177_e
set_option maxRecDepth 100000 in
def p24x_179 : ck_Sum := ((2, 0, 0), 245, [.inr (.inr (.inl 226)), .inl (0, 2, none), .inl ((-2147483648), (-1), none), .inl ((-2147483648), (-1), none)], ([], [], [(227, 0, 0, ck_one 3)]), ([(226, 0, 0)], []), [(.inr (some (.inl (ck_one 0))), 245, ([], [], [(226, 0, 0, ck_one 2)]))])
set_option maxRecDepth 100000 in
theorem p24x_179_e : ck_ok p1_O none [] [(289, [p24x_174]), (283, [p24x_175, p24x_178]), (286, [p24x_177])] 339 [] 112 p24x_179 = true := by decide +kernel
theorem p24x_179_s {X : Int → Int} {LX : Nat} : ck_Ok p1_O X LX 339 p24x_179 := ck_ok_s (ck_E1 (ck_S1 p24x_174_s ck_S0) (ck_E1 (ck_S1 p24x_175_s (ck_S1 p24x_178_s ck_S0)) (ck_E1 (ck_S1 p24x_177_s ck_S0) ck_E0))) ck_X0 ck_l0 p24x_179_e
set_option maxRecDepth 100000 in
def p24x_184 : ck_Sum := ((2, 0, 0), 245, [.inr (.inr (.inl 226)), .inl (0, 2, none), .inl ((-2147483648), (-1), none), .inl (0, 99, none)], ([], [], [(227, 0, 0, ck_one 3)]), ([(226, 0, 0)], []), [(.inr (some (.inl (ck_one 0))), 245, ([], [], [(226, 0, 0, ck_one 2)]))])
set_option maxRecDepth 100000 in
theorem p24x_184_e : ck_ok p1_O none [] [(289, [p24x_174]), (283, [p24x_175, p24x_178]), (286, [p24x_177])] 339 [] 112 p24x_184 = true := by decide +kernel
theorem p24x_184_s {X : Int → Int} {LX : Nat} : ck_Ok p1_O X LX 339 p24x_184 := ck_ok_s (ck_E1 (ck_S1 p24x_174_s ck_S0) (ck_E1 (ck_S1 p24x_175_s (ck_S1 p24x_178_s ck_S0)) (ck_E1 (ck_S1 p24x_177_s ck_S0) ck_E0))) ck_X0 ck_l0 p24x_184_e
set_option maxRecDepth 100000 in
def p24x_188 : ck_Sum := ((2, 0, 0), 245, [.inr (.inr (.inl 226)), .inl (0, 2, none), .inl ((-2147483648), (-1), none), .inl (100, 2147483647, none)], ([], [], [(227, 0, 0, ck_one 3)]), ([(226, 0, 0)], []), [(.inr (some (.inl (ck_one 0))), 245, ([], [], [(226, 0, 0, ck_one 2)]))])
set_option maxRecDepth 100000 in
theorem p24x_188_e : ck_ok p1_O none [] [(289, [p24x_174]), (283, [p24x_175, p24x_178]), (286, [p24x_177])] 339 [] 112 p24x_188 = true := by decide +kernel
theorem p24x_188_s {X : Int → Int} {LX : Nat} : ck_Ok p1_O X LX 339 p24x_188 := ck_ok_s (ck_E1 (ck_S1 p24x_174_s ck_S0) (ck_E1 (ck_S1 p24x_175_s (ck_S1 p24x_178_s ck_S0)) (ck_E1 (ck_S1 p24x_177_s ck_S0) ck_E0))) ck_X0 ck_l0 p24x_188_e
set_option maxRecDepth 100000 in
def p24x_193 : ck_Sum := ((0, 0, 0), 245, [.inl (0, 299, none), .inl (ck_one 0), .inl (ck_one 299)], ([], [], []), ([], []), [(.inr (some (.inl (ck_one 1))), 245, ([], [], []))])
set_option maxRecDepth 100000 in
theorem p24x_193_e : ck_ok p1_O none [] [] 287 [] 88 p24x_193 = true := by decide +kernel
theorem p24x_193_s {X : Int → Int} {LX : Nat} : ck_Ok p1_O X LX 287 p24x_193 := ck_ok_s (ck_E0) ck_X0 ck_l0 p24x_193_e
set_option maxRecDepth 100000 in
def p24x_194 : ck_Sum := ((1, 0, 0), 245, [.inl (0, 299, none)], ([], [], []), ([], []), [(.inr (some (.inl (ck_one 0))), 245, ([], [], []))])
set_option maxRecDepth 100000 in
theorem p24x_194_e : ck_ok p1_O none [] [(287, [p24x_193])] 286 [] 84 p24x_194 = true := by decide +kernel
theorem p24x_194_s {X : Int → Int} {LX : Nat} : ck_Ok p1_O X LX 286 p24x_194 := ck_ok_s (ck_E1 (ck_S1 p24x_193_s ck_S0) ck_E0) ck_X0 ck_l0 p24x_194_e
set_option maxRecDepth 100000 in
def p24x_195 : ck_Sum := ((0, 0, 0), 245, [.inl ((-2147483648), (-1), none), .inl (ck_one 0), .inl (ck_one 99)], ([], [], []), ([], []), [(.inr (some (.inl (ck_one 0))), 245, ([], [], []))])
set_option maxRecDepth 100000 in
theorem p24x_195_e : ck_ok p1_O none [] [] 287 [] 80 p24x_195 = true := by decide +kernel
theorem p24x_195_s {X : Int → Int} {LX : Nat} : ck_Ok p1_O X LX 287 p24x_195 := ck_ok_s (ck_E0) ck_X0 ck_l0 p24x_195_e
set_option maxRecDepth 100000 in
def p24x_196 : ck_Sum := ((2, 0, 0), 245, [.inr (.inr (.inl 226)), .inl (0, 2, none), .inl (0, 299, none), .inl ((-2147483648), (-1), none)], ([], [], [(227, 0, 0, ck_one 3)]), ([(226, 0, 0)], []), [(.inr (some (.inl (ck_one 0))), 245, ([], [], [(226, 0, 0, ck_one 2)]))])
set_option maxRecDepth 100000 in
theorem p24x_196_e : ck_ok p1_O none [] [(289, [p24x_174]), (283, [p24x_175, p24x_178]), (286, [p24x_194]), (287, [p24x_195])] 339 [] 122 p24x_196 = true := by decide +kernel
theorem p24x_196_s {X : Int → Int} {LX : Nat} : ck_Ok p1_O X LX 339 p24x_196 := ck_ok_s (ck_E1 (ck_S1 p24x_174_s ck_S0) (ck_E1 (ck_S1 p24x_175_s (ck_S1 p24x_178_s ck_S0)) (ck_E1 (ck_S1 p24x_194_s ck_S0) (ck_E1 (ck_S1 p24x_195_s ck_S0) ck_E0)))) ck_X0 ck_l0 p24x_196_e
set_option maxRecDepth 100000 in
def p24x_202 : ck_Sum := ((0, 0, 0), 245, [.inr (.inr (.inl 226)), .inl (ck_one 0), .inl (ck_one 2)], ([], [], []), ([], []), [(.inr (some (.inl (ck_one 0))), 245, ([], [], []))])
set_option maxRecDepth 100000 in
theorem p24x_202_e : ck_ok p1_O none [] [] 283 [] 78 p24x_202 = true := by decide +kernel
theorem p24x_202_s {X : Int → Int} {LX : Nat} : ck_Ok p1_O X LX 283 p24x_202 := ck_ok_s (ck_E0) ck_X0 ck_l0 p24x_202_e
set_option maxRecDepth 100000 in
def p24x_201 : ck_Sum := ((0, 0, 0), 245, [.inl (0, 99, none), .inl (ck_one 0), .inl (ck_one 99)], ([], [], []), ([], []), [(.inr (some (.inl (ck_one 1))), 245, ([], [], []))])
set_option maxRecDepth 100000 in
theorem p24x_201_e : ck_ok p1_O none [] [] 287 [] 88 p24x_201 = true := by decide +kernel
theorem p24x_201_s {X : Int → Int} {LX : Nat} : ck_Ok p1_O X LX 287 p24x_201 := ck_ok_s (ck_E0) ck_X0 ck_l0 p24x_201_e
set_option maxRecDepth 100000 in
def p24x_203 : ck_Sum := ((0, 0, 0), 245, [.inr (.inr (.inl 226))], ([], [], [(227, 2, 9, ck_one 0)]), ([], []), [(.inr (some (.inl (ck_one 0))), 245, ([], [], []))])
set_option maxRecDepth 100000 in
theorem p24x_203_e : ck_ok p1_O none [] [] 254 [] 80 p24x_203 = true := by decide +kernel
theorem p24x_203_s {X : Int → Int} {LX : Nat} : ck_Ok p1_O X LX 254 p24x_203 := ck_ok_s (ck_E0) ck_X0 ck_l0 p24x_203_e
set_option maxRecDepth 100000 in
def p24x_204 : ck_Sum := ((2, 0, 0), 245, [.inr (.inr (.inl 226)), .inl (0, 2, none), .inl (0, 299, none), .inl (0, 99, none)], ([], [], [(227, 0, 0, ck_one 3), (227, 2, 9, ck_one 0), (226, 0, 0, ck_one 0)]), ([(226, 0, 0)], []), [(.inr (some (.inl (ck_one 0))), 245, ([], [], [(226, 0, 0, ck_one 0)]))])
set_option maxRecDepth 100000 in
theorem p24x_204_e : ck_ok p1_O none [] [(289, [p24x_174]), (283, [p24x_175, p24x_202]), (286, [p24x_194]), (287, [p24x_201]), (254, [p24x_203])] 339 [(56, [some (.inr (.inr (.inl 226))), some (.inl (0, 2, none)), some (.inl (0, 299, none)), some (.inl (0, 99, none)), some (.inl (ck_one 0)), some (.inl (ck_one 0))], ([], [], [(226, 0, 0, ck_one 0), (227, 0, 0, ck_one 3), (227, 2, 9, ck_one 0)]), 100, .inl 4, true)] 202 p24x_204 = true := by decide +kernel
theorem p24x_204_s {X : Int → Int} {LX : Nat} : ck_Ok p1_O X LX 339 p24x_204 := ck_ok_s (ck_E1 (ck_S1 p24x_174_s ck_S0) (ck_E1 (ck_S1 p24x_175_s (ck_S1 p24x_202_s ck_S0)) (ck_E1 (ck_S1 p24x_194_s ck_S0) (ck_E1 (ck_S1 p24x_201_s ck_S0) (ck_E1 (ck_S1 p24x_203_s ck_S0) ck_E0))))) ck_X0 ck_l0 p24x_204_e
set_option maxRecDepth 100000 in
def p24x_209 : ck_Sum := ((0, 0, 0), 245, [.inl (100, 2147483647, none), .inl (ck_one 0), .inl (ck_one 99)], ([], [], []), ([], []), [(.inr (some (.inl (ck_one 0))), 245, ([], [], []))])
set_option maxRecDepth 100000 in
theorem p24x_209_e : ck_ok p1_O none [] [] 287 [] 86 p24x_209 = true := by decide +kernel
theorem p24x_209_s {X : Int → Int} {LX : Nat} : ck_Ok p1_O X LX 287 p24x_209 := ck_ok_s (ck_E0) ck_X0 ck_l0 p24x_209_e
set_option maxRecDepth 100000 in
def p24x_210 : ck_Sum := ((2, 0, 0), 245, [.inr (.inr (.inl 226)), .inl (0, 2, none), .inl (0, 299, none), .inl (100, 2147483647, none)], ([], [], [(227, 0, 0, ck_one 3)]), ([(226, 0, 0)], []), [(.inr (some (.inl (ck_one 0))), 245, ([], [], [(226, 0, 0, ck_one 2)]))])
set_option maxRecDepth 100000 in
theorem p24x_210_e : ck_ok p1_O none [] [(289, [p24x_174]), (283, [p24x_175, p24x_178]), (286, [p24x_194]), (287, [p24x_209])] 339 [] 122 p24x_210 = true := by decide +kernel
theorem p24x_210_s {X : Int → Int} {LX : Nat} : ck_Ok p1_O X LX 339 p24x_210 := ck_ok_s (ck_E1 (ck_S1 p24x_174_s ck_S0) (ck_E1 (ck_S1 p24x_175_s (ck_S1 p24x_178_s ck_S0)) (ck_E1 (ck_S1 p24x_194_s ck_S0) (ck_E1 (ck_S1 p24x_209_s ck_S0) ck_E0)))) ck_X0 ck_l0 p24x_210_e
set_option maxRecDepth 100000 in
def p24x_215 : ck_Sum := ((0, 0, 0), 245, [.inl (300, 2147483647, none), .inl (ck_one 0), .inl (ck_one 299)], ([], [], []), ([], []), [(.inr (some (.inl (ck_one 0))), 245, ([], [], []))])
set_option maxRecDepth 100000 in
theorem p24x_215_e : ck_ok p1_O none [] [] 287 [] 86 p24x_215 = true := by decide +kernel
theorem p24x_215_s {X : Int → Int} {LX : Nat} : ck_Ok p1_O X LX 287 p24x_215 := ck_ok_s (ck_E0) ck_X0 ck_l0 p24x_215_e
set_option maxRecDepth 100000 in
def p24x_216 : ck_Sum := ((1, 0, 0), 245, [.inl (300, 2147483647, none)], ([], [], []), ([], []), [(.inr (some (.inl (ck_one 1))), 245, ([], [], []))])
set_option maxRecDepth 100000 in
theorem p24x_216_e : ck_ok p1_O none [] [(287, [p24x_215])] 286 [] 86 p24x_216 = true := by decide +kernel
theorem p24x_216_s {X : Int → Int} {LX : Nat} : ck_Ok p1_O X LX 286 p24x_216 := ck_ok_s (ck_E1 (ck_S1 p24x_215_s ck_S0) ck_E0) ck_X0 ck_l0 p24x_216_e
set_option maxRecDepth 100000 in
def p24x_217 : ck_Sum := ((2, 0, 0), 245, [.inr (.inr (.inl 226)), .inl (0, 2, none), .inl (300, 2147483647, none), .inl ((-2147483648), (-1), none)], ([], [], [(227, 0, 0, ck_one 3)]), ([(226, 0, 0)], []), [(.inr (some (.inl (ck_one 0))), 245, ([], [], [(226, 0, 0, ck_one 2)]))])
set_option maxRecDepth 100000 in
theorem p24x_217_e : ck_ok p1_O none [] [(289, [p24x_174]), (283, [p24x_175, p24x_178]), (286, [p24x_216])] 339 [] 112 p24x_217 = true := by decide +kernel
theorem p24x_217_s {X : Int → Int} {LX : Nat} : ck_Ok p1_O X LX 339 p24x_217 := ck_ok_s (ck_E1 (ck_S1 p24x_174_s ck_S0) (ck_E1 (ck_S1 p24x_175_s (ck_S1 p24x_178_s ck_S0)) (ck_E1 (ck_S1 p24x_216_s ck_S0) ck_E0))) ck_X0 ck_l0 p24x_217_e
set_option maxRecDepth 100000 in
def p24x_221 : ck_Sum := ((2, 0, 0), 245, [.inr (.inr (.inl 226)), .inl (0, 2, none), .inl (300, 2147483647, none), .inl (0, 99, none)], ([], [], [(227, 0, 0, ck_one 3)]), ([(226, 0, 0)], []), [(.inr (some (.inl (ck_one 0))), 245, ([], [], [(226, 0, 0, ck_one 2)]))])
set_option maxRecDepth 100000 in
theorem p24x_221_e : ck_ok p1_O none [] [(289, [p24x_174]), (283, [p24x_175, p24x_178]), (286, [p24x_216])] 339 [] 112 p24x_221 = true := by decide +kernel
theorem p24x_221_s {X : Int → Int} {LX : Nat} : ck_Ok p1_O X LX 339 p24x_221 := ck_ok_s (ck_E1 (ck_S1 p24x_174_s ck_S0) (ck_E1 (ck_S1 p24x_175_s (ck_S1 p24x_178_s ck_S0)) (ck_E1 (ck_S1 p24x_216_s ck_S0) ck_E0))) ck_X0 ck_l0 p24x_221_e
set_option maxRecDepth 100000 in
def p24x_225 : ck_Sum := ((2, 0, 0), 245, [.inr (.inr (.inl 226)), .inl (0, 2, none), .inl (300, 2147483647, none), .inl (100, 2147483647, none)], ([], [], [(227, 0, 0, ck_one 3)]), ([(226, 0, 0)], []), [(.inr (some (.inl (ck_one 0))), 245, ([], [], [(226, 0, 0, ck_one 2)]))])
set_option maxRecDepth 100000 in
theorem p24x_225_e : ck_ok p1_O none [] [(289, [p24x_174]), (283, [p24x_175, p24x_178]), (286, [p24x_216])] 339 [] 112 p24x_225 = true := by decide +kernel
theorem p24x_225_s {X : Int → Int} {LX : Nat} : ck_Ok p1_O X LX 339 p24x_225 := ck_ok_s (ck_E1 (ck_S1 p24x_174_s ck_S0) (ck_E1 (ck_S1 p24x_175_s (ck_S1 p24x_178_s ck_S0)) (ck_E1 (ck_S1 p24x_216_s ck_S0) ck_E0))) ck_X0 ck_l0 p24x_225_e
set_option maxRecDepth 100000 in
def p24x_230 : ck_Sum := ((0, 0, 0), 245, [.inl (3, 2147483647, none), .inl (ck_one 0), .inl (ck_one 2)], ([], [], []), ([], []), [(.inr (some (.inl (ck_one 0))), 245, ([], [], []))])
set_option maxRecDepth 100000 in
theorem p24x_230_e : ck_ok p1_O none [] [] 287 [] 86 p24x_230 = true := by decide +kernel
theorem p24x_230_s {X : Int → Int} {LX : Nat} : ck_Ok p1_O X LX 287 p24x_230 := ck_ok_s (ck_E0) ck_X0 ck_l0 p24x_230_e
set_option maxRecDepth 100000 in
def p24x_231 : ck_Sum := ((1, 0, 0), 245, [.inr (.inr (.inl 226)), .inl (3, 2147483647, none)], ([], [], [(227, 0, 0, ck_one 3)]), ([], []), [(.inr (some (.inl (ck_one 1))), 245, ([], [], []))])
set_option maxRecDepth 100000 in
theorem p24x_231_e : ck_ok p1_O none [] [(262, [p24x_137]), (287, [p24x_230])] 289 [] 92 p24x_231 = true := by decide +kernel
theorem p24x_231_s {X : Int → Int} {LX : Nat} : ck_Ok p1_O X LX 289 p24x_231 := ck_ok_s (ck_E1 (ck_S1 p24x_137_s ck_S0) (ck_E1 (ck_S1 p24x_230_s ck_S0) ck_E0)) ck_X0 ck_l0 p24x_231_e
set_option maxRecDepth 100000 in
def p24x_232 : ck_Sum := ((2, 0, 0), 245, [.inr (.inr (.inl 226)), .inl (3, 2147483647, none), .inl ((-2147483648), (-1), none), .inl ((-2147483648), (-1), none)], ([], [], [(227, 0, 0, ck_one 3)]), ([(226, 0, 0)], []), [(.inr (some (.inl (ck_one 0))), 245, ([], [], [(226, 0, 0, ck_one 1)]))])
set_option maxRecDepth 100000 in
theorem p24x_232_e : ck_ok p1_O none [] [(289, [p24x_231]), (283, [p24x_140])] 339 [] 94 p24x_232 = true := by decide +kernel
theorem p24x_232_s {X : Int → Int} {LX : Nat} : ck_Ok p1_O X LX 339 p24x_232 := ck_ok_s (ck_E1 (ck_S1 p24x_231_s ck_S0) (ck_E1 (ck_S1 p24x_140_s ck_S0) ck_E0)) ck_X0 ck_l0 p24x_232_e
set_option maxRecDepth 100000 in
def p24x_235 : ck_Sum := ((2, 0, 0), 245, [.inr (.inr (.inl 226)), .inl (3, 2147483647, none), .inl ((-2147483648), (-1), none), .inl (0, 99, none)], ([], [], [(227, 0, 0, ck_one 3)]), ([(226, 0, 0)], []), [(.inr (some (.inl (ck_one 0))), 245, ([], [], [(226, 0, 0, ck_one 1)]))])
set_option maxRecDepth 100000 in
theorem p24x_235_e : ck_ok p1_O none [] [(289, [p24x_231]), (283, [p24x_140])] 339 [] 94 p24x_235 = true := by decide +kernel
theorem p24x_235_s {X : Int → Int} {LX : Nat} : ck_Ok p1_O X LX 339 p24x_235 := ck_ok_s (ck_E1 (ck_S1 p24x_231_s ck_S0) (ck_E1 (ck_S1 p24x_140_s ck_S0) ck_E0)) ck_X0 ck_l0 p24x_235_e
set_option maxRecDepth 100000 in
def p24x_238 : ck_Sum := ((2, 0, 0), 245, [.inr (.inr (.inl 226)), .inl (3, 2147483647, none), .inl ((-2147483648), (-1), none), .inl (100, 2147483647, none)], ([], [], [(227, 0, 0, ck_one 3)]), ([(226, 0, 0)], []), [(.inr (some (.inl (ck_one 0))), 245, ([], [], [(226, 0, 0, ck_one 1)]))])
set_option maxRecDepth 100000 in
theorem p24x_238_e : ck_ok p1_O none [] [(289, [p24x_231]), (283, [p24x_140])] 339 [] 94 p24x_238 = true := by decide +kernel
theorem p24x_238_s {X : Int → Int} {LX : Nat} : ck_Ok p1_O X LX 339 p24x_238 := ck_ok_s (ck_E1 (ck_S1 p24x_231_s ck_S0) (ck_E1 (ck_S1 p24x_140_s ck_S0) ck_E0)) ck_X0 ck_l0 p24x_238_e
set_option maxRecDepth 100000 in
def p24x_241 : ck_Sum := ((2, 0, 0), 245, [.inr (.inr (.inl 226)), .inl (3, 2147483647, none), .inl (0, 299, none), .inl ((-2147483648), (-1), none)], ([], [], [(227, 0, 0, ck_one 3)]), ([(226, 0, 0)], []), [(.inr (some (.inl (ck_one 0))), 245, ([], [], [(226, 0, 0, ck_one 1)]))])
set_option maxRecDepth 100000 in
theorem p24x_241_e : ck_ok p1_O none [] [(289, [p24x_231]), (283, [p24x_140])] 339 [] 94 p24x_241 = true := by decide +kernel
theorem p24x_241_s {X : Int → Int} {LX : Nat} : ck_Ok p1_O X LX 339 p24x_241 := ck_ok_s (ck_E1 (ck_S1 p24x_231_s ck_S0) (ck_E1 (ck_S1 p24x_140_s ck_S0) ck_E0)) ck_X0 ck_l0 p24x_241_e
set_option maxRecDepth 100000 in
def p24x_244 : ck_Sum := ((2, 0, 0), 245, [.inr (.inr (.inl 226)), .inl (3, 2147483647, none), .inl (0, 299, none), .inl (0, 99, none)], ([], [], [(227, 0, 0, ck_one 3)]), ([(226, 0, 0)], []), [(.inr (some (.inl (ck_one 0))), 245, ([], [], [(226, 0, 0, ck_one 1)]))])
set_option maxRecDepth 100000 in
theorem p24x_244_e : ck_ok p1_O none [] [(289, [p24x_231]), (283, [p24x_140])] 339 [] 94 p24x_244 = true := by decide +kernel
theorem p24x_244_s {X : Int → Int} {LX : Nat} : ck_Ok p1_O X LX 339 p24x_244 := ck_ok_s (ck_E1 (ck_S1 p24x_231_s ck_S0) (ck_E1 (ck_S1 p24x_140_s ck_S0) ck_E0)) ck_X0 ck_l0 p24x_244_e
set_option maxRecDepth 100000 in
def p24x_247 : ck_Sum := ((2, 0, 0), 245, [.inr (.inr (.inl 226)), .inl (3, 2147483647, none), .inl (0, 299, none), .inl (100, 2147483647, none)], ([], [], [(227, 0, 0, ck_one 3)]), ([(226, 0, 0)], []), [(.inr (some (.inl (ck_one 0))), 245, ([], [], [(226, 0, 0, ck_one 1)]))])
set_option maxRecDepth 100000 in
theorem p24x_247_e : ck_ok p1_O none [] [(289, [p24x_231]), (283, [p24x_140])] 339 [] 94 p24x_247 = true := by decide +kernel
theorem p24x_247_s {X : Int → Int} {LX : Nat} : ck_Ok p1_O X LX 339 p24x_247 := ck_ok_s (ck_E1 (ck_S1 p24x_231_s ck_S0) (ck_E1 (ck_S1 p24x_140_s ck_S0) ck_E0)) ck_X0 ck_l0 p24x_247_e
set_option maxRecDepth 100000 in
def p24x_250 : ck_Sum := ((2, 0, 0), 245, [.inr (.inr (.inl 226)), .inl (3, 2147483647, none), .inl (300, 2147483647, none), .inl ((-2147483648), (-1), none)], ([], [], [(227, 0, 0, ck_one 3)]), ([(226, 0, 0)], []), [(.inr (some (.inl (ck_one 0))), 245, ([], [], [(226, 0, 0, ck_one 1)]))])
set_option maxRecDepth 100000 in
theorem p24x_250_e : ck_ok p1_O none [] [(289, [p24x_231]), (283, [p24x_140])] 339 [] 94 p24x_250 = true := by decide +kernel
theorem p24x_250_s {X : Int → Int} {LX : Nat} : ck_Ok p1_O X LX 339 p24x_250 := ck_ok_s (ck_E1 (ck_S1 p24x_231_s ck_S0) (ck_E1 (ck_S1 p24x_140_s ck_S0) ck_E0)) ck_X0 ck_l0 p24x_250_e
set_option maxRecDepth 100000 in
def p24x_253 : ck_Sum := ((2, 0, 0), 245, [.inr (.inr (.inl 226)), .inl (3, 2147483647, none), .inl (300, 2147483647, none), .inl (0, 99, none)], ([], [], [(227, 0, 0, ck_one 3)]), ([(226, 0, 0)], []), [(.inr (some (.inl (ck_one 0))), 245, ([], [], [(226, 0, 0, ck_one 1)]))])
set_option maxRecDepth 100000 in
theorem p24x_253_e : ck_ok p1_O none [] [(289, [p24x_231]), (283, [p24x_140])] 339 [] 94 p24x_253 = true := by decide +kernel
theorem p24x_253_s {X : Int → Int} {LX : Nat} : ck_Ok p1_O X LX 339 p24x_253 := ck_ok_s (ck_E1 (ck_S1 p24x_231_s ck_S0) (ck_E1 (ck_S1 p24x_140_s ck_S0) ck_E0)) ck_X0 ck_l0 p24x_253_e
set_option maxRecDepth 100000 in
def p24x_256 : ck_Sum := ((2, 0, 0), 245, [.inr (.inr (.inl 226)), .inl (3, 2147483647, none), .inl (300, 2147483647, none), .inl (100, 2147483647, none)], ([], [], [(227, 0, 0, ck_one 3)]), ([(226, 0, 0)], []), [(.inr (some (.inl (ck_one 0))), 245, ([], [], [(226, 0, 0, ck_one 1)]))])
set_option maxRecDepth 100000 in
theorem p24x_256_e : ck_ok p1_O none [] [(289, [p24x_231]), (283, [p24x_140])] 339 [] 94 p24x_256 = true := by decide +kernel
theorem p24x_256_s {X : Int → Int} {LX : Nat} : ck_Ok p1_O X LX 339 p24x_256 := ck_ok_s (ck_E1 (ck_S1 p24x_231_s ck_S0) (ck_E1 (ck_S1 p24x_140_s ck_S0) ck_E0)) ck_X0 ck_l0 p24x_256_e
set_option maxRecDepth 100000 in
def p24x_142 : ck_Sum := ((0, 0, 0), 245, [.inr (.inr (.inl 226))], ([], [], [(226, 0, 0, ck_one 1)]), ([], []), [(.inr (some (.inl (ck_one 1))), 245, ([], [], []))])
set_option maxRecDepth 100000 in
theorem p24x_142_e : ck_ok p1_O none [] [] 234 [] 76 p24x_142 = true := by decide +kernel
theorem p24x_142_s {X : Int → Int} {LX : Nat} : ck_Ok p1_O X LX 234 p24x_142 := ck_ok_s (ck_E0) ck_X0 ck_l0 p24x_142_e
set_option maxRecDepth 100000 in
def p24x_180 : ck_Sum := ((0, 0, 0), 245, [.inr (.inr (.inl 226))], ([], [], [(226, 0, 0, ck_one 2)]), ([], []), [(.inr (some (.inl (ck_one 2))), 245, ([], [], []))])
set_option maxRecDepth 100000 in
theorem p24x_180_e : ck_ok p1_O none [] [] 234 [] 76 p24x_180 = true := by decide +kernel
theorem p24x_180_s {X : Int → Int} {LX : Nat} : ck_Ok p1_O X LX 234 p24x_180 := ck_ok_s (ck_E0) ck_X0 ck_l0 p24x_180_e
set_option maxRecDepth 100000 in
def p24x_205 : ck_Sum := ((0, 0, 0), 245, [.inr (.inr (.inl 226))], ([], [], [(226, 0, 0, ck_one 0)]), ([], []), [(.inr (some (.inl (ck_one 0))), 245, ([], [], []))])
set_option maxRecDepth 100000 in
theorem p24x_205_e : ck_ok p1_O none [] [] 234 [] 76 p24x_205 = true := by decide +kernel
theorem p24x_205_s {X : Int → Int} {LX : Nat} : ck_Ok p1_O X LX 234 p24x_205 := ck_ok_s (ck_E0) ck_X0 ck_l0 p24x_205_e
set_option maxRecDepth 100000 in
def p24_F : ck_F := ([], [(3, 8, 0), (16, 8, 0), (29, 8, 0), (44, 8, 0), (57, 8, 0), (70, 8, 0), (83, 8, 0), (96, 8, 0), (109, 8, 0), (122, 8, 0), (135, 8, 0), (148, 8, 0), (161, 8, 0), (174, 8, 0), (187, 8, 0)], [(245, 0, 0, ck_one 0), (227, 0, 0, ck_one 3), (227, 2, 9, ck_one 0), (226, 0, 0, ck_one 0), (8, 3, 3, ck_one 0), (3, 0, 0, ck_one 3)])
def p24_E : List (Nat × List ck_Sum) := [(185, [p24x_136, p24x_144, p24x_147, p24x_150, p24x_153, p24x_156, p24x_159, p24x_162, p24x_165, p24x_172, p24x_183, p24x_187, p24x_192, p24x_200, p24x_208, p24x_214, p24x_220, p24x_224, p24x_229, p24x_234, p24x_237, p24x_240, p24x_243, p24x_246, p24x_249, p24x_252, p24x_255]), (339, [p24x_141, p24x_145, p24x_148, p24x_151, p24x_154, p24x_157, p24x_160, p24x_163, p24x_166, p24x_179, p24x_184, p24x_188, p24x_196, p24x_204, p24x_210, p24x_217, p24x_221, p24x_225, p24x_232, p24x_235, p24x_238, p24x_241, p24x_244, p24x_247, p24x_250, p24x_253, p24x_256]), (234, [p24x_142, p24x_180, p24x_205])]
theorem p24_h {X : Int → Int} {LX : Nat} : ck_OkE p1_O X LX p24_E := ck_E1 (ck_S1 p24x_136_s (ck_S1 p24x_144_s (ck_S1 p24x_147_s (ck_S1 p24x_150_s (ck_S1 p24x_153_s (ck_S1 p24x_156_s (ck_S1 p24x_159_s (ck_S1 p24x_162_s (ck_S1 p24x_165_s (ck_S1 p24x_172_s (ck_S1 p24x_183_s (ck_S1 p24x_187_s (ck_S1 p24x_192_s (ck_S1 p24x_200_s (ck_S1 p24x_208_s (ck_S1 p24x_214_s (ck_S1 p24x_220_s (ck_S1 p24x_224_s (ck_S1 p24x_229_s (ck_S1 p24x_234_s (ck_S1 p24x_237_s (ck_S1 p24x_240_s (ck_S1 p24x_243_s (ck_S1 p24x_246_s (ck_S1 p24x_249_s (ck_S1 p24x_252_s (ck_S1 p24x_255_s ck_S0))))))))))))))))))))))))))) (ck_E1 (ck_S1 p24x_141_s (ck_S1 p24x_145_s (ck_S1 p24x_148_s (ck_S1 p24x_151_s (ck_S1 p24x_154_s (ck_S1 p24x_157_s (ck_S1 p24x_160_s (ck_S1 p24x_163_s (ck_S1 p24x_166_s (ck_S1 p24x_179_s (ck_S1 p24x_184_s (ck_S1 p24x_188_s (ck_S1 p24x_196_s (ck_S1 p24x_204_s (ck_S1 p24x_210_s (ck_S1 p24x_217_s (ck_S1 p24x_221_s (ck_S1 p24x_225_s (ck_S1 p24x_232_s (ck_S1 p24x_235_s (ck_S1 p24x_238_s (ck_S1 p24x_241_s (ck_S1 p24x_244_s (ck_S1 p24x_247_s (ck_S1 p24x_250_s (ck_S1 p24x_253_s (ck_S1 p24x_256_s ck_S0))))))))))))))))))))))))))) (ck_E1 (ck_S1 p24x_142_s (ck_S1 p24x_180_s (ck_S1 p24x_205_s ck_S0))) ck_E0))
set_option maxRecDepth 100000 in
theorem p24_b : (ck_prod [(1, [((-2147483648), (-1)), (0, 2), (3, 2147483647)]), (2, [((-2147483648), (-1)), (0, 299), (300, 2147483647)]), (3, [((-2147483648), (-1)), (0, 99), (100, 2147483647)])]).all (fun xf => ck_go p1_O (some 6) xf p24_E 370 280 245 p1_W p1_outs [] 172 false [] 1000 2000 1629 p1_L [] 245 p24_F) = true := by decide +kernel
theorem p24_s {X : Int → Int} {LX : Nat} (hLX : 6 = LX) (hX : ∀ j, gm_ir (X j)) {σ : Nat → Int} {L : gm_L} {K0 K : gm_K} {R0 R : gm_R} {M0 M : gm_M} (hS : ck_St p1_O σ p1_W 245 K0 R0 M0 p1_L [] p24_F L [] 245 K R M) : gm_Wp X LX 280 1000 2000 370 1629 L [] 245 K R M (ck_Q p1_O σ p1_W 245 K0 R0 M0 p1_outs) := ck_boxes p24_h hLX hX (by decide +kernel) p24_b hS
