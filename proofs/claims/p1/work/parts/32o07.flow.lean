/-! flow, on a new object: laid by wip/am/p1g.py. -/
set_option maxRecDepth 100000 in
def p7x_133 : ck_Sum := ((6, 1, 6), 245, [.inr (.inr (.inl 1)), .inl ((-2147483648), (-1), none), .inl (ck_one 3)], ([], [], []), ([], []), [(.inl 3, 245, ([], [], []))])
set_option maxRecDepth 100000 in
theorem p7x_133_e : ck_ok p1_O none [] [] 133 [] 76 p7x_133 = true := by decide +kernel
theorem p7x_133_s {X : Int → Int} {LX : Nat} : ck_Ok p1_O X LX 133 p7x_133 := ck_ok_s (ck_E0) ck_X0 ck_l0 p7x_133_e
set_option maxRecDepth 100000 in
def p7x_134 : ck_Sum := ((7, 1, 6), 245, [.inr (.inr (.inl 1)), .inl ((-2147483648), (-1), none)], ([], [], [(3, 0, 0, ck_one 3)]), ([], []), [(.inl 3, 245, ([], [], []))])
set_option maxRecDepth 100000 in
theorem p7x_134_e : ck_ok p1_O none [] [(133, [p7x_133])] 132 [] 82 p7x_134 = true := by decide +kernel
theorem p7x_134_s {X : Int → Int} {LX : Nat} : ck_Ok p1_O X LX 132 p7x_134 := ck_ok_s (ck_E1 (ck_S1 p7x_133_s ck_S0) ck_E0) ck_X0 ck_l0 p7x_134_e
set_option maxRecDepth 100000 in
def p7x_135 : ck_Sum := ((8, 1, 6), 245, [.inr (.inr (.inl 1)), .inl ((-2147483648), (-1), none), .inl ((-2147483648), (-1), none), .inl ((-2147483648), (-1), none)], ([], [], [(3, 0, 0, ck_one 3)]), ([], []), [(.inl 3, 245, ([], [], []))])
set_option maxRecDepth 100000 in
theorem p7x_135_e : ck_ok p1_O none [] [(132, [p7x_134])] 136 [] 76 p7x_135 = true := by decide +kernel
theorem p7x_135_s {X : Int → Int} {LX : Nat} : ck_Ok p1_O X LX 136 p7x_135 := ck_ok_s (ck_E1 (ck_S1 p7x_134_s ck_S0) ck_E0) ck_X0 ck_l0 p7x_135_e
set_option maxRecDepth 100000 in
def p7x_136 : ck_Sum := ((9, 1, 6), 245, [.inr (.inr (.inl 1)), .inl ((-2147483648), (-1), none), .inl ((-2147483648), (-1), none), .inl ((-2147483648), (-1), none), .inr (.inr (.inl 245))], ([], [], [(3, 0, 0, ck_one 3)]), ([], []), [(.inr (some (.inl (ck_one 1))), 245, ([], [], []))])
set_option maxRecDepth 100000 in
theorem p7x_136_e : ck_ok p1_O none [] [(136, [p7x_135])] 135 [] 90 p7x_136 = true := by decide +kernel
theorem p7x_136_s {X : Int → Int} {LX : Nat} : ck_Ok p1_O X LX 135 p7x_136 := ck_ok_s (ck_E1 (ck_S1 p7x_135_s ck_S0) ck_E0) ck_X0 ck_l0 p7x_136_e
set_option maxRecDepth 100000 in
def p7x_143 : ck_Sum := ((8, 1, 6), 245, [.inr (.inr (.inl 1)), .inl ((-2147483648), (-1), none), .inl ((-2147483648), (-1), none), .inl (0, 299, none)], ([], [], [(3, 0, 0, ck_one 3)]), ([], []), [(.inl 3, 245, ([], [], []))])
set_option maxRecDepth 100000 in
theorem p7x_143_e : ck_ok p1_O none [] [(132, [p7x_134])] 136 [] 76 p7x_143 = true := by decide +kernel
theorem p7x_143_s {X : Int → Int} {LX : Nat} : ck_Ok p1_O X LX 136 p7x_143 := ck_ok_s (ck_E1 (ck_S1 p7x_134_s ck_S0) ck_E0) ck_X0 ck_l0 p7x_143_e
set_option maxRecDepth 100000 in
def p7x_144 : ck_Sum := ((9, 1, 6), 245, [.inr (.inr (.inl 1)), .inl ((-2147483648), (-1), none), .inl ((-2147483648), (-1), none), .inl (0, 299, none), .inr (.inr (.inl 245))], ([], [], [(3, 0, 0, ck_one 3)]), ([], []), [(.inr (some (.inl (ck_one 1))), 245, ([], [], []))])
set_option maxRecDepth 100000 in
theorem p7x_144_e : ck_ok p1_O none [] [(136, [p7x_143])] 135 [] 90 p7x_144 = true := by decide +kernel
theorem p7x_144_s {X : Int → Int} {LX : Nat} : ck_Ok p1_O X LX 135 p7x_144 := ck_ok_s (ck_E1 (ck_S1 p7x_143_s ck_S0) ck_E0) ck_X0 ck_l0 p7x_144_e
set_option maxRecDepth 100000 in
def p7x_146 : ck_Sum := ((8, 1, 6), 245, [.inr (.inr (.inl 1)), .inl ((-2147483648), (-1), none), .inl ((-2147483648), (-1), none), .inl (300, 2147483647, none)], ([], [], [(3, 0, 0, ck_one 3)]), ([], []), [(.inl 3, 245, ([], [], []))])
set_option maxRecDepth 100000 in
theorem p7x_146_e : ck_ok p1_O none [] [(132, [p7x_134])] 136 [] 76 p7x_146 = true := by decide +kernel
theorem p7x_146_s {X : Int → Int} {LX : Nat} : ck_Ok p1_O X LX 136 p7x_146 := ck_ok_s (ck_E1 (ck_S1 p7x_134_s ck_S0) ck_E0) ck_X0 ck_l0 p7x_146_e
set_option maxRecDepth 100000 in
def p7x_147 : ck_Sum := ((9, 1, 6), 245, [.inr (.inr (.inl 1)), .inl ((-2147483648), (-1), none), .inl ((-2147483648), (-1), none), .inl (300, 2147483647, none), .inr (.inr (.inl 245))], ([], [], [(3, 0, 0, ck_one 3)]), ([], []), [(.inr (some (.inl (ck_one 1))), 245, ([], [], []))])
set_option maxRecDepth 100000 in
theorem p7x_147_e : ck_ok p1_O none [] [(136, [p7x_146])] 135 [] 90 p7x_147 = true := by decide +kernel
theorem p7x_147_s {X : Int → Int} {LX : Nat} : ck_Ok p1_O X LX 135 p7x_147 := ck_ok_s (ck_E1 (ck_S1 p7x_146_s ck_S0) ck_E0) ck_X0 ck_l0 p7x_147_e
set_option maxRecDepth 100000 in
def p7x_149 : ck_Sum := ((8, 1, 6), 245, [.inr (.inr (.inl 1)), .inl ((-2147483648), (-1), none), .inl (0, 39, none), .inl ((-2147483648), (-1), none)], ([], [], [(3, 0, 0, ck_one 3)]), ([], []), [(.inl 3, 245, ([], [], []))])
set_option maxRecDepth 100000 in
theorem p7x_149_e : ck_ok p1_O none [] [(132, [p7x_134])] 136 [] 76 p7x_149 = true := by decide +kernel
theorem p7x_149_s {X : Int → Int} {LX : Nat} : ck_Ok p1_O X LX 136 p7x_149 := ck_ok_s (ck_E1 (ck_S1 p7x_134_s ck_S0) ck_E0) ck_X0 ck_l0 p7x_149_e
set_option maxRecDepth 100000 in
def p7x_150 : ck_Sum := ((9, 1, 6), 245, [.inr (.inr (.inl 1)), .inl ((-2147483648), (-1), none), .inl (0, 39, none), .inl ((-2147483648), (-1), none), .inr (.inr (.inl 245))], ([], [], [(3, 0, 0, ck_one 3)]), ([], []), [(.inr (some (.inl (ck_one 1))), 245, ([], [], []))])
set_option maxRecDepth 100000 in
theorem p7x_150_e : ck_ok p1_O none [] [(136, [p7x_149])] 135 [] 90 p7x_150 = true := by decide +kernel
theorem p7x_150_s {X : Int → Int} {LX : Nat} : ck_Ok p1_O X LX 135 p7x_150 := ck_ok_s (ck_E1 (ck_S1 p7x_149_s ck_S0) ck_E0) ck_X0 ck_l0 p7x_150_e
set_option maxRecDepth 100000 in
def p7x_152 : ck_Sum := ((8, 1, 6), 245, [.inr (.inr (.inl 1)), .inl ((-2147483648), (-1), none), .inl (0, 39, none), .inl (0, 299, none)], ([], [], [(3, 0, 0, ck_one 3)]), ([], []), [(.inl 3, 245, ([], [], []))])
set_option maxRecDepth 100000 in
theorem p7x_152_e : ck_ok p1_O none [] [(132, [p7x_134])] 136 [] 76 p7x_152 = true := by decide +kernel
theorem p7x_152_s {X : Int → Int} {LX : Nat} : ck_Ok p1_O X LX 136 p7x_152 := ck_ok_s (ck_E1 (ck_S1 p7x_134_s ck_S0) ck_E0) ck_X0 ck_l0 p7x_152_e
set_option maxRecDepth 100000 in
def p7x_153 : ck_Sum := ((9, 1, 6), 245, [.inr (.inr (.inl 1)), .inl ((-2147483648), (-1), none), .inl (0, 39, none), .inl (0, 299, none), .inr (.inr (.inl 245))], ([], [], [(3, 0, 0, ck_one 3)]), ([], []), [(.inr (some (.inl (ck_one 1))), 245, ([], [], []))])
set_option maxRecDepth 100000 in
theorem p7x_153_e : ck_ok p1_O none [] [(136, [p7x_152])] 135 [] 90 p7x_153 = true := by decide +kernel
theorem p7x_153_s {X : Int → Int} {LX : Nat} : ck_Ok p1_O X LX 135 p7x_153 := ck_ok_s (ck_E1 (ck_S1 p7x_152_s ck_S0) ck_E0) ck_X0 ck_l0 p7x_153_e
set_option maxRecDepth 100000 in
def p7x_155 : ck_Sum := ((8, 1, 6), 245, [.inr (.inr (.inl 1)), .inl ((-2147483648), (-1), none), .inl (0, 39, none), .inl (300, 2147483647, none)], ([], [], [(3, 0, 0, ck_one 3)]), ([], []), [(.inl 3, 245, ([], [], []))])
set_option maxRecDepth 100000 in
theorem p7x_155_e : ck_ok p1_O none [] [(132, [p7x_134])] 136 [] 76 p7x_155 = true := by decide +kernel
theorem p7x_155_s {X : Int → Int} {LX : Nat} : ck_Ok p1_O X LX 136 p7x_155 := ck_ok_s (ck_E1 (ck_S1 p7x_134_s ck_S0) ck_E0) ck_X0 ck_l0 p7x_155_e
set_option maxRecDepth 100000 in
def p7x_156 : ck_Sum := ((9, 1, 6), 245, [.inr (.inr (.inl 1)), .inl ((-2147483648), (-1), none), .inl (0, 39, none), .inl (300, 2147483647, none), .inr (.inr (.inl 245))], ([], [], [(3, 0, 0, ck_one 3)]), ([], []), [(.inr (some (.inl (ck_one 1))), 245, ([], [], []))])
set_option maxRecDepth 100000 in
theorem p7x_156_e : ck_ok p1_O none [] [(136, [p7x_155])] 135 [] 90 p7x_156 = true := by decide +kernel
theorem p7x_156_s {X : Int → Int} {LX : Nat} : ck_Ok p1_O X LX 135 p7x_156 := ck_ok_s (ck_E1 (ck_S1 p7x_155_s ck_S0) ck_E0) ck_X0 ck_l0 p7x_156_e
set_option maxRecDepth 100000 in
def p7x_158 : ck_Sum := ((8, 1, 6), 245, [.inr (.inr (.inl 1)), .inl ((-2147483648), (-1), none), .inl (40, 2147483647, none), .inl ((-2147483648), (-1), none)], ([], [], [(3, 0, 0, ck_one 3)]), ([], []), [(.inl 3, 245, ([], [], []))])
set_option maxRecDepth 100000 in
theorem p7x_158_e : ck_ok p1_O none [] [(132, [p7x_134])] 136 [] 76 p7x_158 = true := by decide +kernel
theorem p7x_158_s {X : Int → Int} {LX : Nat} : ck_Ok p1_O X LX 136 p7x_158 := ck_ok_s (ck_E1 (ck_S1 p7x_134_s ck_S0) ck_E0) ck_X0 ck_l0 p7x_158_e
set_option maxRecDepth 100000 in
def p7x_159 : ck_Sum := ((9, 1, 6), 245, [.inr (.inr (.inl 1)), .inl ((-2147483648), (-1), none), .inl (40, 2147483647, none), .inl ((-2147483648), (-1), none), .inr (.inr (.inl 245))], ([], [], [(3, 0, 0, ck_one 3)]), ([], []), [(.inr (some (.inl (ck_one 1))), 245, ([], [], []))])
set_option maxRecDepth 100000 in
theorem p7x_159_e : ck_ok p1_O none [] [(136, [p7x_158])] 135 [] 90 p7x_159 = true := by decide +kernel
theorem p7x_159_s {X : Int → Int} {LX : Nat} : ck_Ok p1_O X LX 135 p7x_159 := ck_ok_s (ck_E1 (ck_S1 p7x_158_s ck_S0) ck_E0) ck_X0 ck_l0 p7x_159_e
set_option maxRecDepth 100000 in
def p7x_161 : ck_Sum := ((8, 1, 6), 245, [.inr (.inr (.inl 1)), .inl ((-2147483648), (-1), none), .inl (40, 2147483647, none), .inl (0, 299, none)], ([], [], [(3, 0, 0, ck_one 3)]), ([], []), [(.inl 3, 245, ([], [], []))])
set_option maxRecDepth 100000 in
theorem p7x_161_e : ck_ok p1_O none [] [(132, [p7x_134])] 136 [] 76 p7x_161 = true := by decide +kernel
theorem p7x_161_s {X : Int → Int} {LX : Nat} : ck_Ok p1_O X LX 136 p7x_161 := ck_ok_s (ck_E1 (ck_S1 p7x_134_s ck_S0) ck_E0) ck_X0 ck_l0 p7x_161_e
set_option maxRecDepth 100000 in
def p7x_162 : ck_Sum := ((9, 1, 6), 245, [.inr (.inr (.inl 1)), .inl ((-2147483648), (-1), none), .inl (40, 2147483647, none), .inl (0, 299, none), .inr (.inr (.inl 245))], ([], [], [(3, 0, 0, ck_one 3)]), ([], []), [(.inr (some (.inl (ck_one 1))), 245, ([], [], []))])
set_option maxRecDepth 100000 in
theorem p7x_162_e : ck_ok p1_O none [] [(136, [p7x_161])] 135 [] 90 p7x_162 = true := by decide +kernel
theorem p7x_162_s {X : Int → Int} {LX : Nat} : ck_Ok p1_O X LX 135 p7x_162 := ck_ok_s (ck_E1 (ck_S1 p7x_161_s ck_S0) ck_E0) ck_X0 ck_l0 p7x_162_e
set_option maxRecDepth 100000 in
def p7x_164 : ck_Sum := ((8, 1, 6), 245, [.inr (.inr (.inl 1)), .inl ((-2147483648), (-1), none), .inl (40, 2147483647, none), .inl (300, 2147483647, none)], ([], [], [(3, 0, 0, ck_one 3)]), ([], []), [(.inl 3, 245, ([], [], []))])
set_option maxRecDepth 100000 in
theorem p7x_164_e : ck_ok p1_O none [] [(132, [p7x_134])] 136 [] 76 p7x_164 = true := by decide +kernel
theorem p7x_164_s {X : Int → Int} {LX : Nat} : ck_Ok p1_O X LX 136 p7x_164 := ck_ok_s (ck_E1 (ck_S1 p7x_134_s ck_S0) ck_E0) ck_X0 ck_l0 p7x_164_e
set_option maxRecDepth 100000 in
def p7x_165 : ck_Sum := ((9, 1, 6), 245, [.inr (.inr (.inl 1)), .inl ((-2147483648), (-1), none), .inl (40, 2147483647, none), .inl (300, 2147483647, none), .inr (.inr (.inl 245))], ([], [], [(3, 0, 0, ck_one 3)]), ([], []), [(.inr (some (.inl (ck_one 1))), 245, ([], [], []))])
set_option maxRecDepth 100000 in
theorem p7x_165_e : ck_ok p1_O none [] [(136, [p7x_164])] 135 [] 90 p7x_165 = true := by decide +kernel
theorem p7x_165_s {X : Int → Int} {LX : Nat} : ck_Ok p1_O X LX 135 p7x_165 := ck_ok_s (ck_E1 (ck_S1 p7x_164_s ck_S0) ck_E0) ck_X0 ck_l0 p7x_165_e
set_option maxRecDepth 100000 in
def p7x_167 : ck_Sum := ((0, 0, 0), 245, [.inr (.inr (.inl 1)), .inl (0, 2, none), .inl (ck_one 3)], ([], [], []), ([], []), [(.inr none, 245, ([], [], []))])
set_option maxRecDepth 100000 in
theorem p7x_167_e : ck_ok p1_O none [] [] 133 [] 82 p7x_167 = true := by decide +kernel
theorem p7x_167_s {X : Int → Int} {LX : Nat} : ck_Ok p1_O X LX 133 p7x_167 := ck_ok_s (ck_E0) ck_X0 ck_l0 p7x_167_e
set_option maxRecDepth 100000 in
def p7x_168 : ck_Sum := ((1, 0, 0), 245, [.inr (.inr (.inl 1)), .inl (0, 2, none)], ([], [], [(3, 0, 0, ck_one 3)]), ([], []), [(.inr none, 245, ([], [], []))])
set_option maxRecDepth 100000 in
theorem p7x_168_e : ck_ok p1_O none [] [(133, [p7x_167])] 132 [] 84 p7x_168 = true := by decide +kernel
theorem p7x_168_s {X : Int → Int} {LX : Nat} : ck_Ok p1_O X LX 132 p7x_168 := ck_ok_s (ck_E1 (ck_S1 p7x_167_s ck_S0) ck_E0) ck_X0 ck_l0 p7x_168_e
set_option maxRecDepth 100000 in
def p7x_169 : ck_Sum := ((6, 1, 6), 245, [.inr (.inr (.inl 1)), .inl ((-2147483648), (-1), none), .inl (ck_one 40)], ([], [], []), ([], []), [(.inl 3, 245, ([], [], []))])
set_option maxRecDepth 100000 in
theorem p7x_169_e : ck_ok p1_O none [] [] 133 [] 76 p7x_169 = true := by decide +kernel
theorem p7x_169_s {X : Int → Int} {LX : Nat} : ck_Ok p1_O X LX 133 p7x_169 := ck_ok_s (ck_E0) ck_X0 ck_l0 p7x_169_e
set_option maxRecDepth 100000 in
def p7x_170 : ck_Sum := ((7, 1, 6), 245, [.inr (.inr (.inl 1)), .inl ((-2147483648), (-1), none)], ([], [], [(3, 1, 1, ck_one 40)]), ([], []), [(.inl 3, 245, ([], [], []))])
set_option maxRecDepth 100000 in
theorem p7x_170_e : ck_ok p1_O none [] [(133, [p7x_169])] 134 [] 82 p7x_170 = true := by decide +kernel
theorem p7x_170_s {X : Int → Int} {LX : Nat} : ck_Ok p1_O X LX 134 p7x_170 := ck_ok_s (ck_E1 (ck_S1 p7x_169_s ck_S0) ck_E0) ck_X0 ck_l0 p7x_170_e
set_option maxRecDepth 100000 in
def p7x_171 : ck_Sum := ((8, 1, 6), 245, [.inr (.inr (.inl 1)), .inl (0, 2, none), .inl ((-2147483648), (-1), none), .inl ((-2147483648), (-1), none)], ([], [], [(3, 1, 1, ck_one 40), (3, 0, 0, ck_one 3)]), ([], []), [(.inl 3, 245, ([], [], []))])
set_option maxRecDepth 100000 in
theorem p7x_171_e : ck_ok p1_O none [] [(132, [p7x_168]), (134, [p7x_170])] 136 [] 82 p7x_171 = true := by decide +kernel
theorem p7x_171_s {X : Int → Int} {LX : Nat} : ck_Ok p1_O X LX 136 p7x_171 := ck_ok_s (ck_E1 (ck_S1 p7x_168_s ck_S0) (ck_E1 (ck_S1 p7x_170_s ck_S0) ck_E0)) ck_X0 ck_l0 p7x_171_e
set_option maxRecDepth 100000 in
def p7x_172 : ck_Sum := ((9, 1, 6), 245, [.inr (.inr (.inl 1)), .inl (0, 2, none), .inl ((-2147483648), (-1), none), .inl ((-2147483648), (-1), none), .inr (.inr (.inl 245))], ([], [], [(3, 1, 1, ck_one 40), (3, 0, 0, ck_one 3)]), ([], []), [(.inr (some (.inl (ck_one 1))), 245, ([], [], []))])
set_option maxRecDepth 100000 in
theorem p7x_172_e : ck_ok p1_O none [] [(136, [p7x_171])] 135 [] 90 p7x_172 = true := by decide +kernel
theorem p7x_172_s {X : Int → Int} {LX : Nat} : ck_Ok p1_O X LX 135 p7x_172 := ck_ok_s (ck_E1 (ck_S1 p7x_171_s ck_S0) ck_E0) ck_X0 ck_l0 p7x_172_e
set_option maxRecDepth 100000 in
def p7x_179 : ck_Sum := ((8, 1, 6), 245, [.inr (.inr (.inl 1)), .inl (0, 2, none), .inl ((-2147483648), (-1), none), .inl (0, 299, none)], ([], [], [(3, 1, 1, ck_one 40), (3, 0, 0, ck_one 3)]), ([], []), [(.inl 3, 245, ([], [], []))])
set_option maxRecDepth 100000 in
theorem p7x_179_e : ck_ok p1_O none [] [(132, [p7x_168]), (134, [p7x_170])] 136 [] 82 p7x_179 = true := by decide +kernel
theorem p7x_179_s {X : Int → Int} {LX : Nat} : ck_Ok p1_O X LX 136 p7x_179 := ck_ok_s (ck_E1 (ck_S1 p7x_168_s ck_S0) (ck_E1 (ck_S1 p7x_170_s ck_S0) ck_E0)) ck_X0 ck_l0 p7x_179_e
set_option maxRecDepth 100000 in
def p7x_180 : ck_Sum := ((9, 1, 6), 245, [.inr (.inr (.inl 1)), .inl (0, 2, none), .inl ((-2147483648), (-1), none), .inl (0, 299, none), .inr (.inr (.inl 245))], ([], [], [(3, 1, 1, ck_one 40), (3, 0, 0, ck_one 3)]), ([], []), [(.inr (some (.inl (ck_one 1))), 245, ([], [], []))])
set_option maxRecDepth 100000 in
theorem p7x_180_e : ck_ok p1_O none [] [(136, [p7x_179])] 135 [] 90 p7x_180 = true := by decide +kernel
theorem p7x_180_s {X : Int → Int} {LX : Nat} : ck_Ok p1_O X LX 135 p7x_180 := ck_ok_s (ck_E1 (ck_S1 p7x_179_s ck_S0) ck_E0) ck_X0 ck_l0 p7x_180_e
set_option maxRecDepth 100000 in
def p7x_182 : ck_Sum := ((8, 1, 6), 245, [.inr (.inr (.inl 1)), .inl (0, 2, none), .inl ((-2147483648), (-1), none), .inl (300, 2147483647, none)], ([], [], [(3, 1, 1, ck_one 40), (3, 0, 0, ck_one 3)]), ([], []), [(.inl 3, 245, ([], [], []))])
set_option maxRecDepth 100000 in
theorem p7x_182_e : ck_ok p1_O none [] [(132, [p7x_168]), (134, [p7x_170])] 136 [] 82 p7x_182 = true := by decide +kernel
theorem p7x_182_s {X : Int → Int} {LX : Nat} : ck_Ok p1_O X LX 136 p7x_182 := ck_ok_s (ck_E1 (ck_S1 p7x_168_s ck_S0) (ck_E1 (ck_S1 p7x_170_s ck_S0) ck_E0)) ck_X0 ck_l0 p7x_182_e
set_option maxRecDepth 100000 in
def p7x_183 : ck_Sum := ((9, 1, 6), 245, [.inr (.inr (.inl 1)), .inl (0, 2, none), .inl ((-2147483648), (-1), none), .inl (300, 2147483647, none), .inr (.inr (.inl 245))], ([], [], [(3, 1, 1, ck_one 40), (3, 0, 0, ck_one 3)]), ([], []), [(.inr (some (.inl (ck_one 1))), 245, ([], [], []))])
set_option maxRecDepth 100000 in
theorem p7x_183_e : ck_ok p1_O none [] [(136, [p7x_182])] 135 [] 90 p7x_183 = true := by decide +kernel
theorem p7x_183_s {X : Int → Int} {LX : Nat} : ck_Ok p1_O X LX 135 p7x_183 := ck_ok_s (ck_E1 (ck_S1 p7x_182_s ck_S0) ck_E0) ck_X0 ck_l0 p7x_183_e
set_option maxRecDepth 100000 in
def p7x_185 : ck_Sum := ((0, 0, 0), 245, [.inr (.inr (.inl 1)), .inl (0, 39, none), .inl (ck_one 40)], ([], [], []), ([], []), [(.inr none, 245, ([], [], []))])
set_option maxRecDepth 100000 in
theorem p7x_185_e : ck_ok p1_O none [] [] 133 [] 82 p7x_185 = true := by decide +kernel
theorem p7x_185_s {X : Int → Int} {LX : Nat} : ck_Ok p1_O X LX 133 p7x_185 := ck_ok_s (ck_E0) ck_X0 ck_l0 p7x_185_e
set_option maxRecDepth 100000 in
def p7x_186 : ck_Sum := ((1, 0, 0), 245, [.inr (.inr (.inl 1)), .inl (0, 39, none)], ([], [], [(3, 1, 1, ck_one 40)]), ([], []), [(.inr none, 245, ([], [], []))])
set_option maxRecDepth 100000 in
theorem p7x_186_e : ck_ok p1_O none [] [(133, [p7x_185])] 134 [] 84 p7x_186 = true := by decide +kernel
theorem p7x_186_s {X : Int → Int} {LX : Nat} : ck_Ok p1_O X LX 134 p7x_186 := ck_ok_s (ck_E1 (ck_S1 p7x_185_s ck_S0) ck_E0) ck_X0 ck_l0 p7x_186_e
set_option maxRecDepth 100000 in
def p7x_187 : ck_Sum := ((6, 1, 6), 245, [.inr (.inr (.inl 1)), .inl ((-2147483648), (-1), none)], ([], [], []), ([], []), [(.inl 0, 245, ([], [], []))])
set_option maxRecDepth 100000 in
theorem p7x_187_e : ck_ok p1_O none [] [] 129 [] 76 p7x_187 = true := by decide +kernel
theorem p7x_187_s {X : Int → Int} {LX : Nat} : ck_Ok p1_O X LX 129 p7x_187 := ck_ok_s (ck_E0) ck_X0 ck_l0 p7x_187_e
set_option maxRecDepth 100000 in
def p7x_188 : ck_Sum := ((7, 1, 6), 245, [.inr (.inr (.inl 1)), .inl (0, 2, none), .inl (0, 39, none), .inl ((-2147483648), (-1), none)], ([], [], [(3, 1, 1, ck_one 40), (3, 0, 0, ck_one 3)]), ([], []), [(.inl 0, 245, ([], [], []))])
set_option maxRecDepth 100000 in
theorem p7x_188_e : ck_ok p1_O none [] [(132, [p7x_168]), (134, [p7x_186]), (129, [p7x_187])] 136 [] 88 p7x_188 = true := by decide +kernel
theorem p7x_188_s {X : Int → Int} {LX : Nat} : ck_Ok p1_O X LX 136 p7x_188 := ck_ok_s (ck_E1 (ck_S1 p7x_168_s ck_S0) (ck_E1 (ck_S1 p7x_186_s ck_S0) (ck_E1 (ck_S1 p7x_187_s ck_S0) ck_E0))) ck_X0 ck_l0 p7x_188_e
set_option maxRecDepth 100000 in
def p7x_189 : ck_Sum := ((8, 1, 6), 245, [.inr (.inr (.inl 1)), .inl (0, 2, none), .inl (0, 39, none), .inl ((-2147483648), (-1), none), .inr (.inr (.inl 245))], ([], [], [(3, 1, 1, ck_one 40), (3, 0, 0, ck_one 3)]), ([], []), [(.inr (some (.inl (ck_one 2))), 245, ([], [], []))])
set_option maxRecDepth 100000 in
theorem p7x_189_e : ck_ok p1_O none [] [(136, [p7x_188])] 135 [] 90 p7x_189 = true := by decide +kernel
theorem p7x_189_s {X : Int → Int} {LX : Nat} : ck_Ok p1_O X LX 135 p7x_189 := ck_ok_s (ck_E1 (ck_S1 p7x_188_s ck_S0) ck_E0) ck_X0 ck_l0 p7x_189_e
set_option maxRecDepth 100000 in
def p7x_198 : ck_Sum := ((0, 0, 0), 245, [.inr (.inr (.inl 1)), .inl (0, 299, none)], ([], [], []), ([], []), [(.inr none, 245, ([], [], []))])
set_option maxRecDepth 100000 in
theorem p7x_198_e : ck_ok p1_O none [] [] 129 [] 82 p7x_198 = true := by decide +kernel
theorem p7x_198_s {X : Int → Int} {LX : Nat} : ck_Ok p1_O X LX 129 p7x_198 := ck_ok_s (ck_E0) ck_X0 ck_l0 p7x_198_e
set_option maxRecDepth 100000 in
def p7x_199 : ck_Sum := ((0, 0, 0), 245, [.inr (.inr (.inl 200)), .inl (0, 2, none), .inl (0, 39, none)], ([], [], [(202, 0, 593, ck_one 0)]), ([], []), [(.inr (some (.inl (ck_one 0))), 245, ([], [], []))])
set_option maxRecDepth 100000 in
theorem p7x_199_e : ck_ok p1_O none [] [] 36 [] 108 p7x_199 = true := by decide +kernel
theorem p7x_199_s {X : Int → Int} {LX : Nat} : ck_Ok p1_O X LX 36 p7x_199 := ck_ok_s (ck_E0) ck_X0 ck_l0 p7x_199_e
set_option maxRecDepth 100000 in
def p7x_200 : ck_Sum := ((1, 0, 0), 245, [.inr (.inr (.inl 200)), .inl (0, 2, none), .inl (0, 39, none), .inl (0, 299, none)], ([], [(3, 8, 0)], [(202, 0, 593, ck_one 0)]), ([], []), [(.inr (some (.inl (ck_one 0))), 245, ([], [], []))])
set_option maxRecDepth 100000 in
theorem p7x_200_e : ck_ok p1_O none [] [(36, [p7x_199])] 35 [] 92 p7x_200 = true := by decide +kernel
theorem p7x_200_s {X : Int → Int} {LX : Nat} : ck_Ok p1_O X LX 35 p7x_200 := ck_ok_s (ck_E1 (ck_S1 p7x_199_s ck_S0) ck_E0) ck_X0 ck_l0 p7x_200_e
set_option maxRecDepth 100000 in
def p7x_201 : ck_Sum := ((2, 0, 0), 245, [.inr (.inr (.inl 1)), .inl (0, 2, none), .inl (0, 39, none), .inl (0, 299, none)], ([], [(3, 8, 0)], [(3, 1, 1, ck_one 40), (3, 0, 0, ck_one 3), (202, 0, 593, ck_one 0)]), ([], []), [(.inr (some (.inl (ck_one 0))), 245, ([], [], []))])
set_option maxRecDepth 100000 in
theorem p7x_201_e : ck_ok p1_O none [] [(132, [p7x_168]), (134, [p7x_186]), (129, [p7x_198]), (35, [p7x_200])] 136 [] 102 p7x_201 = true := by decide +kernel
theorem p7x_201_s {X : Int → Int} {LX : Nat} : ck_Ok p1_O X LX 136 p7x_201 := ck_ok_s (ck_E1 (ck_S1 p7x_168_s ck_S0) (ck_E1 (ck_S1 p7x_186_s ck_S0) (ck_E1 (ck_S1 p7x_198_s ck_S0) (ck_E1 (ck_S1 p7x_200_s ck_S0) ck_E0)))) ck_X0 ck_l0 p7x_201_e
set_option maxRecDepth 100000 in
def p7x_202 : ck_Sum := ((3, 0, 0), 245, [.inr (.inr (.inl 1)), .inl (0, 2, none), .inl (0, 39, none), .inl (0, 299, none), .inr (.inr (.inl 245))], ([], [(3, 8, 0)], [(3, 1, 1, ck_one 40), (3, 0, 0, ck_one 3), (202, 0, 593, ck_one 0)]), ([(245, 0, 0)], []), [(.inr (some (.inl (ck_one 0))), 245, ([], [], [(245, 0, 0, ck_one 0)]))])
set_option maxRecDepth 100000 in
theorem p7x_202_e : ck_ok p1_O none [] [(136, [p7x_201])] 135 [] 94 p7x_202 = true := by decide +kernel
theorem p7x_202_s {X : Int → Int} {LX : Nat} : ck_Ok p1_O X LX 135 p7x_202 := ck_ok_s (ck_E1 (ck_S1 p7x_201_s ck_S0) ck_E0) ck_X0 ck_l0 p7x_202_e
set_option maxRecDepth 100000 in
def p7x_213 : ck_Sum := ((6, 1, 6), 245, [.inr (.inr (.inl 1)), .inl (300, 2147483647, none)], ([], [], []), ([], []), [(.inl 0, 245, ([], [], []))])
set_option maxRecDepth 100000 in
theorem p7x_213_e : ck_ok p1_O none [] [] 129 [] 82 p7x_213 = true := by decide +kernel
theorem p7x_213_s {X : Int → Int} {LX : Nat} : ck_Ok p1_O X LX 129 p7x_213 := ck_ok_s (ck_E0) ck_X0 ck_l0 p7x_213_e
set_option maxRecDepth 100000 in
def p7x_214 : ck_Sum := ((7, 1, 6), 245, [.inr (.inr (.inl 1)), .inl (0, 2, none), .inl (0, 39, none), .inl (300, 2147483647, none)], ([], [], [(3, 1, 1, ck_one 40), (3, 0, 0, ck_one 3)]), ([], []), [(.inl 0, 245, ([], [], []))])
set_option maxRecDepth 100000 in
theorem p7x_214_e : ck_ok p1_O none [] [(132, [p7x_168]), (134, [p7x_186]), (129, [p7x_213])] 136 [] 88 p7x_214 = true := by decide +kernel
theorem p7x_214_s {X : Int → Int} {LX : Nat} : ck_Ok p1_O X LX 136 p7x_214 := ck_ok_s (ck_E1 (ck_S1 p7x_168_s ck_S0) (ck_E1 (ck_S1 p7x_186_s ck_S0) (ck_E1 (ck_S1 p7x_213_s ck_S0) ck_E0))) ck_X0 ck_l0 p7x_214_e
set_option maxRecDepth 100000 in
def p7x_215 : ck_Sum := ((8, 1, 6), 245, [.inr (.inr (.inl 1)), .inl (0, 2, none), .inl (0, 39, none), .inl (300, 2147483647, none), .inr (.inr (.inl 245))], ([], [], [(3, 1, 1, ck_one 40), (3, 0, 0, ck_one 3)]), ([], []), [(.inr (some (.inl (ck_one 2))), 245, ([], [], []))])
set_option maxRecDepth 100000 in
theorem p7x_215_e : ck_ok p1_O none [] [(136, [p7x_214])] 135 [] 90 p7x_215 = true := by decide +kernel
theorem p7x_215_s {X : Int → Int} {LX : Nat} : ck_Ok p1_O X LX 135 p7x_215 := ck_ok_s (ck_E1 (ck_S1 p7x_214_s ck_S0) ck_E0) ck_X0 ck_l0 p7x_215_e
set_option maxRecDepth 100000 in
def p7x_219 : ck_Sum := ((6, 1, 6), 245, [.inr (.inr (.inl 1)), .inl (40, 2147483647, none), .inl (ck_one 40)], ([], [], []), ([], []), [(.inl 3, 245, ([], [], []))])
set_option maxRecDepth 100000 in
theorem p7x_219_e : ck_ok p1_O none [] [] 133 [] 82 p7x_219 = true := by decide +kernel
theorem p7x_219_s {X : Int → Int} {LX : Nat} : ck_Ok p1_O X LX 133 p7x_219 := ck_ok_s (ck_E0) ck_X0 ck_l0 p7x_219_e
set_option maxRecDepth 100000 in
def p7x_220 : ck_Sum := ((7, 1, 6), 245, [.inr (.inr (.inl 1)), .inl (40, 2147483647, none)], ([], [], [(3, 1, 1, ck_one 40)]), ([], []), [(.inl 3, 245, ([], [], []))])
set_option maxRecDepth 100000 in
theorem p7x_220_e : ck_ok p1_O none [] [(133, [p7x_219])] 134 [] 82 p7x_220 = true := by decide +kernel
theorem p7x_220_s {X : Int → Int} {LX : Nat} : ck_Ok p1_O X LX 134 p7x_220 := ck_ok_s (ck_E1 (ck_S1 p7x_219_s ck_S0) ck_E0) ck_X0 ck_l0 p7x_220_e
set_option maxRecDepth 100000 in
def p7x_221 : ck_Sum := ((8, 1, 6), 245, [.inr (.inr (.inl 1)), .inl (0, 2, none), .inl (40, 2147483647, none), .inl ((-2147483648), (-1), none)], ([], [], [(3, 1, 1, ck_one 40), (3, 0, 0, ck_one 3)]), ([], []), [(.inl 3, 245, ([], [], []))])
set_option maxRecDepth 100000 in
theorem p7x_221_e : ck_ok p1_O none [] [(132, [p7x_168]), (134, [p7x_220])] 136 [] 82 p7x_221 = true := by decide +kernel
theorem p7x_221_s {X : Int → Int} {LX : Nat} : ck_Ok p1_O X LX 136 p7x_221 := ck_ok_s (ck_E1 (ck_S1 p7x_168_s ck_S0) (ck_E1 (ck_S1 p7x_220_s ck_S0) ck_E0)) ck_X0 ck_l0 p7x_221_e
set_option maxRecDepth 100000 in
def p7x_222 : ck_Sum := ((9, 1, 6), 245, [.inr (.inr (.inl 1)), .inl (0, 2, none), .inl (40, 2147483647, none), .inl ((-2147483648), (-1), none), .inr (.inr (.inl 245))], ([], [], [(3, 1, 1, ck_one 40), (3, 0, 0, ck_one 3)]), ([], []), [(.inr (some (.inl (ck_one 1))), 245, ([], [], []))])
set_option maxRecDepth 100000 in
theorem p7x_222_e : ck_ok p1_O none [] [(136, [p7x_221])] 135 [] 90 p7x_222 = true := by decide +kernel
theorem p7x_222_s {X : Int → Int} {LX : Nat} : ck_Ok p1_O X LX 135 p7x_222 := ck_ok_s (ck_E1 (ck_S1 p7x_221_s ck_S0) ck_E0) ck_X0 ck_l0 p7x_222_e
set_option maxRecDepth 100000 in
def p7x_226 : ck_Sum := ((8, 1, 6), 245, [.inr (.inr (.inl 1)), .inl (0, 2, none), .inl (40, 2147483647, none), .inl (0, 299, none)], ([], [], [(3, 1, 1, ck_one 40), (3, 0, 0, ck_one 3)]), ([], []), [(.inl 3, 245, ([], [], []))])
set_option maxRecDepth 100000 in
theorem p7x_226_e : ck_ok p1_O none [] [(132, [p7x_168]), (134, [p7x_220])] 136 [] 82 p7x_226 = true := by decide +kernel
theorem p7x_226_s {X : Int → Int} {LX : Nat} : ck_Ok p1_O X LX 136 p7x_226 := ck_ok_s (ck_E1 (ck_S1 p7x_168_s ck_S0) (ck_E1 (ck_S1 p7x_220_s ck_S0) ck_E0)) ck_X0 ck_l0 p7x_226_e
set_option maxRecDepth 100000 in
def p7x_227 : ck_Sum := ((9, 1, 6), 245, [.inr (.inr (.inl 1)), .inl (0, 2, none), .inl (40, 2147483647, none), .inl (0, 299, none), .inr (.inr (.inl 245))], ([], [], [(3, 1, 1, ck_one 40), (3, 0, 0, ck_one 3)]), ([], []), [(.inr (some (.inl (ck_one 1))), 245, ([], [], []))])
set_option maxRecDepth 100000 in
theorem p7x_227_e : ck_ok p1_O none [] [(136, [p7x_226])] 135 [] 90 p7x_227 = true := by decide +kernel
theorem p7x_227_s {X : Int → Int} {LX : Nat} : ck_Ok p1_O X LX 135 p7x_227 := ck_ok_s (ck_E1 (ck_S1 p7x_226_s ck_S0) ck_E0) ck_X0 ck_l0 p7x_227_e
set_option maxRecDepth 100000 in
def p7x_229 : ck_Sum := ((8, 1, 6), 245, [.inr (.inr (.inl 1)), .inl (0, 2, none), .inl (40, 2147483647, none), .inl (300, 2147483647, none)], ([], [], [(3, 1, 1, ck_one 40), (3, 0, 0, ck_one 3)]), ([], []), [(.inl 3, 245, ([], [], []))])
set_option maxRecDepth 100000 in
theorem p7x_229_e : ck_ok p1_O none [] [(132, [p7x_168]), (134, [p7x_220])] 136 [] 82 p7x_229 = true := by decide +kernel
theorem p7x_229_s {X : Int → Int} {LX : Nat} : ck_Ok p1_O X LX 136 p7x_229 := ck_ok_s (ck_E1 (ck_S1 p7x_168_s ck_S0) (ck_E1 (ck_S1 p7x_220_s ck_S0) ck_E0)) ck_X0 ck_l0 p7x_229_e
set_option maxRecDepth 100000 in
def p7x_230 : ck_Sum := ((9, 1, 6), 245, [.inr (.inr (.inl 1)), .inl (0, 2, none), .inl (40, 2147483647, none), .inl (300, 2147483647, none), .inr (.inr (.inl 245))], ([], [], [(3, 1, 1, ck_one 40), (3, 0, 0, ck_one 3)]), ([], []), [(.inr (some (.inl (ck_one 1))), 245, ([], [], []))])
set_option maxRecDepth 100000 in
theorem p7x_230_e : ck_ok p1_O none [] [(136, [p7x_229])] 135 [] 90 p7x_230 = true := by decide +kernel
theorem p7x_230_s {X : Int → Int} {LX : Nat} : ck_Ok p1_O X LX 135 p7x_230 := ck_ok_s (ck_E1 (ck_S1 p7x_229_s ck_S0) ck_E0) ck_X0 ck_l0 p7x_230_e
set_option maxRecDepth 100000 in
def p7x_232 : ck_Sum := ((6, 1, 6), 245, [.inr (.inr (.inl 1)), .inl (3, 2147483647, none), .inl (ck_one 3)], ([], [], []), ([], []), [(.inl 3, 245, ([], [], []))])
set_option maxRecDepth 100000 in
theorem p7x_232_e : ck_ok p1_O none [] [] 133 [] 82 p7x_232 = true := by decide +kernel
theorem p7x_232_s {X : Int → Int} {LX : Nat} : ck_Ok p1_O X LX 133 p7x_232 := ck_ok_s (ck_E0) ck_X0 ck_l0 p7x_232_e
set_option maxRecDepth 100000 in
def p7x_233 : ck_Sum := ((7, 1, 6), 245, [.inr (.inr (.inl 1)), .inl (3, 2147483647, none)], ([], [], [(3, 0, 0, ck_one 3)]), ([], []), [(.inl 3, 245, ([], [], []))])
set_option maxRecDepth 100000 in
theorem p7x_233_e : ck_ok p1_O none [] [(133, [p7x_232])] 132 [] 82 p7x_233 = true := by decide +kernel
theorem p7x_233_s {X : Int → Int} {LX : Nat} : ck_Ok p1_O X LX 132 p7x_233 := ck_ok_s (ck_E1 (ck_S1 p7x_232_s ck_S0) ck_E0) ck_X0 ck_l0 p7x_233_e
set_option maxRecDepth 100000 in
def p7x_234 : ck_Sum := ((8, 1, 6), 245, [.inr (.inr (.inl 1)), .inl (3, 2147483647, none), .inl ((-2147483648), (-1), none), .inl ((-2147483648), (-1), none)], ([], [], [(3, 0, 0, ck_one 3)]), ([], []), [(.inl 3, 245, ([], [], []))])
set_option maxRecDepth 100000 in
theorem p7x_234_e : ck_ok p1_O none [] [(132, [p7x_233])] 136 [] 76 p7x_234 = true := by decide +kernel
theorem p7x_234_s {X : Int → Int} {LX : Nat} : ck_Ok p1_O X LX 136 p7x_234 := ck_ok_s (ck_E1 (ck_S1 p7x_233_s ck_S0) ck_E0) ck_X0 ck_l0 p7x_234_e
set_option maxRecDepth 100000 in
def p7x_235 : ck_Sum := ((9, 1, 6), 245, [.inr (.inr (.inl 1)), .inl (3, 2147483647, none), .inl ((-2147483648), (-1), none), .inl ((-2147483648), (-1), none), .inr (.inr (.inl 245))], ([], [], [(3, 0, 0, ck_one 3)]), ([], []), [(.inr (some (.inl (ck_one 1))), 245, ([], [], []))])
set_option maxRecDepth 100000 in
theorem p7x_235_e : ck_ok p1_O none [] [(136, [p7x_234])] 135 [] 90 p7x_235 = true := by decide +kernel
theorem p7x_235_s {X : Int → Int} {LX : Nat} : ck_Ok p1_O X LX 135 p7x_235 := ck_ok_s (ck_E1 (ck_S1 p7x_234_s ck_S0) ck_E0) ck_X0 ck_l0 p7x_235_e
set_option maxRecDepth 100000 in
def p7x_239 : ck_Sum := ((8, 1, 6), 245, [.inr (.inr (.inl 1)), .inl (3, 2147483647, none), .inl ((-2147483648), (-1), none), .inl (0, 299, none)], ([], [], [(3, 0, 0, ck_one 3)]), ([], []), [(.inl 3, 245, ([], [], []))])
set_option maxRecDepth 100000 in
theorem p7x_239_e : ck_ok p1_O none [] [(132, [p7x_233])] 136 [] 76 p7x_239 = true := by decide +kernel
theorem p7x_239_s {X : Int → Int} {LX : Nat} : ck_Ok p1_O X LX 136 p7x_239 := ck_ok_s (ck_E1 (ck_S1 p7x_233_s ck_S0) ck_E0) ck_X0 ck_l0 p7x_239_e
set_option maxRecDepth 100000 in
def p7x_240 : ck_Sum := ((9, 1, 6), 245, [.inr (.inr (.inl 1)), .inl (3, 2147483647, none), .inl ((-2147483648), (-1), none), .inl (0, 299, none), .inr (.inr (.inl 245))], ([], [], [(3, 0, 0, ck_one 3)]), ([], []), [(.inr (some (.inl (ck_one 1))), 245, ([], [], []))])
set_option maxRecDepth 100000 in
theorem p7x_240_e : ck_ok p1_O none [] [(136, [p7x_239])] 135 [] 90 p7x_240 = true := by decide +kernel
theorem p7x_240_s {X : Int → Int} {LX : Nat} : ck_Ok p1_O X LX 135 p7x_240 := ck_ok_s (ck_E1 (ck_S1 p7x_239_s ck_S0) ck_E0) ck_X0 ck_l0 p7x_240_e
set_option maxRecDepth 100000 in
def p7x_242 : ck_Sum := ((8, 1, 6), 245, [.inr (.inr (.inl 1)), .inl (3, 2147483647, none), .inl ((-2147483648), (-1), none), .inl (300, 2147483647, none)], ([], [], [(3, 0, 0, ck_one 3)]), ([], []), [(.inl 3, 245, ([], [], []))])
set_option maxRecDepth 100000 in
theorem p7x_242_e : ck_ok p1_O none [] [(132, [p7x_233])] 136 [] 76 p7x_242 = true := by decide +kernel
theorem p7x_242_s {X : Int → Int} {LX : Nat} : ck_Ok p1_O X LX 136 p7x_242 := ck_ok_s (ck_E1 (ck_S1 p7x_233_s ck_S0) ck_E0) ck_X0 ck_l0 p7x_242_e
set_option maxRecDepth 100000 in
def p7x_243 : ck_Sum := ((9, 1, 6), 245, [.inr (.inr (.inl 1)), .inl (3, 2147483647, none), .inl ((-2147483648), (-1), none), .inl (300, 2147483647, none), .inr (.inr (.inl 245))], ([], [], [(3, 0, 0, ck_one 3)]), ([], []), [(.inr (some (.inl (ck_one 1))), 245, ([], [], []))])
set_option maxRecDepth 100000 in
theorem p7x_243_e : ck_ok p1_O none [] [(136, [p7x_242])] 135 [] 90 p7x_243 = true := by decide +kernel
theorem p7x_243_s {X : Int → Int} {LX : Nat} : ck_Ok p1_O X LX 135 p7x_243 := ck_ok_s (ck_E1 (ck_S1 p7x_242_s ck_S0) ck_E0) ck_X0 ck_l0 p7x_243_e
set_option maxRecDepth 100000 in
def p7x_245 : ck_Sum := ((8, 1, 6), 245, [.inr (.inr (.inl 1)), .inl (3, 2147483647, none), .inl (0, 39, none), .inl ((-2147483648), (-1), none)], ([], [], [(3, 0, 0, ck_one 3)]), ([], []), [(.inl 3, 245, ([], [], []))])
set_option maxRecDepth 100000 in
theorem p7x_245_e : ck_ok p1_O none [] [(132, [p7x_233])] 136 [] 76 p7x_245 = true := by decide +kernel
theorem p7x_245_s {X : Int → Int} {LX : Nat} : ck_Ok p1_O X LX 136 p7x_245 := ck_ok_s (ck_E1 (ck_S1 p7x_233_s ck_S0) ck_E0) ck_X0 ck_l0 p7x_245_e
set_option maxRecDepth 100000 in
def p7x_246 : ck_Sum := ((9, 1, 6), 245, [.inr (.inr (.inl 1)), .inl (3, 2147483647, none), .inl (0, 39, none), .inl ((-2147483648), (-1), none), .inr (.inr (.inl 245))], ([], [], [(3, 0, 0, ck_one 3)]), ([], []), [(.inr (some (.inl (ck_one 1))), 245, ([], [], []))])
set_option maxRecDepth 100000 in
theorem p7x_246_e : ck_ok p1_O none [] [(136, [p7x_245])] 135 [] 90 p7x_246 = true := by decide +kernel
theorem p7x_246_s {X : Int → Int} {LX : Nat} : ck_Ok p1_O X LX 135 p7x_246 := ck_ok_s (ck_E1 (ck_S1 p7x_245_s ck_S0) ck_E0) ck_X0 ck_l0 p7x_246_e
set_option maxRecDepth 100000 in
def p7x_248 : ck_Sum := ((8, 1, 6), 245, [.inr (.inr (.inl 1)), .inl (3, 2147483647, none), .inl (0, 39, none), .inl (0, 299, none)], ([], [], [(3, 0, 0, ck_one 3)]), ([], []), [(.inl 3, 245, ([], [], []))])
set_option maxRecDepth 100000 in
theorem p7x_248_e : ck_ok p1_O none [] [(132, [p7x_233])] 136 [] 76 p7x_248 = true := by decide +kernel
theorem p7x_248_s {X : Int → Int} {LX : Nat} : ck_Ok p1_O X LX 136 p7x_248 := ck_ok_s (ck_E1 (ck_S1 p7x_233_s ck_S0) ck_E0) ck_X0 ck_l0 p7x_248_e
set_option maxRecDepth 100000 in
def p7x_249 : ck_Sum := ((9, 1, 6), 245, [.inr (.inr (.inl 1)), .inl (3, 2147483647, none), .inl (0, 39, none), .inl (0, 299, none), .inr (.inr (.inl 245))], ([], [], [(3, 0, 0, ck_one 3)]), ([], []), [(.inr (some (.inl (ck_one 1))), 245, ([], [], []))])
set_option maxRecDepth 100000 in
theorem p7x_249_e : ck_ok p1_O none [] [(136, [p7x_248])] 135 [] 90 p7x_249 = true := by decide +kernel
theorem p7x_249_s {X : Int → Int} {LX : Nat} : ck_Ok p1_O X LX 135 p7x_249 := ck_ok_s (ck_E1 (ck_S1 p7x_248_s ck_S0) ck_E0) ck_X0 ck_l0 p7x_249_e
set_option maxRecDepth 100000 in
def p7x_251 : ck_Sum := ((8, 1, 6), 245, [.inr (.inr (.inl 1)), .inl (3, 2147483647, none), .inl (0, 39, none), .inl (300, 2147483647, none)], ([], [], [(3, 0, 0, ck_one 3)]), ([], []), [(.inl 3, 245, ([], [], []))])
set_option maxRecDepth 100000 in
theorem p7x_251_e : ck_ok p1_O none [] [(132, [p7x_233])] 136 [] 76 p7x_251 = true := by decide +kernel
theorem p7x_251_s {X : Int → Int} {LX : Nat} : ck_Ok p1_O X LX 136 p7x_251 := ck_ok_s (ck_E1 (ck_S1 p7x_233_s ck_S0) ck_E0) ck_X0 ck_l0 p7x_251_e
set_option maxRecDepth 100000 in
def p7x_252 : ck_Sum := ((9, 1, 6), 245, [.inr (.inr (.inl 1)), .inl (3, 2147483647, none), .inl (0, 39, none), .inl (300, 2147483647, none), .inr (.inr (.inl 245))], ([], [], [(3, 0, 0, ck_one 3)]), ([], []), [(.inr (some (.inl (ck_one 1))), 245, ([], [], []))])
set_option maxRecDepth 100000 in
theorem p7x_252_e : ck_ok p1_O none [] [(136, [p7x_251])] 135 [] 90 p7x_252 = true := by decide +kernel
theorem p7x_252_s {X : Int → Int} {LX : Nat} : ck_Ok p1_O X LX 135 p7x_252 := ck_ok_s (ck_E1 (ck_S1 p7x_251_s ck_S0) ck_E0) ck_X0 ck_l0 p7x_252_e
set_option maxRecDepth 100000 in
def p7x_254 : ck_Sum := ((8, 1, 6), 245, [.inr (.inr (.inl 1)), .inl (3, 2147483647, none), .inl (40, 2147483647, none), .inl ((-2147483648), (-1), none)], ([], [], [(3, 0, 0, ck_one 3)]), ([], []), [(.inl 3, 245, ([], [], []))])
set_option maxRecDepth 100000 in
theorem p7x_254_e : ck_ok p1_O none [] [(132, [p7x_233])] 136 [] 76 p7x_254 = true := by decide +kernel
theorem p7x_254_s {X : Int → Int} {LX : Nat} : ck_Ok p1_O X LX 136 p7x_254 := ck_ok_s (ck_E1 (ck_S1 p7x_233_s ck_S0) ck_E0) ck_X0 ck_l0 p7x_254_e
set_option maxRecDepth 100000 in
def p7x_255 : ck_Sum := ((9, 1, 6), 245, [.inr (.inr (.inl 1)), .inl (3, 2147483647, none), .inl (40, 2147483647, none), .inl ((-2147483648), (-1), none), .inr (.inr (.inl 245))], ([], [], [(3, 0, 0, ck_one 3)]), ([], []), [(.inr (some (.inl (ck_one 1))), 245, ([], [], []))])
set_option maxRecDepth 100000 in
theorem p7x_255_e : ck_ok p1_O none [] [(136, [p7x_254])] 135 [] 90 p7x_255 = true := by decide +kernel
theorem p7x_255_s {X : Int → Int} {LX : Nat} : ck_Ok p1_O X LX 135 p7x_255 := ck_ok_s (ck_E1 (ck_S1 p7x_254_s ck_S0) ck_E0) ck_X0 ck_l0 p7x_255_e
set_option maxRecDepth 100000 in
def p7x_257 : ck_Sum := ((8, 1, 6), 245, [.inr (.inr (.inl 1)), .inl (3, 2147483647, none), .inl (40, 2147483647, none), .inl (0, 299, none)], ([], [], [(3, 0, 0, ck_one 3)]), ([], []), [(.inl 3, 245, ([], [], []))])
set_option maxRecDepth 100000 in
theorem p7x_257_e : ck_ok p1_O none [] [(132, [p7x_233])] 136 [] 76 p7x_257 = true := by decide +kernel
theorem p7x_257_s {X : Int → Int} {LX : Nat} : ck_Ok p1_O X LX 136 p7x_257 := ck_ok_s (ck_E1 (ck_S1 p7x_233_s ck_S0) ck_E0) ck_X0 ck_l0 p7x_257_e
set_option maxRecDepth 100000 in
def p7x_258 : ck_Sum := ((9, 1, 6), 245, [.inr (.inr (.inl 1)), .inl (3, 2147483647, none), .inl (40, 2147483647, none), .inl (0, 299, none), .inr (.inr (.inl 245))], ([], [], [(3, 0, 0, ck_one 3)]), ([], []), [(.inr (some (.inl (ck_one 1))), 245, ([], [], []))])
set_option maxRecDepth 100000 in
theorem p7x_258_e : ck_ok p1_O none [] [(136, [p7x_257])] 135 [] 90 p7x_258 = true := by decide +kernel
theorem p7x_258_s {X : Int → Int} {LX : Nat} : ck_Ok p1_O X LX 135 p7x_258 := ck_ok_s (ck_E1 (ck_S1 p7x_257_s ck_S0) ck_E0) ck_X0 ck_l0 p7x_258_e
set_option maxRecDepth 100000 in
def p7x_260 : ck_Sum := ((8, 1, 6), 245, [.inr (.inr (.inl 1)), .inl (3, 2147483647, none), .inl (40, 2147483647, none), .inl (300, 2147483647, none)], ([], [], [(3, 0, 0, ck_one 3)]), ([], []), [(.inl 3, 245, ([], [], []))])
set_option maxRecDepth 100000 in
theorem p7x_260_e : ck_ok p1_O none [] [(132, [p7x_233])] 136 [] 76 p7x_260 = true := by decide +kernel
theorem p7x_260_s {X : Int → Int} {LX : Nat} : ck_Ok p1_O X LX 136 p7x_260 := ck_ok_s (ck_E1 (ck_S1 p7x_233_s ck_S0) ck_E0) ck_X0 ck_l0 p7x_260_e
set_option maxRecDepth 100000 in
def p7x_261 : ck_Sum := ((9, 1, 6), 245, [.inr (.inr (.inl 1)), .inl (3, 2147483647, none), .inl (40, 2147483647, none), .inl (300, 2147483647, none), .inr (.inr (.inl 245))], ([], [], [(3, 0, 0, ck_one 3)]), ([], []), [(.inr (some (.inl (ck_one 1))), 245, ([], [], []))])
set_option maxRecDepth 100000 in
theorem p7x_261_e : ck_ok p1_O none [] [(136, [p7x_260])] 135 [] 90 p7x_261 = true := by decide +kernel
theorem p7x_261_s {X : Int → Int} {LX : Nat} : ck_Ok p1_O X LX 135 p7x_261 := ck_ok_s (ck_E1 (ck_S1 p7x_260_s ck_S0) ck_E0) ck_X0 ck_l0 p7x_261_e
set_option maxRecDepth 100000 in
def p7x_137 : ck_Sum := ((0, 0, 0), 245, [.inr (.inr (.inl 226))], ([], [], [(227, 0, 0, ck_one 3)]), ([], []), [(.inr (some (.inl (ck_one 3))), 245, ([], [], []))])
set_option maxRecDepth 100000 in
theorem p7x_137_e : ck_ok p1_O none [] [] 262 [] 80 p7x_137 = true := by decide +kernel
theorem p7x_137_s {X : Int → Int} {LX : Nat} : ck_Ok p1_O X LX 262 p7x_137 := ck_ok_s (ck_E0) ck_X0 ck_l0 p7x_137_e
set_option maxRecDepth 100000 in
def p7x_138 : ck_Sum := ((0, 0, 0), 245, [.inl ((-2147483648), (-1), none), .inl (ck_one 0), .inl (ck_one 2)], ([], [], []), ([], []), [(.inr (some (.inl (ck_one 0))), 245, ([], [], []))])
set_option maxRecDepth 100000 in
theorem p7x_138_e : ck_ok p1_O none [] [] 287 [] 80 p7x_138 = true := by decide +kernel
theorem p7x_138_s {X : Int → Int} {LX : Nat} : ck_Ok p1_O X LX 287 p7x_138 := ck_ok_s (ck_E0) ck_X0 ck_l0 p7x_138_e
set_option maxRecDepth 100000 in
def p7x_139 : ck_Sum := ((1, 0, 0), 245, [.inr (.inr (.inl 226)), .inl ((-2147483648), (-1), none)], ([], [], [(227, 0, 0, ck_one 3)]), ([], []), [(.inr (some (.inl (ck_one 1))), 245, ([], [], []))])
set_option maxRecDepth 100000 in
theorem p7x_139_e : ck_ok p1_O none [] [(262, [p7x_137]), (287, [p7x_138])] 289 [] 92 p7x_139 = true := by decide +kernel
theorem p7x_139_s {X : Int → Int} {LX : Nat} : ck_Ok p1_O X LX 289 p7x_139 := ck_ok_s (ck_E1 (ck_S1 p7x_137_s ck_S0) (ck_E1 (ck_S1 p7x_138_s ck_S0) ck_E0)) ck_X0 ck_l0 p7x_139_e
set_option maxRecDepth 100000 in
def p7x_140 : ck_Sum := ((0, 0, 0), 245, [.inr (.inr (.inl 226)), .inl (ck_one 1), .inl (ck_one 1)], ([], [], []), ([(226, 0, 0)], []), [(.inr (some (.inl (ck_one 1))), 245, ([], [], [(226, 0, 0, ck_one 1)]))])
set_option maxRecDepth 100000 in
theorem p7x_140_e : ck_ok p1_O none [] [] 283 [] 84 p7x_140 = true := by decide +kernel
theorem p7x_140_s {X : Int → Int} {LX : Nat} : ck_Ok p1_O X LX 283 p7x_140 := ck_ok_s (ck_E0) ck_X0 ck_l0 p7x_140_e
set_option maxRecDepth 100000 in
def p7x_141 : ck_Sum := ((2, 0, 0), 245, [.inr (.inr (.inl 226)), .inl ((-2147483648), (-1), none), .inl ((-2147483648), (-1), none), .inl ((-2147483648), (-1), none)], ([], [], [(227, 0, 0, ck_one 3)]), ([(226, 0, 0)], []), [(.inr (some (.inl (ck_one 0))), 245, ([], [], [(226, 0, 0, ck_one 1)]))])
set_option maxRecDepth 100000 in
theorem p7x_141_e : ck_ok p1_O none [] [(289, [p7x_139]), (283, [p7x_140])] 292 [] 102 p7x_141 = true := by decide +kernel
theorem p7x_141_s {X : Int → Int} {LX : Nat} : ck_Ok p1_O X LX 292 p7x_141 := ck_ok_s (ck_E1 (ck_S1 p7x_139_s ck_S0) (ck_E1 (ck_S1 p7x_140_s ck_S0) ck_E0)) ck_X0 ck_l0 p7x_141_e
set_option maxRecDepth 100000 in
def p7x_145 : ck_Sum := ((2, 0, 0), 245, [.inr (.inr (.inl 226)), .inl ((-2147483648), (-1), none), .inl ((-2147483648), (-1), none), .inl (0, 299, none)], ([], [], [(227, 0, 0, ck_one 3)]), ([(226, 0, 0)], []), [(.inr (some (.inl (ck_one 0))), 245, ([], [], [(226, 0, 0, ck_one 1)]))])
set_option maxRecDepth 100000 in
theorem p7x_145_e : ck_ok p1_O none [] [(289, [p7x_139]), (283, [p7x_140])] 292 [] 102 p7x_145 = true := by decide +kernel
theorem p7x_145_s {X : Int → Int} {LX : Nat} : ck_Ok p1_O X LX 292 p7x_145 := ck_ok_s (ck_E1 (ck_S1 p7x_139_s ck_S0) (ck_E1 (ck_S1 p7x_140_s ck_S0) ck_E0)) ck_X0 ck_l0 p7x_145_e
set_option maxRecDepth 100000 in
def p7x_148 : ck_Sum := ((2, 0, 0), 245, [.inr (.inr (.inl 226)), .inl ((-2147483648), (-1), none), .inl ((-2147483648), (-1), none), .inl (300, 2147483647, none)], ([], [], [(227, 0, 0, ck_one 3)]), ([(226, 0, 0)], []), [(.inr (some (.inl (ck_one 0))), 245, ([], [], [(226, 0, 0, ck_one 1)]))])
set_option maxRecDepth 100000 in
theorem p7x_148_e : ck_ok p1_O none [] [(289, [p7x_139]), (283, [p7x_140])] 292 [] 102 p7x_148 = true := by decide +kernel
theorem p7x_148_s {X : Int → Int} {LX : Nat} : ck_Ok p1_O X LX 292 p7x_148 := ck_ok_s (ck_E1 (ck_S1 p7x_139_s ck_S0) (ck_E1 (ck_S1 p7x_140_s ck_S0) ck_E0)) ck_X0 ck_l0 p7x_148_e
set_option maxRecDepth 100000 in
def p7x_151 : ck_Sum := ((2, 0, 0), 245, [.inr (.inr (.inl 226)), .inl ((-2147483648), (-1), none), .inl (0, 39, none), .inl ((-2147483648), (-1), none)], ([], [], [(227, 0, 0, ck_one 3)]), ([(226, 0, 0)], []), [(.inr (some (.inl (ck_one 0))), 245, ([], [], [(226, 0, 0, ck_one 1)]))])
set_option maxRecDepth 100000 in
theorem p7x_151_e : ck_ok p1_O none [] [(289, [p7x_139]), (283, [p7x_140])] 292 [] 102 p7x_151 = true := by decide +kernel
theorem p7x_151_s {X : Int → Int} {LX : Nat} : ck_Ok p1_O X LX 292 p7x_151 := ck_ok_s (ck_E1 (ck_S1 p7x_139_s ck_S0) (ck_E1 (ck_S1 p7x_140_s ck_S0) ck_E0)) ck_X0 ck_l0 p7x_151_e
set_option maxRecDepth 100000 in
def p7x_154 : ck_Sum := ((2, 0, 0), 245, [.inr (.inr (.inl 226)), .inl ((-2147483648), (-1), none), .inl (0, 39, none), .inl (0, 299, none)], ([], [], [(227, 0, 0, ck_one 3)]), ([(226, 0, 0)], []), [(.inr (some (.inl (ck_one 0))), 245, ([], [], [(226, 0, 0, ck_one 1)]))])
set_option maxRecDepth 100000 in
theorem p7x_154_e : ck_ok p1_O none [] [(289, [p7x_139]), (283, [p7x_140])] 292 [] 102 p7x_154 = true := by decide +kernel
theorem p7x_154_s {X : Int → Int} {LX : Nat} : ck_Ok p1_O X LX 292 p7x_154 := ck_ok_s (ck_E1 (ck_S1 p7x_139_s ck_S0) (ck_E1 (ck_S1 p7x_140_s ck_S0) ck_E0)) ck_X0 ck_l0 p7x_154_e
set_option maxRecDepth 100000 in
def p7x_157 : ck_Sum := ((2, 0, 0), 245, [.inr (.inr (.inl 226)), .inl ((-2147483648), (-1), none), .inl (0, 39, none), .inl (300, 2147483647, none)], ([], [], [(227, 0, 0, ck_one 3)]), ([(226, 0, 0)], []), [(.inr (some (.inl (ck_one 0))), 245, ([], [], [(226, 0, 0, ck_one 1)]))])
set_option maxRecDepth 100000 in
theorem p7x_157_e : ck_ok p1_O none [] [(289, [p7x_139]), (283, [p7x_140])] 292 [] 102 p7x_157 = true := by decide +kernel
theorem p7x_157_s {X : Int → Int} {LX : Nat} : ck_Ok p1_O X LX 292 p7x_157 := ck_ok_s (ck_E1 (ck_S1 p7x_139_s ck_S0) (ck_E1 (ck_S1 p7x_140_s ck_S0) ck_E0)) ck_X0 ck_l0 p7x_157_e
set_option maxRecDepth 100000 in
def p7x_160 : ck_Sum := ((2, 0, 0), 245, [.inr (.inr (.inl 226)), .inl ((-2147483648), (-1), none), .inl (40, 2147483647, none), .inl ((-2147483648), (-1), none)], ([], [], [(227, 0, 0, ck_one 3)]), ([(226, 0, 0)], []), [(.inr (some (.inl (ck_one 0))), 245, ([], [], [(226, 0, 0, ck_one 1)]))])
set_option maxRecDepth 100000 in
theorem p7x_160_e : ck_ok p1_O none [] [(289, [p7x_139]), (283, [p7x_140])] 292 [] 102 p7x_160 = true := by decide +kernel
theorem p7x_160_s {X : Int → Int} {LX : Nat} : ck_Ok p1_O X LX 292 p7x_160 := ck_ok_s (ck_E1 (ck_S1 p7x_139_s ck_S0) (ck_E1 (ck_S1 p7x_140_s ck_S0) ck_E0)) ck_X0 ck_l0 p7x_160_e
set_option maxRecDepth 100000 in
def p7x_163 : ck_Sum := ((2, 0, 0), 245, [.inr (.inr (.inl 226)), .inl ((-2147483648), (-1), none), .inl (40, 2147483647, none), .inl (0, 299, none)], ([], [], [(227, 0, 0, ck_one 3)]), ([(226, 0, 0)], []), [(.inr (some (.inl (ck_one 0))), 245, ([], [], [(226, 0, 0, ck_one 1)]))])
set_option maxRecDepth 100000 in
theorem p7x_163_e : ck_ok p1_O none [] [(289, [p7x_139]), (283, [p7x_140])] 292 [] 102 p7x_163 = true := by decide +kernel
theorem p7x_163_s {X : Int → Int} {LX : Nat} : ck_Ok p1_O X LX 292 p7x_163 := ck_ok_s (ck_E1 (ck_S1 p7x_139_s ck_S0) (ck_E1 (ck_S1 p7x_140_s ck_S0) ck_E0)) ck_X0 ck_l0 p7x_163_e
set_option maxRecDepth 100000 in
def p7x_166 : ck_Sum := ((2, 0, 0), 245, [.inr (.inr (.inl 226)), .inl ((-2147483648), (-1), none), .inl (40, 2147483647, none), .inl (300, 2147483647, none)], ([], [], [(227, 0, 0, ck_one 3)]), ([(226, 0, 0)], []), [(.inr (some (.inl (ck_one 0))), 245, ([], [], [(226, 0, 0, ck_one 1)]))])
set_option maxRecDepth 100000 in
theorem p7x_166_e : ck_ok p1_O none [] [(289, [p7x_139]), (283, [p7x_140])] 292 [] 102 p7x_166 = true := by decide +kernel
theorem p7x_166_s {X : Int → Int} {LX : Nat} : ck_Ok p1_O X LX 292 p7x_166 := ck_ok_s (ck_E1 (ck_S1 p7x_139_s ck_S0) (ck_E1 (ck_S1 p7x_140_s ck_S0) ck_E0)) ck_X0 ck_l0 p7x_166_e
set_option maxRecDepth 100000 in
def p7x_173 : ck_Sum := ((0, 0, 0), 245, [.inl (0, 2, none), .inl (ck_one 0), .inl (ck_one 2)], ([], [], []), ([], []), [(.inr (some (.inl (ck_one 1))), 245, ([], [], []))])
set_option maxRecDepth 100000 in
theorem p7x_173_e : ck_ok p1_O none [] [] 287 [] 88 p7x_173 = true := by decide +kernel
theorem p7x_173_s {X : Int → Int} {LX : Nat} : ck_Ok p1_O X LX 287 p7x_173 := ck_ok_s (ck_E0) ck_X0 ck_l0 p7x_173_e
set_option maxRecDepth 100000 in
def p7x_174 : ck_Sum := ((1, 0, 0), 245, [.inr (.inr (.inl 226)), .inl (0, 2, none)], ([], [], [(227, 0, 0, ck_one 3)]), ([], []), [(.inr (some (.inl (ck_one 0))), 245, ([], [], []))])
set_option maxRecDepth 100000 in
theorem p7x_174_e : ck_ok p1_O none [] [(262, [p7x_137]), (287, [p7x_173])] 289 [] 90 p7x_174 = true := by decide +kernel
theorem p7x_174_s {X : Int → Int} {LX : Nat} : ck_Ok p1_O X LX 289 p7x_174 := ck_ok_s (ck_E1 (ck_S1 p7x_137_s ck_S0) (ck_E1 (ck_S1 p7x_173_s ck_S0) ck_E0)) ck_X0 ck_l0 p7x_174_e
set_option maxRecDepth 100000 in
def p7x_175 : ck_Sum := ((0, 0, 0), 245, [.inr (.inr (.inl 226))], ([], [], [(227, 1, 1, ck_one 40)]), ([], []), [(.inr (some (.inl (ck_one 40))), 245, ([], [], []))])
set_option maxRecDepth 100000 in
theorem p7x_175_e : ck_ok p1_O none [] [] 260 [] 80 p7x_175 = true := by decide +kernel
theorem p7x_175_s {X : Int → Int} {LX : Nat} : ck_Ok p1_O X LX 260 p7x_175 := ck_ok_s (ck_E0) ck_X0 ck_l0 p7x_175_e
set_option maxRecDepth 100000 in
def p7x_176 : ck_Sum := ((0, 0, 0), 245, [.inl ((-2147483648), (-1), none), .inl (ck_one 0), .inl (ck_one 39)], ([], [], []), ([], []), [(.inr (some (.inl (ck_one 0))), 245, ([], [], []))])
set_option maxRecDepth 100000 in
theorem p7x_176_e : ck_ok p1_O none [] [] 287 [] 80 p7x_176 = true := by decide +kernel
theorem p7x_176_s {X : Int → Int} {LX : Nat} : ck_Ok p1_O X LX 287 p7x_176 := ck_ok_s (ck_E0) ck_X0 ck_l0 p7x_176_e
set_option maxRecDepth 100000 in
def p7x_177 : ck_Sum := ((1, 0, 0), 245, [.inr (.inr (.inl 226)), .inl ((-2147483648), (-1), none)], ([], [], [(227, 1, 1, ck_one 40)]), ([], []), [(.inr (some (.inl (ck_one 1))), 245, ([], [], []))])
set_option maxRecDepth 100000 in
theorem p7x_177_e : ck_ok p1_O none [] [(260, [p7x_175]), (287, [p7x_176])] 290 [] 92 p7x_177 = true := by decide +kernel
theorem p7x_177_s {X : Int → Int} {LX : Nat} : ck_Ok p1_O X LX 290 p7x_177 := ck_ok_s (ck_E1 (ck_S1 p7x_175_s ck_S0) (ck_E1 (ck_S1 p7x_176_s ck_S0) ck_E0)) ck_X0 ck_l0 p7x_177_e
set_option maxRecDepth 100000 in
def p7x_178 : ck_Sum := ((2, 0, 0), 245, [.inr (.inr (.inl 226)), .inl (0, 2, none), .inl ((-2147483648), (-1), none), .inl ((-2147483648), (-1), none)], ([], [], [(227, 1, 1, ck_one 40), (227, 0, 0, ck_one 3)]), ([(226, 0, 0)], []), [(.inr (some (.inl (ck_one 0))), 245, ([], [], [(226, 0, 0, ck_one 1)]))])
set_option maxRecDepth 100000 in
theorem p7x_178_e : ck_ok p1_O none [] [(289, [p7x_174]), (290, [p7x_177]), (283, [p7x_140])] 292 [] 110 p7x_178 = true := by decide +kernel
theorem p7x_178_s {X : Int → Int} {LX : Nat} : ck_Ok p1_O X LX 292 p7x_178 := ck_ok_s (ck_E1 (ck_S1 p7x_174_s ck_S0) (ck_E1 (ck_S1 p7x_177_s ck_S0) (ck_E1 (ck_S1 p7x_140_s ck_S0) ck_E0))) ck_X0 ck_l0 p7x_178_e
set_option maxRecDepth 100000 in
def p7x_181 : ck_Sum := ((2, 0, 0), 245, [.inr (.inr (.inl 226)), .inl (0, 2, none), .inl ((-2147483648), (-1), none), .inl (0, 299, none)], ([], [], [(227, 1, 1, ck_one 40), (227, 0, 0, ck_one 3)]), ([(226, 0, 0)], []), [(.inr (some (.inl (ck_one 0))), 245, ([], [], [(226, 0, 0, ck_one 1)]))])
set_option maxRecDepth 100000 in
theorem p7x_181_e : ck_ok p1_O none [] [(289, [p7x_174]), (290, [p7x_177]), (283, [p7x_140])] 292 [] 110 p7x_181 = true := by decide +kernel
theorem p7x_181_s {X : Int → Int} {LX : Nat} : ck_Ok p1_O X LX 292 p7x_181 := ck_ok_s (ck_E1 (ck_S1 p7x_174_s ck_S0) (ck_E1 (ck_S1 p7x_177_s ck_S0) (ck_E1 (ck_S1 p7x_140_s ck_S0) ck_E0))) ck_X0 ck_l0 p7x_181_e
set_option maxRecDepth 100000 in
def p7x_184 : ck_Sum := ((2, 0, 0), 245, [.inr (.inr (.inl 226)), .inl (0, 2, none), .inl ((-2147483648), (-1), none), .inl (300, 2147483647, none)], ([], [], [(227, 1, 1, ck_one 40), (227, 0, 0, ck_one 3)]), ([(226, 0, 0)], []), [(.inr (some (.inl (ck_one 0))), 245, ([], [], [(226, 0, 0, ck_one 1)]))])
set_option maxRecDepth 100000 in
theorem p7x_184_e : ck_ok p1_O none [] [(289, [p7x_174]), (290, [p7x_177]), (283, [p7x_140])] 292 [] 110 p7x_184 = true := by decide +kernel
theorem p7x_184_s {X : Int → Int} {LX : Nat} : ck_Ok p1_O X LX 292 p7x_184 := ck_ok_s (ck_E1 (ck_S1 p7x_174_s ck_S0) (ck_E1 (ck_S1 p7x_177_s ck_S0) (ck_E1 (ck_S1 p7x_140_s ck_S0) ck_E0))) ck_X0 ck_l0 p7x_184_e
set_option maxRecDepth 100000 in
def p7x_190 : ck_Sum := ((0, 0, 0), 245, [.inl (0, 39, none), .inl (ck_one 0), .inl (ck_one 39)], ([], [], []), ([], []), [(.inr (some (.inl (ck_one 1))), 245, ([], [], []))])
set_option maxRecDepth 100000 in
theorem p7x_190_e : ck_ok p1_O none [] [] 287 [] 88 p7x_190 = true := by decide +kernel
theorem p7x_190_s {X : Int → Int} {LX : Nat} : ck_Ok p1_O X LX 287 p7x_190 := ck_ok_s (ck_E0) ck_X0 ck_l0 p7x_190_e
set_option maxRecDepth 100000 in
def p7x_191 : ck_Sum := ((1, 0, 0), 245, [.inr (.inr (.inl 226)), .inl (0, 39, none)], ([], [], [(227, 1, 1, ck_one 40)]), ([], []), [(.inr (some (.inl (ck_one 0))), 245, ([], [], []))])
set_option maxRecDepth 100000 in
theorem p7x_191_e : ck_ok p1_O none [] [(260, [p7x_175]), (287, [p7x_190])] 290 [] 90 p7x_191 = true := by decide +kernel
theorem p7x_191_s {X : Int → Int} {LX : Nat} : ck_Ok p1_O X LX 290 p7x_191 := ck_ok_s (ck_E1 (ck_S1 p7x_175_s ck_S0) (ck_E1 (ck_S1 p7x_190_s ck_S0) ck_E0)) ck_X0 ck_l0 p7x_191_e
set_option maxRecDepth 100000 in
def p7x_192 : ck_Sum := ((0, 0, 0), 245, [.inr (.inr (.inl 226)), .inl (ck_one 0), .inl (ck_one 1)], ([], [], []), ([], []), [(.inr (some (.inl (ck_one 0))), 245, ([], [], []))])
set_option maxRecDepth 100000 in
theorem p7x_192_e : ck_ok p1_O none [] [] 283 [] 78 p7x_192 = true := by decide +kernel
theorem p7x_192_s {X : Int → Int} {LX : Nat} : ck_Ok p1_O X LX 283 p7x_192 := ck_ok_s (ck_E0) ck_X0 ck_l0 p7x_192_e
set_option maxRecDepth 100000 in
def p7x_195 : ck_Sum := ((0, 0, 0), 245, [.inr (.inr (.inl 226)), .inl (ck_one 1), .inl (ck_one 2)], ([], [], []), ([(226, 0, 0)], []), [(.inr (some (.inl (ck_one 1))), 245, ([], [], [(226, 0, 0, ck_one 2)]))])
set_option maxRecDepth 100000 in
theorem p7x_195_e : ck_ok p1_O none [] [] 283 [] 84 p7x_195 = true := by decide +kernel
theorem p7x_195_s {X : Int → Int} {LX : Nat} : ck_Ok p1_O X LX 283 p7x_195 := ck_ok_s (ck_E0) ck_X0 ck_l0 p7x_195_e
set_option maxRecDepth 100000 in
def p7x_193 : ck_Sum := ((0, 0, 0), 245, [.inl ((-2147483648), (-1), none), .inl (ck_one 0), .inl (ck_one 299)], ([], [], []), ([], []), [(.inr (some (.inl (ck_one 0))), 245, ([], [], []))])
set_option maxRecDepth 100000 in
theorem p7x_193_e : ck_ok p1_O none [] [] 287 [] 80 p7x_193 = true := by decide +kernel
theorem p7x_193_s {X : Int → Int} {LX : Nat} : ck_Ok p1_O X LX 287 p7x_193 := ck_ok_s (ck_E0) ck_X0 ck_l0 p7x_193_e
set_option maxRecDepth 100000 in
def p7x_194 : ck_Sum := ((1, 0, 0), 245, [.inl ((-2147483648), (-1), none)], ([], [], []), ([], []), [(.inr (some (.inl (ck_one 1))), 245, ([], [], []))])
set_option maxRecDepth 100000 in
theorem p7x_194_e : ck_ok p1_O none [] [(287, [p7x_193])] 286 [] 86 p7x_194 = true := by decide +kernel
theorem p7x_194_s {X : Int → Int} {LX : Nat} : ck_Ok p1_O X LX 286 p7x_194 := ck_ok_s (ck_E1 (ck_S1 p7x_193_s ck_S0) ck_E0) ck_X0 ck_l0 p7x_194_e
set_option maxRecDepth 100000 in
def p7x_196 : ck_Sum := ((2, 0, 0), 245, [.inr (.inr (.inl 226)), .inl (0, 2, none), .inl (0, 39, none), .inl ((-2147483648), (-1), none)], ([], [], [(227, 1, 1, ck_one 40), (227, 0, 0, ck_one 3)]), ([(226, 0, 0)], []), [(.inr (some (.inl (ck_one 0))), 245, ([], [], [(226, 0, 0, ck_one 2)]))])
set_option maxRecDepth 100000 in
theorem p7x_196_e : ck_ok p1_O none [] [(289, [p7x_174]), (290, [p7x_191]), (283, [p7x_192, p7x_195]), (286, [p7x_194])] 292 [] 120 p7x_196 = true := by decide +kernel
theorem p7x_196_s {X : Int → Int} {LX : Nat} : ck_Ok p1_O X LX 292 p7x_196 := ck_ok_s (ck_E1 (ck_S1 p7x_174_s ck_S0) (ck_E1 (ck_S1 p7x_191_s ck_S0) (ck_E1 (ck_S1 p7x_192_s (ck_S1 p7x_195_s ck_S0)) (ck_E1 (ck_S1 p7x_194_s ck_S0) ck_E0)))) ck_X0 ck_l0 p7x_196_e
set_option maxRecDepth 100000 in
def p7x_205 : ck_Sum := ((0, 0, 0), 245, [.inr (.inr (.inl 226)), .inl (ck_one 0), .inl (ck_one 2)], ([], [], []), ([], []), [(.inr (some (.inl (ck_one 0))), 245, ([], [], []))])
set_option maxRecDepth 100000 in
theorem p7x_205_e : ck_ok p1_O none [] [] 283 [] 78 p7x_205 = true := by decide +kernel
theorem p7x_205_s {X : Int → Int} {LX : Nat} : ck_Ok p1_O X LX 283 p7x_205 := ck_ok_s (ck_E0) ck_X0 ck_l0 p7x_205_e
set_option maxRecDepth 100000 in
def p7x_203 : ck_Sum := ((0, 0, 0), 245, [.inl (0, 299, none), .inl (ck_one 0), .inl (ck_one 299)], ([], [], []), ([], []), [(.inr (some (.inl (ck_one 1))), 245, ([], [], []))])
set_option maxRecDepth 100000 in
theorem p7x_203_e : ck_ok p1_O none [] [] 287 [] 88 p7x_203 = true := by decide +kernel
theorem p7x_203_s {X : Int → Int} {LX : Nat} : ck_Ok p1_O X LX 287 p7x_203 := ck_ok_s (ck_E0) ck_X0 ck_l0 p7x_203_e
set_option maxRecDepth 100000 in
def p7x_204 : ck_Sum := ((1, 0, 0), 245, [.inl (0, 299, none)], ([], [], []), ([], []), [(.inr (some (.inl (ck_one 0))), 245, ([], [], []))])
set_option maxRecDepth 100000 in
theorem p7x_204_e : ck_ok p1_O none [] [(287, [p7x_203])] 286 [] 84 p7x_204 = true := by decide +kernel
theorem p7x_204_s {X : Int → Int} {LX : Nat} : ck_Ok p1_O X LX 286 p7x_204 := ck_ok_s (ck_E1 (ck_S1 p7x_203_s ck_S0) ck_E0) ck_X0 ck_l0 p7x_204_e
set_option maxRecDepth 100000 in
def p7x_206 : ck_Sum := ((0, 0, 0), 245, [.inr (.inr (.inl 226)), .inl (0, 2, none)], ([], [], [(226, 26, 26, ((-1), 2, none)), (235, 0, 11999, (0, 1, none))]), ([(226, 26, 26), (235, 0, 29699)], []), [(.inr none, 245, ([], [], [(226, 26, 26, (0, 2, none)), (235, 0, 11999, (0, 1, none))]))])
set_option maxRecDepth 100000 in
theorem p7x_206_e : ck_ok p1_O none [] [] 294 [(16, [some (.inr (.inr (.inl 226))), some (.inl (0, 2, none)), some (.inl (0, 29700, none))], ([], [], [(226, 26, 26, (0, 2, none)), (235, 0, 11999, (0, 1, none))]), 100, .inl 2, true)] 142 p7x_206 = true := by decide +kernel
theorem p7x_206_s {X : Int → Int} {LX : Nat} : ck_Ok p1_O X LX 294 p7x_206 := ck_ok_s (ck_E0) ck_X0 ck_l0 p7x_206_e
set_option maxRecDepth 100000 in
def p7x_207 : ck_Sum := ((0, 0, 0), 245, [.inr (.inr (.inl 226)), .inl (0, 2, none), .inl (0, 39, none)], ([], [], [(227, 2, 9, ck_one 0)]), ([], []), [(.inr (some (.inl (ck_one 0))), 245, ([], [], []))])
set_option maxRecDepth 100000 in
theorem p7x_207_e : ck_ok p1_O none [] [] 291 [(5, [some (.inr (.inr (.inl 226))), some (.inl (0, 2, none)), some (.inl (0, 39, none)), some (.inl (ck_one 0)), some (.inl (ck_one 0))], ([], [], [(227, 2, 9, ck_one 0)]), 100, .inl 3, true)] 122 p7x_207 = true := by decide +kernel
theorem p7x_207_s {X : Int → Int} {LX : Nat} : ck_Ok p1_O X LX 291 p7x_207 := ck_ok_s (ck_E0) ck_X0 ck_l0 p7x_207_e
set_option maxRecDepth 100000 in
def p7x_208 : ck_Sum := ((0, 0, 0), 245, [.inr (.inr (.inl 226)), .inl (ck_one 0)], ([], [], [(227, 2, 9, ck_one 0)]), ([], []), [(.inr (some (.inl (ck_one 0))), 245, ([], [], []))])
set_option maxRecDepth 100000 in
theorem p7x_208_e : ck_ok p1_O none [] [] 295 [(4, [some (.inr (.inr (.inl 226))), some (.inl (ck_one 0)), some (.inl (ck_one 0)), some (.inl (ck_one 0))], ([], [], [(227, 2, 9, ck_one 0)]), 100, .inl 2, true)] 122 p7x_208 = true := by decide +kernel
theorem p7x_208_s {X : Int → Int} {LX : Nat} : ck_Ok p1_O X LX 295 p7x_208 := ck_ok_s (ck_E0) ck_X0 ck_l0 p7x_208_e
set_option maxRecDepth 100000 in
def p7x_209 : ck_Sum := ((0, 0, 0), 245, [.inr (.inr (.inl 226)), .inl (ck_one 1)], ([], [], [(227, 2, 9, ck_one 0)]), ([], []), [(.inr (some (.inl (ck_one 0))), 245, ([], [], []))])
set_option maxRecDepth 100000 in
theorem p7x_209_e : ck_ok p1_O none [] [] 295 [(4, [some (.inr (.inr (.inl 226))), some (.inl (ck_one 1)), some (.inl (ck_one 0)), some (.inl (ck_one 0))], ([], [], [(227, 2, 9, ck_one 0)]), 100, .inl 2, true)] 122 p7x_209 = true := by decide +kernel
theorem p7x_209_s {X : Int → Int} {LX : Nat} : ck_Ok p1_O X LX 295 p7x_209 := ck_ok_s (ck_E0) ck_X0 ck_l0 p7x_209_e
set_option maxRecDepth 100000 in
def p7x_210 : ck_Sum := ((1, 0, 0), 245, [.inr (.inr (.inl 226)), .inl (0, 2, none), .inl (0, 39, none), .inl (0, 299, none)], ([], [], [(226, 26, 26, ((-1), 2, none)), (226, 19, 19, (0, 299, none)), (226, 18, 18, (0, 39, none)), (226, 17, 17, (0, 2, none)), (227, 2, 9, ck_one 0), (226, 20, 20, ck_one 0), (226, 21, 21, ck_one 0), (226, 22, 22, ck_one 0), (226, 23, 23, ck_one 0), (235, 0, 11999, (0, 1, none))]), ([(226, 17, 23), (226, 26, 26), (235, 0, 29699)], []), [(.inr (some (.inl (ck_one 0))), 245, ([], [], [(226, 23, 23, ck_one 0), (226, 22, 22, ck_one 0), (226, 21, 21, ck_one 0), (226, 20, 20, ck_one 0), (226, 19, 19, (0, 299, none)), (226, 18, 18, (0, 39, none)), (226, 17, 17, (0, 2, none)), (226, 26, 26, (0, 2, none)), (235, 0, 11999, (0, 1, none))]))])
def p7x_210_E : List (Nat × List ck_Sum) := [(294, [p7x_206]), (291, [p7x_207]), (295, [p7x_208, p7x_209])]
def p7x_210_L : ck_AL := [some (.inr (.inr (.inl 226))), some (.inl (0, 2, none)), some (.inl (0, 39, none)), some (.inl (0, 299, none)), some (.inl (0, 11999, none)), none]
set_option maxRecDepth 100000 in
def p7x_210_F : ck_F := ([], [], [(226, 26, 26, (0, 2, none)), (235, 0, 11999, (0, 1, none)), (226, 19, 19, (0, 299, none)), (226, 18, 18, (0, 39, none)), (226, 17, 17, (0, 2, none)), (227, 2, 9, ck_one 0), (226, 20, 20, ck_one 0), (226, 21, 21, ck_one 0), (226, 22, 22, ck_one 0), (226, 23, 23, ck_one 0)])
def p7x_210_C : ck_C := (p7x_210_L, p7x_210_F, 0, .inl 4, true)
set_option maxRecDepth 100000 in
theorem p7x_210_a : (decide (p7x_210.2.2.1.length ≤ gm_ml 293) && ck_go p1_O none [] p7x_210_E 293 p7x_210.1.1 p7x_210.2.1 p7x_210.2.2.2.2.1 p7x_210.2.2.2.2.2 [(14, p7x_210_C)] 400 false [(14, p7x_210_C, 0, 0, 245)] p7x_210.1.2.1 p7x_210.1.2.2 0 (p7x_210.2.2.1.map some ++ List.replicate (gm_ml 293 - p7x_210.2.2.1.length) none) [] p7x_210.2.1 p7x_210.2.2.2.1) = true := by decide +kernel
set_option maxRecDepth 100000 in
theorem p7x_210_b : ck_go p1_O none [] p7x_210_E 293 p7x_210.1.1 p7x_210.2.1 p7x_210.2.2.2.2.1 p7x_210.2.2.2.2.2 [] 400 true [] 0 0 34 p7x_210_L [] 245 p7x_210_F = true := by decide +kernel
set_option maxRecDepth 100000 in
theorem p7x_210_f : ck_fi p7x_210_F 235 0 11999 = some (0, 1, none) := by decide +kernel
set_option maxRecDepth 100000 in
theorem p7x_210_g : ck_leF p1_O p7x_210_F (([], [], [(226, 23, 23, ck_one 0), (226, 22, 22, ck_one 0), (226, 21, 21, ck_one 0), (226, 20, 20, ck_one 0), (226, 19, 19, (0, 299, none)), (226, 18, 18, (0, 39, none)), (226, 17, 17, (0, 2, none)), (226, 26, 26, (0, 2, none)), (235, 0, 11999, (0, 1, none))])) = true := by decide +kernel
theorem p7x_210_h {X : Int → Int} {LX : Nat} : ck_OkE p1_O X LX p7x_210_E := ck_E1 (ck_S1 p7x_206_s ck_S0) (ck_E1 (ck_S1 p7x_207_s ck_S0) (ck_E1 (ck_S1 p7x_208_s (ck_S1 p7x_209_s ck_S0)) ck_E0))
theorem p7x_210_s {X : Int → Int} {LX : Nat} : ck_Ok p1_O X LX 293 p7x_210 := by
  refine ck_ok_st (cuts := [(14, p7x_210_C)]) p7x_210_h p7x_210_a (fun h hm => ?_)
  rw [List.mem_singleton.mp hm]
  refine ⟨rfl, fun σ K0 R0 M0 v _ bc bs L K R M hb1 hb2 hS _ => ?_⟩
  obtain ⟨hF, hl, hs, hf, hfr⟩ := hS
  obtain ⟨u0, e0, g0⟩ := hl.2 0 (.inr (.inr (.inl 226))) rfl
  cases g0
  obtain ⟨u4, e4, t, rfl, ht1, ht2, ht3, -⟩ := hl.2 4 (.inl (0, 11999, none)) rfl
  have ht2 : (0 : Int) ≤ t := ht2
  have ht3 : t ≤ (11999 : Int) := ht3
  obtain ⟨-, hM1, hM2, -⟩ := (ck_fi_s hf p7x_210_f).2 t (by omega) (by omega)
  have hM1 : (0 : Int) ≤ M 235 t := hM1
  have hM2 : M 235 t ≤ (1 : Int) := hM2
  refine ck_flow (O := p1_O) hF (k := 226) (fl := 235) (by decide +kernel) (by decide +kernel) (by decide +kernel) e0 e4 ⟨by omega, by omega⟩ ⟨by omega, by omega⟩ (fun hp => ?_) ?_
  · have e : M 235 t - 1 = 0 := by omega
    rw [e]
    exact ⟨hF, hfr, _, List.mem_cons_self, ⟨0, rfl, ⟨by decide, by decide⟩, by decide, by decide, fun _ h => nomatch h⟩, rfl, ck_leF_s hF hf p7x_210_g⟩
  · exact gm_Wp_wk (Nat.le_refl _) hb1 hb2 (ck_go_s (σ0 := σ) (cuts := []) p7x_210_h ck_X0 ck_l0 400 true [] _ _ 34 _ [] _ _ σ L [] K R M (fun _ _ => rfl) (fun _ h => nomatch h) ⟨hF, hl, rfl, hf, hfr⟩ p7x_210_b)
set_option maxRecDepth 100000 in
def p7x_211 : ck_Sum := ((2, 0, 0), 245, [.inr (.inr (.inl 226)), .inl (0, 2, none), .inl (0, 39, none), .inl (0, 299, none)], ([], [], [(226, 26, 26, ck_one (-1)), (227, 1, 1, ck_one 40), (227, 0, 0, ck_one 3), (227, 2, 9, ck_one 0), (226, 17, 17, ck_one 0), (226, 18, 18, ck_one 0), (226, 19, 19, ck_one 0), (226, 20, 20, ck_one 0), (226, 21, 21, ck_one 0), (226, 22, 22, ck_one 0), (226, 23, 23, ck_one 0), (235, 0, 11999, ck_one 0)]), ([(226, 0, 0), (226, 17, 23), (226, 26, 26), (235, 0, 29699)], []), [(.inr (some (.inl (ck_one 0))), 245, ([], [], [(226, 23, 23, ck_one 0), (226, 22, 22, ck_one 0), (226, 21, 21, ck_one 0), (226, 20, 20, ck_one 0), (226, 19, 19, (0, 299, none)), (226, 18, 18, (0, 39, none)), (226, 17, 17, (0, 2, none)), (226, 26, 26, (0, 2, none)), (226, 0, 0, ck_one 0), (235, 0, 11999, (0, 1, none))]))])
set_option maxRecDepth 100000 in
theorem p7x_211_e : ck_ok p1_O none [] [(289, [p7x_174]), (290, [p7x_191]), (283, [p7x_192, p7x_205]), (286, [p7x_204]), (293, [p7x_210])] 292 [] 126 p7x_211 = true := by decide +kernel
theorem p7x_211_s {X : Int → Int} {LX : Nat} : ck_Ok p1_O X LX 292 p7x_211 := ck_ok_s (ck_E1 (ck_S1 p7x_174_s ck_S0) (ck_E1 (ck_S1 p7x_191_s ck_S0) (ck_E1 (ck_S1 p7x_192_s (ck_S1 p7x_205_s ck_S0)) (ck_E1 (ck_S1 p7x_204_s ck_S0) (ck_E1 (ck_S1 p7x_210_s ck_S0) ck_E0))))) ck_X0 ck_l0 p7x_211_e
set_option maxRecDepth 100000 in
def p7x_216 : ck_Sum := ((0, 0, 0), 245, [.inl (300, 2147483647, none), .inl (ck_one 0), .inl (ck_one 299)], ([], [], []), ([], []), [(.inr (some (.inl (ck_one 0))), 245, ([], [], []))])
set_option maxRecDepth 100000 in
theorem p7x_216_e : ck_ok p1_O none [] [] 287 [] 86 p7x_216 = true := by decide +kernel
theorem p7x_216_s {X : Int → Int} {LX : Nat} : ck_Ok p1_O X LX 287 p7x_216 := ck_ok_s (ck_E0) ck_X0 ck_l0 p7x_216_e
set_option maxRecDepth 100000 in
def p7x_217 : ck_Sum := ((1, 0, 0), 245, [.inl (300, 2147483647, none)], ([], [], []), ([], []), [(.inr (some (.inl (ck_one 1))), 245, ([], [], []))])
set_option maxRecDepth 100000 in
theorem p7x_217_e : ck_ok p1_O none [] [(287, [p7x_216])] 286 [] 86 p7x_217 = true := by decide +kernel
theorem p7x_217_s {X : Int → Int} {LX : Nat} : ck_Ok p1_O X LX 286 p7x_217 := ck_ok_s (ck_E1 (ck_S1 p7x_216_s ck_S0) ck_E0) ck_X0 ck_l0 p7x_217_e
set_option maxRecDepth 100000 in
def p7x_218 : ck_Sum := ((2, 0, 0), 245, [.inr (.inr (.inl 226)), .inl (0, 2, none), .inl (0, 39, none), .inl (300, 2147483647, none)], ([], [], [(227, 1, 1, ck_one 40), (227, 0, 0, ck_one 3)]), ([(226, 0, 0)], []), [(.inr (some (.inl (ck_one 0))), 245, ([], [], [(226, 0, 0, ck_one 2)]))])
set_option maxRecDepth 100000 in
theorem p7x_218_e : ck_ok p1_O none [] [(289, [p7x_174]), (290, [p7x_191]), (283, [p7x_192, p7x_195]), (286, [p7x_217])] 292 [] 120 p7x_218 = true := by decide +kernel
theorem p7x_218_s {X : Int → Int} {LX : Nat} : ck_Ok p1_O X LX 292 p7x_218 := ck_ok_s (ck_E1 (ck_S1 p7x_174_s ck_S0) (ck_E1 (ck_S1 p7x_191_s ck_S0) (ck_E1 (ck_S1 p7x_192_s (ck_S1 p7x_195_s ck_S0)) (ck_E1 (ck_S1 p7x_217_s ck_S0) ck_E0)))) ck_X0 ck_l0 p7x_218_e
set_option maxRecDepth 100000 in
def p7x_223 : ck_Sum := ((0, 0, 0), 245, [.inl (40, 2147483647, none), .inl (ck_one 0), .inl (ck_one 39)], ([], [], []), ([], []), [(.inr (some (.inl (ck_one 0))), 245, ([], [], []))])
set_option maxRecDepth 100000 in
theorem p7x_223_e : ck_ok p1_O none [] [] 287 [] 86 p7x_223 = true := by decide +kernel
theorem p7x_223_s {X : Int → Int} {LX : Nat} : ck_Ok p1_O X LX 287 p7x_223 := ck_ok_s (ck_E0) ck_X0 ck_l0 p7x_223_e
set_option maxRecDepth 100000 in
def p7x_224 : ck_Sum := ((1, 0, 0), 245, [.inr (.inr (.inl 226)), .inl (40, 2147483647, none)], ([], [], [(227, 1, 1, ck_one 40)]), ([], []), [(.inr (some (.inl (ck_one 1))), 245, ([], [], []))])
set_option maxRecDepth 100000 in
theorem p7x_224_e : ck_ok p1_O none [] [(260, [p7x_175]), (287, [p7x_223])] 290 [] 92 p7x_224 = true := by decide +kernel
theorem p7x_224_s {X : Int → Int} {LX : Nat} : ck_Ok p1_O X LX 290 p7x_224 := ck_ok_s (ck_E1 (ck_S1 p7x_175_s ck_S0) (ck_E1 (ck_S1 p7x_223_s ck_S0) ck_E0)) ck_X0 ck_l0 p7x_224_e
set_option maxRecDepth 100000 in
def p7x_225 : ck_Sum := ((2, 0, 0), 245, [.inr (.inr (.inl 226)), .inl (0, 2, none), .inl (40, 2147483647, none), .inl ((-2147483648), (-1), none)], ([], [], [(227, 1, 1, ck_one 40), (227, 0, 0, ck_one 3)]), ([(226, 0, 0)], []), [(.inr (some (.inl (ck_one 0))), 245, ([], [], [(226, 0, 0, ck_one 1)]))])
set_option maxRecDepth 100000 in
theorem p7x_225_e : ck_ok p1_O none [] [(289, [p7x_174]), (290, [p7x_224]), (283, [p7x_140])] 292 [] 110 p7x_225 = true := by decide +kernel
theorem p7x_225_s {X : Int → Int} {LX : Nat} : ck_Ok p1_O X LX 292 p7x_225 := ck_ok_s (ck_E1 (ck_S1 p7x_174_s ck_S0) (ck_E1 (ck_S1 p7x_224_s ck_S0) (ck_E1 (ck_S1 p7x_140_s ck_S0) ck_E0))) ck_X0 ck_l0 p7x_225_e
set_option maxRecDepth 100000 in
def p7x_228 : ck_Sum := ((2, 0, 0), 245, [.inr (.inr (.inl 226)), .inl (0, 2, none), .inl (40, 2147483647, none), .inl (0, 299, none)], ([], [], [(227, 1, 1, ck_one 40), (227, 0, 0, ck_one 3)]), ([(226, 0, 0)], []), [(.inr (some (.inl (ck_one 0))), 245, ([], [], [(226, 0, 0, ck_one 1)]))])
set_option maxRecDepth 100000 in
theorem p7x_228_e : ck_ok p1_O none [] [(289, [p7x_174]), (290, [p7x_224]), (283, [p7x_140])] 292 [] 110 p7x_228 = true := by decide +kernel
theorem p7x_228_s {X : Int → Int} {LX : Nat} : ck_Ok p1_O X LX 292 p7x_228 := ck_ok_s (ck_E1 (ck_S1 p7x_174_s ck_S0) (ck_E1 (ck_S1 p7x_224_s ck_S0) (ck_E1 (ck_S1 p7x_140_s ck_S0) ck_E0))) ck_X0 ck_l0 p7x_228_e
set_option maxRecDepth 100000 in
def p7x_231 : ck_Sum := ((2, 0, 0), 245, [.inr (.inr (.inl 226)), .inl (0, 2, none), .inl (40, 2147483647, none), .inl (300, 2147483647, none)], ([], [], [(227, 1, 1, ck_one 40), (227, 0, 0, ck_one 3)]), ([(226, 0, 0)], []), [(.inr (some (.inl (ck_one 0))), 245, ([], [], [(226, 0, 0, ck_one 1)]))])
set_option maxRecDepth 100000 in
theorem p7x_231_e : ck_ok p1_O none [] [(289, [p7x_174]), (290, [p7x_224]), (283, [p7x_140])] 292 [] 110 p7x_231 = true := by decide +kernel
theorem p7x_231_s {X : Int → Int} {LX : Nat} : ck_Ok p1_O X LX 292 p7x_231 := ck_ok_s (ck_E1 (ck_S1 p7x_174_s ck_S0) (ck_E1 (ck_S1 p7x_224_s ck_S0) (ck_E1 (ck_S1 p7x_140_s ck_S0) ck_E0))) ck_X0 ck_l0 p7x_231_e
set_option maxRecDepth 100000 in
def p7x_236 : ck_Sum := ((0, 0, 0), 245, [.inl (3, 2147483647, none), .inl (ck_one 0), .inl (ck_one 2)], ([], [], []), ([], []), [(.inr (some (.inl (ck_one 0))), 245, ([], [], []))])
set_option maxRecDepth 100000 in
theorem p7x_236_e : ck_ok p1_O none [] [] 287 [] 86 p7x_236 = true := by decide +kernel
theorem p7x_236_s {X : Int → Int} {LX : Nat} : ck_Ok p1_O X LX 287 p7x_236 := ck_ok_s (ck_E0) ck_X0 ck_l0 p7x_236_e
set_option maxRecDepth 100000 in
def p7x_237 : ck_Sum := ((1, 0, 0), 245, [.inr (.inr (.inl 226)), .inl (3, 2147483647, none)], ([], [], [(227, 0, 0, ck_one 3)]), ([], []), [(.inr (some (.inl (ck_one 1))), 245, ([], [], []))])
set_option maxRecDepth 100000 in
theorem p7x_237_e : ck_ok p1_O none [] [(262, [p7x_137]), (287, [p7x_236])] 289 [] 92 p7x_237 = true := by decide +kernel
theorem p7x_237_s {X : Int → Int} {LX : Nat} : ck_Ok p1_O X LX 289 p7x_237 := ck_ok_s (ck_E1 (ck_S1 p7x_137_s ck_S0) (ck_E1 (ck_S1 p7x_236_s ck_S0) ck_E0)) ck_X0 ck_l0 p7x_237_e
set_option maxRecDepth 100000 in
def p7x_238 : ck_Sum := ((2, 0, 0), 245, [.inr (.inr (.inl 226)), .inl (3, 2147483647, none), .inl ((-2147483648), (-1), none), .inl ((-2147483648), (-1), none)], ([], [], [(227, 0, 0, ck_one 3)]), ([(226, 0, 0)], []), [(.inr (some (.inl (ck_one 0))), 245, ([], [], [(226, 0, 0, ck_one 1)]))])
set_option maxRecDepth 100000 in
theorem p7x_238_e : ck_ok p1_O none [] [(289, [p7x_237]), (283, [p7x_140])] 292 [] 102 p7x_238 = true := by decide +kernel
theorem p7x_238_s {X : Int → Int} {LX : Nat} : ck_Ok p1_O X LX 292 p7x_238 := ck_ok_s (ck_E1 (ck_S1 p7x_237_s ck_S0) (ck_E1 (ck_S1 p7x_140_s ck_S0) ck_E0)) ck_X0 ck_l0 p7x_238_e
set_option maxRecDepth 100000 in
def p7x_241 : ck_Sum := ((2, 0, 0), 245, [.inr (.inr (.inl 226)), .inl (3, 2147483647, none), .inl ((-2147483648), (-1), none), .inl (0, 299, none)], ([], [], [(227, 0, 0, ck_one 3)]), ([(226, 0, 0)], []), [(.inr (some (.inl (ck_one 0))), 245, ([], [], [(226, 0, 0, ck_one 1)]))])
set_option maxRecDepth 100000 in
theorem p7x_241_e : ck_ok p1_O none [] [(289, [p7x_237]), (283, [p7x_140])] 292 [] 102 p7x_241 = true := by decide +kernel
theorem p7x_241_s {X : Int → Int} {LX : Nat} : ck_Ok p1_O X LX 292 p7x_241 := ck_ok_s (ck_E1 (ck_S1 p7x_237_s ck_S0) (ck_E1 (ck_S1 p7x_140_s ck_S0) ck_E0)) ck_X0 ck_l0 p7x_241_e
set_option maxRecDepth 100000 in
def p7x_244 : ck_Sum := ((2, 0, 0), 245, [.inr (.inr (.inl 226)), .inl (3, 2147483647, none), .inl ((-2147483648), (-1), none), .inl (300, 2147483647, none)], ([], [], [(227, 0, 0, ck_one 3)]), ([(226, 0, 0)], []), [(.inr (some (.inl (ck_one 0))), 245, ([], [], [(226, 0, 0, ck_one 1)]))])
set_option maxRecDepth 100000 in
theorem p7x_244_e : ck_ok p1_O none [] [(289, [p7x_237]), (283, [p7x_140])] 292 [] 102 p7x_244 = true := by decide +kernel
theorem p7x_244_s {X : Int → Int} {LX : Nat} : ck_Ok p1_O X LX 292 p7x_244 := ck_ok_s (ck_E1 (ck_S1 p7x_237_s ck_S0) (ck_E1 (ck_S1 p7x_140_s ck_S0) ck_E0)) ck_X0 ck_l0 p7x_244_e
set_option maxRecDepth 100000 in
def p7x_247 : ck_Sum := ((2, 0, 0), 245, [.inr (.inr (.inl 226)), .inl (3, 2147483647, none), .inl (0, 39, none), .inl ((-2147483648), (-1), none)], ([], [], [(227, 0, 0, ck_one 3)]), ([(226, 0, 0)], []), [(.inr (some (.inl (ck_one 0))), 245, ([], [], [(226, 0, 0, ck_one 1)]))])
set_option maxRecDepth 100000 in
theorem p7x_247_e : ck_ok p1_O none [] [(289, [p7x_237]), (283, [p7x_140])] 292 [] 102 p7x_247 = true := by decide +kernel
theorem p7x_247_s {X : Int → Int} {LX : Nat} : ck_Ok p1_O X LX 292 p7x_247 := ck_ok_s (ck_E1 (ck_S1 p7x_237_s ck_S0) (ck_E1 (ck_S1 p7x_140_s ck_S0) ck_E0)) ck_X0 ck_l0 p7x_247_e
set_option maxRecDepth 100000 in
def p7x_250 : ck_Sum := ((2, 0, 0), 245, [.inr (.inr (.inl 226)), .inl (3, 2147483647, none), .inl (0, 39, none), .inl (0, 299, none)], ([], [], [(227, 0, 0, ck_one 3)]), ([(226, 0, 0)], []), [(.inr (some (.inl (ck_one 0))), 245, ([], [], [(226, 0, 0, ck_one 1)]))])
set_option maxRecDepth 100000 in
theorem p7x_250_e : ck_ok p1_O none [] [(289, [p7x_237]), (283, [p7x_140])] 292 [] 102 p7x_250 = true := by decide +kernel
theorem p7x_250_s {X : Int → Int} {LX : Nat} : ck_Ok p1_O X LX 292 p7x_250 := ck_ok_s (ck_E1 (ck_S1 p7x_237_s ck_S0) (ck_E1 (ck_S1 p7x_140_s ck_S0) ck_E0)) ck_X0 ck_l0 p7x_250_e
set_option maxRecDepth 100000 in
def p7x_253 : ck_Sum := ((2, 0, 0), 245, [.inr (.inr (.inl 226)), .inl (3, 2147483647, none), .inl (0, 39, none), .inl (300, 2147483647, none)], ([], [], [(227, 0, 0, ck_one 3)]), ([(226, 0, 0)], []), [(.inr (some (.inl (ck_one 0))), 245, ([], [], [(226, 0, 0, ck_one 1)]))])
set_option maxRecDepth 100000 in
theorem p7x_253_e : ck_ok p1_O none [] [(289, [p7x_237]), (283, [p7x_140])] 292 [] 102 p7x_253 = true := by decide +kernel
theorem p7x_253_s {X : Int → Int} {LX : Nat} : ck_Ok p1_O X LX 292 p7x_253 := ck_ok_s (ck_E1 (ck_S1 p7x_237_s ck_S0) (ck_E1 (ck_S1 p7x_140_s ck_S0) ck_E0)) ck_X0 ck_l0 p7x_253_e
set_option maxRecDepth 100000 in
def p7x_256 : ck_Sum := ((2, 0, 0), 245, [.inr (.inr (.inl 226)), .inl (3, 2147483647, none), .inl (40, 2147483647, none), .inl ((-2147483648), (-1), none)], ([], [], [(227, 0, 0, ck_one 3)]), ([(226, 0, 0)], []), [(.inr (some (.inl (ck_one 0))), 245, ([], [], [(226, 0, 0, ck_one 1)]))])
set_option maxRecDepth 100000 in
theorem p7x_256_e : ck_ok p1_O none [] [(289, [p7x_237]), (283, [p7x_140])] 292 [] 102 p7x_256 = true := by decide +kernel
theorem p7x_256_s {X : Int → Int} {LX : Nat} : ck_Ok p1_O X LX 292 p7x_256 := ck_ok_s (ck_E1 (ck_S1 p7x_237_s ck_S0) (ck_E1 (ck_S1 p7x_140_s ck_S0) ck_E0)) ck_X0 ck_l0 p7x_256_e
set_option maxRecDepth 100000 in
def p7x_259 : ck_Sum := ((2, 0, 0), 245, [.inr (.inr (.inl 226)), .inl (3, 2147483647, none), .inl (40, 2147483647, none), .inl (0, 299, none)], ([], [], [(227, 0, 0, ck_one 3)]), ([(226, 0, 0)], []), [(.inr (some (.inl (ck_one 0))), 245, ([], [], [(226, 0, 0, ck_one 1)]))])
set_option maxRecDepth 100000 in
theorem p7x_259_e : ck_ok p1_O none [] [(289, [p7x_237]), (283, [p7x_140])] 292 [] 102 p7x_259 = true := by decide +kernel
theorem p7x_259_s {X : Int → Int} {LX : Nat} : ck_Ok p1_O X LX 292 p7x_259 := ck_ok_s (ck_E1 (ck_S1 p7x_237_s ck_S0) (ck_E1 (ck_S1 p7x_140_s ck_S0) ck_E0)) ck_X0 ck_l0 p7x_259_e
set_option maxRecDepth 100000 in
def p7x_262 : ck_Sum := ((2, 0, 0), 245, [.inr (.inr (.inl 226)), .inl (3, 2147483647, none), .inl (40, 2147483647, none), .inl (300, 2147483647, none)], ([], [], [(227, 0, 0, ck_one 3)]), ([(226, 0, 0)], []), [(.inr (some (.inl (ck_one 0))), 245, ([], [], [(226, 0, 0, ck_one 1)]))])
set_option maxRecDepth 100000 in
theorem p7x_262_e : ck_ok p1_O none [] [(289, [p7x_237]), (283, [p7x_140])] 292 [] 102 p7x_262 = true := by decide +kernel
theorem p7x_262_s {X : Int → Int} {LX : Nat} : ck_Ok p1_O X LX 292 p7x_262 := ck_ok_s (ck_E1 (ck_S1 p7x_237_s ck_S0) (ck_E1 (ck_S1 p7x_140_s ck_S0) ck_E0)) ck_X0 ck_l0 p7x_262_e
set_option maxRecDepth 100000 in
def p7x_142 : ck_Sum := ((0, 0, 0), 245, [.inr (.inr (.inl 226))], ([], [], [(226, 0, 0, ck_one 1)]), ([], []), [(.inr (some (.inl (ck_one 1))), 245, ([], [], []))])
set_option maxRecDepth 100000 in
theorem p7x_142_e : ck_ok p1_O none [] [] 234 [] 76 p7x_142 = true := by decide +kernel
theorem p7x_142_s {X : Int → Int} {LX : Nat} : ck_Ok p1_O X LX 234 p7x_142 := ck_ok_s (ck_E0) ck_X0 ck_l0 p7x_142_e
set_option maxRecDepth 100000 in
def p7x_197 : ck_Sum := ((0, 0, 0), 245, [.inr (.inr (.inl 226))], ([], [], [(226, 0, 0, ck_one 2)]), ([], []), [(.inr (some (.inl (ck_one 2))), 245, ([], [], []))])
set_option maxRecDepth 100000 in
theorem p7x_197_e : ck_ok p1_O none [] [] 234 [] 76 p7x_197 = true := by decide +kernel
theorem p7x_197_s {X : Int → Int} {LX : Nat} : ck_Ok p1_O X LX 234 p7x_197 := ck_ok_s (ck_E0) ck_X0 ck_l0 p7x_197_e
set_option maxRecDepth 100000 in
def p7x_212 : ck_Sum := ((0, 0, 0), 245, [.inr (.inr (.inl 226))], ([], [], [(226, 0, 0, ck_one 0)]), ([], []), [(.inr (some (.inl (ck_one 0))), 245, ([], [], []))])
set_option maxRecDepth 100000 in
theorem p7x_212_e : ck_ok p1_O none [] [] 234 [] 76 p7x_212 = true := by decide +kernel
theorem p7x_212_s {X : Int → Int} {LX : Nat} : ck_Ok p1_O X LX 234 p7x_212 := ck_ok_s (ck_E0) ck_X0 ck_l0 p7x_212_e
set_option maxRecDepth 100000 in
def p7_F : ck_F := ([], [(3, 8, 0), (16, 8, 0), (29, 8, 0), (44, 8, 0), (57, 8, 0), (70, 8, 0), (83, 8, 0), (96, 8, 0), (109, 8, 0), (122, 8, 0), (135, 8, 0), (148, 8, 0), (161, 8, 0), (174, 8, 0), (187, 8, 0)], [(245, 0, 0, ck_one 0), (226, 26, 26, ck_one (-1)), (227, 1, 1, ck_one 40), (227, 0, 0, ck_one 3), (227, 2, 9, ck_one 0), (226, 0, 0, ck_one 0), (226, 17, 17, ck_one 0), (226, 18, 18, ck_one 0), (226, 19, 19, ck_one 0), (226, 20, 20, ck_one 0), (226, 21, 21, ck_one 0), (226, 22, 22, ck_one 0), (226, 23, 23, ck_one 0), (3, 1, 1, ck_one 40), (3, 0, 0, ck_one 3), (202, 0, 593, ck_one 0), (235, 0, 11999, ck_one 0)])
def p7_E : List (Nat × List ck_Sum) := [(135, [p7x_136, p7x_144, p7x_147, p7x_150, p7x_153, p7x_156, p7x_159, p7x_162, p7x_165, p7x_172, p7x_180, p7x_183, p7x_189, p7x_202, p7x_215, p7x_222, p7x_227, p7x_230, p7x_235, p7x_240, p7x_243, p7x_246, p7x_249, p7x_252, p7x_255, p7x_258, p7x_261]), (292, [p7x_141, p7x_145, p7x_148, p7x_151, p7x_154, p7x_157, p7x_160, p7x_163, p7x_166, p7x_178, p7x_181, p7x_184, p7x_196, p7x_211, p7x_218, p7x_225, p7x_228, p7x_231, p7x_238, p7x_241, p7x_244, p7x_247, p7x_250, p7x_253, p7x_256, p7x_259, p7x_262]), (234, [p7x_142, p7x_197, p7x_212])]
theorem p7_h {X : Int → Int} {LX : Nat} : ck_OkE p1_O X LX p7_E := ck_E1 (ck_S1 p7x_136_s (ck_S1 p7x_144_s (ck_S1 p7x_147_s (ck_S1 p7x_150_s (ck_S1 p7x_153_s (ck_S1 p7x_156_s (ck_S1 p7x_159_s (ck_S1 p7x_162_s (ck_S1 p7x_165_s (ck_S1 p7x_172_s (ck_S1 p7x_180_s (ck_S1 p7x_183_s (ck_S1 p7x_189_s (ck_S1 p7x_202_s (ck_S1 p7x_215_s (ck_S1 p7x_222_s (ck_S1 p7x_227_s (ck_S1 p7x_230_s (ck_S1 p7x_235_s (ck_S1 p7x_240_s (ck_S1 p7x_243_s (ck_S1 p7x_246_s (ck_S1 p7x_249_s (ck_S1 p7x_252_s (ck_S1 p7x_255_s (ck_S1 p7x_258_s (ck_S1 p7x_261_s ck_S0))))))))))))))))))))))))))) (ck_E1 (ck_S1 p7x_141_s (ck_S1 p7x_145_s (ck_S1 p7x_148_s (ck_S1 p7x_151_s (ck_S1 p7x_154_s (ck_S1 p7x_157_s (ck_S1 p7x_160_s (ck_S1 p7x_163_s (ck_S1 p7x_166_s (ck_S1 p7x_178_s (ck_S1 p7x_181_s (ck_S1 p7x_184_s (ck_S1 p7x_196_s (ck_S1 p7x_211_s (ck_S1 p7x_218_s (ck_S1 p7x_225_s (ck_S1 p7x_228_s (ck_S1 p7x_231_s (ck_S1 p7x_238_s (ck_S1 p7x_241_s (ck_S1 p7x_244_s (ck_S1 p7x_247_s (ck_S1 p7x_250_s (ck_S1 p7x_253_s (ck_S1 p7x_256_s (ck_S1 p7x_259_s (ck_S1 p7x_262_s ck_S0))))))))))))))))))))))))))) (ck_E1 (ck_S1 p7x_142_s (ck_S1 p7x_197_s (ck_S1 p7x_212_s ck_S0))) ck_E0))
set_option maxRecDepth 100000 in
theorem p7_b : (ck_prod [(1, [((-2147483648), (-1)), (0, 2), (3, 2147483647)]), (2, [((-2147483648), (-1)), (0, 39), (40, 2147483647)]), (3, [((-2147483648), (-1)), (0, 299), (300, 2147483647)])]).all (fun xf => ck_go p1_O (some 6) xf p7_E 370 280 245 p1_W p1_outs [] 172 false [] 1000 2000 567 p1_L [] 245 p7_F) = true := by decide +kernel
theorem p7_s {X : Int → Int} {LX : Nat} (hLX : 6 = LX) (hX : ∀ j, gm_ir (X j)) {σ : Nat → Int} {L : gm_L} {K0 K : gm_K} {R0 R : gm_R} {M0 M : gm_M} (hS : ck_St p1_O σ p1_W 245 K0 R0 M0 p1_L [] p7_F L [] 245 K R M) : gm_Wp X LX 280 1000 2000 370 567 L [] 245 K R M (ck_Q p1_O σ p1_W 245 K0 R0 M0 p1_outs) := ck_boxes p7_h hLX hX (by decide +kernel) p7_b hS
